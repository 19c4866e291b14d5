section
set_option maxRecDepth 100000 in
set_option maxHeartbeats 4000000 in
theorem c_X11_advice (G : GL) (ex : Bool) (n : Nat) (σ : Nat → va_E) (F : Nat → Int32) (g : Nat → Nat) (f : Nat → Nat) (nv : Nat → Nat) (ns : Nat → Nat) (mk : Nat → Nat) (va : Nat → Nat) (sp : Nat → Nat) (lo : Nat → Nat) (mc : Nat) (z : Nat) (x : Int32) (hc0 : σ 279 = o11 G F) (hc1 : σ 280 = q_an G 265 g) (hc2 : σ 285 = q_bn G 1681 f) (hc3 : σ 286 = q_an G 1681 nv) (hc4 : σ 287 = q_an G 1681 ns) (hc5 : σ 288 = q_an G 2000 mk) (hc6 : σ 289 = q_an G 6724 va) (hc7 : σ 290 = q_an G 6724 sp) (hc8 : σ 291 = q_an G 80 lo) (hn : 294 ≤ n) (hg9 : s_gwf g) (hmc : mc + 6724 < 2 ^ 31) (hF12 : F 12 = nI mc) (hF16 : F 16 = nI z) (hmk : ∀ v : Nat, v < 2000 → mk v ≤ mc) (hTI : s_TI z lo va sp) (hlo : ∀ j : Nat, j < 80 → lo j < 2 ^ 31) : Ct G yX11_advice cX11_advice 3 (some .int) ⟨7, 0, 0, 160⟩ [.ref (q_h G + 279), .int (x)] ex n σ (fun v9 σ2 => (v9 = some (.int (nI (0))) ∧ (∀ j : Nat, 0 ≤ j → j ≤ 3 → x = nI j → False) ∧ σ2 279 = o11 G (upd F 7 (nI (1))) ∧ (∀ i : Nat, i ≠ 279 → σ2 i = σ i)) ∨ (∃ (x1 : Nat), ∃ (f' : Nat → Nat), ∃ (nv' : Nat → Nat), ∃ (ns' : Nat → Nat), ∃ (mk' : Nat → Nat), ∃ (va' : Nat → Nat), ∃ (sp' : Nat → Nat), ∃ (lo' : Nat → Nat), ∃ (mc' : Nat), ∃ (z' : Nat), ∃ (q1 : Int32), ∃ (q2 : Int32), ∃ (q3 : Int32), v9 = some (.int (nI (s_advA g x1))) ∧ (x = nI x1) ∧ (x1 ≤ 3) ∧ (s_adv g = true) ∧ (s_TI z' lo' va' sp') ∧ (mc' ≤ mc + 6724) ∧ (∀ v : Nat, v < 2000 → mk' v ≤ mc') ∧ (∀ j : Nat, j < 80 → lo' j < 2 ^ 31) ∧ σ2 279 = o11 G (upd (upd (upd (upd (upd (upd F 7 (nI (0))) 12 (nI (mc'))) 16 (nI (z'))) 17 (q1)) 18 (q2)) 19 (q3)) ∧ σ2 285 = q_bn G 1681 f' ∧ σ2 286 = q_an G 1681 nv' ∧ σ2 287 = q_an G 1681 ns' ∧ σ2 288 = q_an G 2000 mk' ∧ σ2 289 = q_an G 6724 va' ∧ σ2 290 = q_an G 6724 sp' ∧ σ2 291 = q_an G 80 lo' ∧ (∀ i : Nat, i ≠ 279 ∧ (i < 285 ∨ 291 < i) → σ2 i = σ i)) ∨ (∃ (x1 : Nat), ∃ (f' : Nat → Nat), ∃ (nv' : Nat → Nat), ∃ (ns' : Nat → Nat), ∃ (mk' : Nat → Nat), ∃ (va' : Nat → Nat), ∃ (sp' : Nat → Nat), ∃ (lo' : Nat → Nat), ∃ (mc' : Nat), ∃ (z' : Nat), ∃ (q1 : Int32), ∃ (q2 : Int32), ∃ (q3 : Int32), v9 = some (.int (q_d (0))) ∧ (x = nI x1) ∧ (x1 ≤ 3) ∧ (s_adv g = false) ∧ (s_TI z' lo' va' sp') ∧ (mc' ≤ mc + 6724) ∧ (∀ v : Nat, v < 2000 → mk' v ≤ mc') ∧ (∀ j : Nat, j < 80 → lo' j < 2 ^ 31) ∧ σ2 279 = o11 G (upd (upd (upd (upd (upd (upd F 7 (nI (0))) 12 (nI (mc'))) 16 (nI (z'))) 17 (q1)) 18 (q2)) 19 (q3)) ∧ σ2 285 = q_bn G 1681 f' ∧ σ2 286 = q_an G 1681 nv' ∧ σ2 287 = q_an G 1681 ns' ∧ σ2 288 = q_an G 2000 mk' ∧ σ2 289 = q_an G 6724 va' ∧ σ2 290 = q_an G 6724 sp' ∧ σ2 291 = q_an G 80 lo' ∧ (∀ i : Nat, i ≠ 279 ∧ (i < 285 ∨ 291 < i) → σ2 i = σ i))) := by
  refine q_enter [some (.ref (q_h G + 279)), some (.int (x)), none] (by decide) (Nat.le_of_ble_eq_true rfl) rfl ?_
  intro K hg
  obtain ⟨Q, hQ⟩ : ∃ Q, Q = q_Q G K ex n 0 0 (fun v9 n' σ' => n' = n ∧ (fun v9 σ2 => (v9 = some (.int (nI (0))) ∧ (∀ j : Nat, 0 ≤ j → j ≤ 3 → x = nI j → False) ∧ σ2 279 = o11 G (upd F 7 (nI (1))) ∧ (∀ i : Nat, i ≠ 279 → σ2 i = σ i)) ∨ (∃ (x1 : Nat), ∃ (f' : Nat → Nat), ∃ (nv' : Nat → Nat), ∃ (ns' : Nat → Nat), ∃ (mk' : Nat → Nat), ∃ (va' : Nat → Nat), ∃ (sp' : Nat → Nat), ∃ (lo' : Nat → Nat), ∃ (mc' : Nat), ∃ (z' : Nat), ∃ (q1 : Int32), ∃ (q2 : Int32), ∃ (q3 : Int32), v9 = some (.int (nI (s_advA g x1))) ∧ (x = nI x1) ∧ (x1 ≤ 3) ∧ (s_adv g = true) ∧ (s_TI z' lo' va' sp') ∧ (mc' ≤ mc + 6724) ∧ (∀ v : Nat, v < 2000 → mk' v ≤ mc') ∧ (∀ j : Nat, j < 80 → lo' j < 2 ^ 31) ∧ σ2 279 = o11 G (upd (upd (upd (upd (upd (upd F 7 (nI (0))) 12 (nI (mc'))) 16 (nI (z'))) 17 (q1)) 18 (q2)) 19 (q3)) ∧ σ2 285 = q_bn G 1681 f' ∧ σ2 286 = q_an G 1681 nv' ∧ σ2 287 = q_an G 1681 ns' ∧ σ2 288 = q_an G 2000 mk' ∧ σ2 289 = q_an G 6724 va' ∧ σ2 290 = q_an G 6724 sp' ∧ σ2 291 = q_an G 80 lo' ∧ (∀ i : Nat, i ≠ 279 ∧ (i < 285 ∨ 291 < i) → σ2 i = σ i)) ∨ (∃ (x1 : Nat), ∃ (f' : Nat → Nat), ∃ (nv' : Nat → Nat), ∃ (ns' : Nat → Nat), ∃ (mk' : Nat → Nat), ∃ (va' : Nat → Nat), ∃ (sp' : Nat → Nat), ∃ (lo' : Nat → Nat), ∃ (mc' : Nat), ∃ (z' : Nat), ∃ (q1 : Int32), ∃ (q2 : Int32), ∃ (q3 : Int32), v9 = some (.int (q_d (0))) ∧ (x = nI x1) ∧ (x1 ≤ 3) ∧ (s_adv g = false) ∧ (s_TI z' lo' va' sp') ∧ (mc' ≤ mc + 6724) ∧ (∀ v : Nat, v < 2000 → mk' v ≤ mc') ∧ (∀ j : Nat, j < 80 → lo' j < 2 ^ 31) ∧ σ2 279 = o11 G (upd (upd (upd (upd (upd (upd F 7 (nI (0))) 12 (nI (mc'))) 16 (nI (z'))) 17 (q1)) 18 (q2)) 19 (q3)) ∧ σ2 285 = q_bn G 1681 f' ∧ σ2 286 = q_an G 1681 nv' ∧ σ2 287 = q_an G 1681 ns' ∧ σ2 288 = q_an G 2000 mk' ∧ σ2 289 = q_an G 6724 va' ∧ σ2 290 = q_an G 6724 sp' ∧ σ2 291 = q_an G 80 lo' ∧ (∀ i : Nat, i ≠ 279 ∧ (i < 285 ∨ 291 < i) → σ2 i = σ i))) v9 σ') q_noX := ⟨_, rfl⟩
  refine (?_ : AJ G K (q_Q G K ex n 0 0 _ _) 0 0 ex n 0 _ _ σ)
  rw [← hQ]
  have htl := s_tot_lt hg9
  refine A_aload_n hg dX11_advice_0 rfl rfl ?_
  refine A_iconst (v := (nI (0))) hg dX11_advice_1 (by decide) ?_
  refine A_putf hg fl_RX11_67 dX11_advice_2 hc0 (by omega) (Nat.le_of_ble_eq_true rfl) rfl rfl rfl (fun σ_1 hc_2 hf_3 => ?_)
  have hc_2 : σ_1 279 = o11 G (upd F 7 (nI (0))) := hc_2
  have hc_4 : σ_1 280 = q_an G 265 g := (hf_3 _ (by omega)).trans hc1
  have hc_5 : σ_1 285 = q_bn G 1681 f := (hf_3 _ (by omega)).trans hc2
  have hc_6 : σ_1 286 = q_an G 1681 nv := (hf_3 _ (by omega)).trans hc3
  have hc_7 : σ_1 287 = q_an G 1681 ns := (hf_3 _ (by omega)).trans hc4
  have hc_8 : σ_1 288 = q_an G 2000 mk := (hf_3 _ (by omega)).trans hc5
  have hc_9 : σ_1 289 = q_an G 6724 va := (hf_3 _ (by omega)).trans hc6
  have hc_10 : σ_1 290 = q_an G 6724 sp := (hf_3 _ (by omega)).trans hc7
  have hc_11 : σ_1 291 = q_an G 80 lo := (hf_3 _ (by omega)).trans hc8
  refine A_aload_n hg dX11_advice_5 rfl rfl ?_
  refine A_iload_n hg dX11_advice_6 rfl rfl ?_
  refine A_iconst (v := (nI (0))) hg dX11_advice_7 (by decide) ?_
  refine A_iconst (v := (nI (3))) hg dX11_advice_8 (by decide) ?_
  refine A_eS (kc2 := 0) (ks2 := 0) (As := [.int (x), .int (nI (0)), .int (nI (3))]) (rest := [.ref (q_h G + 279)]) hg lk_RX11_77 st_X11_inRange dX11_advice_9 ⟨by decide, by decide⟩ rfl rfl ⟨by decide, by decide⟩ rfl rfl (Nat.le_of_ble_eq_true rfl) (c_X11_inRange G ex n σ_1 x (nI (0)) (nI (3))) ?_
  refine A_if_neB (tgt := 19) hg dX11_advice_12 (by decide) (fun c12 => ?_) (fun c12 => ?_)
  · skip
    refine A_iconst (v := (nI (0))) hg dX11_advice_19 (by decide) ?_
    refine A_iconst (v := (nI (1))) hg dX11_advice_20 (by decide) ?_
    refine A_eV (kc2 := 0) (ks2 := 0) (As := [.int (nI (0)), .int (nI (1))]) (rest := []) hg lk_RX11_81 in_X11_fails se_X11_fails rfl dX11_advice_21 ⟨by decide, by decide⟩ rfl rfl ⟨by decide, by decide⟩ hc_2 (by omega) rfl rfl (Nat.le_of_ble_eq_true rfl) (c_X11_fails0 G ex n σ_1 (upd F 7 (nI (0))) (nI (1)) hc_2 (by omega)) ?_
    refine A_if_eqN (tgt := 29) hg dX11_advice_24 (by decide) (by decide) (fun c24 => ?_) (fun c24 => absurd (by decide) c24)
    obtain ⟨x1, hxe, -, hxl⟩ := q_in_nat (by decide) c12 (by decide)
    subst hxe
    refine A_aload_n hg dX11_advice_29 rfl rfl ?_
    refine A_vV (kc2 := 0) (ks2 := 0) (As := []) (rest := []) hg lk_RX11_389 in_X11_laysAll se_X11_laysAll rfl dX11_advice_30 ⟨by decide, by decide⟩ rfl rfl ⟨by decide, by decide⟩ hc_2 (by omega) rfl rfl (Nat.le_of_ble_eq_true rfl) (c_X11_laysAll G ex n σ_1 (upd F 7 (nI (0))) g f nv ns mk va sp lo mc z hc_2 hc_4 hc_5 hc_6 hc_7 hc_8 hc_9 hc_10 hc_11 (by omega) hg9.1 hg9.2.2.2.2.2.1 (by omega) hF12 hF16 hmk hTI hlo) ?_
    rintro σ_21 ⟨f', nv', ns', mk', va', sp', lo', mc', z', hTI2, hCU2, hmc2, hmk2, hlo2, hc_12, hc_13, hc_14, hc_15, hc_16, hc_17, hc_18, hc_19, hf_20⟩
    have hc_12 : σ_21 279 = o11 G (upd (upd (upd F 7 (nI (0))) 12 (nI (mc'))) 16 (nI (z'))) := hc_12
    have hc_22 : σ_21 280 = q_an G 265 g := (hf_20 _ (by omega)).trans hc_4
    have hCV2 : ∀ r : Nat, r < g 0 → ∀ q : Nat, q < 1681 → va' (1681 * r + q) = s_V (s_rule g r) q := fun r hr q hq => (hCU2 r hr q hq).1
    refine A_aload_n hg dX11_advice_33 rfl rfl ?_
    refine A_eV (kc2 := 0) (ks2 := 0) (As := []) (rest := []) hg lk_RX11_206 in_X11_total se_X11_total rfl dX11_advice_34 ⟨by decide, by decide⟩ rfl rfl ⟨by decide, by decide⟩ hc_12 (by omega) rfl rfl (Nat.le_of_ble_eq_true rfl) (c_X11_total G ex n σ_21 (upd (upd (upd F 7 (nI (0))) 12 (nI (mc'))) 16 (nI (z'))) g va' hc_12 hc_22 hc_17 (by omega) hg9 hCV2) ?_
    refine A_istore_n hg dX11_advice_37 rfl (by decide) (q_c1d rfl) ?_
    refine A_eq (ls2 := [some (.ref (q_h G + 279)), some (.int (nI (x1))), some (.int (nI (s_tot g)))]) (st2 := []) (pc2 := 0) rfl rfl ?_
    refine A_aload_n hg dX11_advice_38 rfl rfl ?_
    refine A_hV (kc2 := 0) (ks2 := 0) (As := []) (rest := []) hg lk_RX11_247 in_X11_advises se_X11_advises rfl dX11_advice_39 ⟨by decide, by decide⟩ rfl rfl ⟨by decide, by decide⟩ hc_12 (by omega) rfl rfl (Nat.le_of_ble_eq_true rfl) (c_X11_advises G ex n σ_21 (upd (upd (upd F 7 (nI (0))) 12 (nI (mc'))) 16 (nI (z'))) g va' hc_12 hc_22 hc_17 (by omega) hg9 hCV2) ?_
    rintro _ σ_26 (⟨rfl, hadv, hc_23, hf_24⟩ | ⟨rfl, hadv, he_25⟩)
    · skip
      refine (?_ : AJ G K Q 0 0 ex n 42 [some (.ref (q_h G + 279)), some (.int (nI (x1))), some (.int (nI (s_tot g)))] [.int (nI (1))] σ_26)
      have hc_23 : σ_26 279 = o11 G (upd (upd (upd (upd (upd (upd F 7 (nI (0))) 12 (nI (mc'))) 16 (nI (z'))) 17 (nI (s_ap g))) 18 (nI (s_ak g))) 19 (nI (s_al2 g))) := hc_23
      have hc_27 : σ_26 280 = q_an G 265 g := (hf_24 _ (by omega)).trans hc_22
      have hc_28 : σ_26 285 = q_bn G 1681 f' := (hf_24 _ (by omega)).trans hc_13
      have hc_29 : σ_26 286 = q_an G 1681 nv' := (hf_24 _ (by omega)).trans hc_14
      have hc_30 : σ_26 287 = q_an G 1681 ns' := (hf_24 _ (by omega)).trans hc_15
      have hc_31 : σ_26 288 = q_an G 2000 mk' := (hf_24 _ (by omega)).trans hc_16
      have hc_32 : σ_26 289 = q_an G 6724 va' := (hf_24 _ (by omega)).trans hc_17
      have hc_33 : σ_26 290 = q_an G 6724 sp' := (hf_24 _ (by omega)).trans hc_18
      have hc_34 : σ_26 291 = q_an G 80 lo' := (hf_24 _ (by omega)).trans hc_19
      refine A_if_neN (tgt := 47) hg dX11_advice_42 (by decide) (by decide) (fun c42 => ?_) (fun c42 => absurd c42 (by decide))
      refine A_iload_n hg dX11_advice_47 rfl rfl ?_
      refine A_if_neN (tgt := 58) hg dX11_advice_48 (by omega) (by decide) (fun c48 => ?_) (fun c48 => ?_)
      · skip
        refine A_iload_n hg dX11_advice_58 rfl rfl ?_
        refine A_iconst (v := (nI (1))) hg dX11_advice_59 (by decide) ?_
        refine A_icmp_neN (tgt := 70) hg dX11_advice_60 (by omega) (by decide) (by decide) (fun c60 => ?_) (fun c60 => ?_)
        · skip
          refine A_iload_n hg dX11_advice_70 rfl rfl ?_
          refine A_iconst (v := (nI (2))) hg dX11_advice_71 (by decide) ?_
          refine A_icmp_neN (tgt := 82) hg dX11_advice_72 (by omega) (by decide) (by decide) (fun c72 => ?_) (fun c72 => ?_)
          · skip
            refine A_iload_n hg dX11_advice_82 rfl rfl ?_
            refine A_if_eqN (tgt := 90) hg dX11_advice_83 (by omega) (by decide) (fun c83 => ?_) (fun c83 => ?_)
            · skip
              refine A_iconst (v := (nI (0))) hg dX11_advice_90 (by decide) ?_
              rw [hQ]
              exact A_ireturn hg (by decide) (by decide) rfl dX11_advice_91 ⟨rfl, Or.inr (Or.inl (⟨x1, f', nv', ns', mk', va', sp', lo', mc', z', (nI (s_ap g)), (nI (s_ak g)), (nI (s_al2 g)), (by show some (Value.int _) = some (Value.int (nI (s_advA g x1))); unfold s_advA; first | rw [if_pos c48] | rw [if_neg c48, if_pos c60] | rw [if_neg c48, if_neg c60, if_pos c72] | rw [if_neg c48, if_neg c60, if_neg c72, if_pos c83] | rw [if_neg c48, if_neg c60, if_neg c72, if_neg c83]), (by first | rfl | assumption | omega), (by first | rfl | assumption | omega), hadv, hTI2, hmc2, hmk2, hlo2, hc_23, hc_28, hc_29, hc_30, hc_31, hc_32, hc_33, hc_34, (fun i hi => ((hf_24 i (by omega)).trans ((hf_20 i (by omega)).trans (hf_3 i (by omega)))))⟩))⟩
            · skip
              refine A_iconst (v := (nI (1))) hg dX11_advice_86 (by decide) ?_
              refine A_goto (tgt := 91) hg dX11_advice_87 (by decide) ?_
              rw [hQ]
              exact A_ireturn hg (by decide) (by decide) rfl dX11_advice_91 ⟨rfl, Or.inr (Or.inl (⟨x1, f', nv', ns', mk', va', sp', lo', mc', z', (nI (s_ap g)), (nI (s_ak g)), (nI (s_al2 g)), (by show some (Value.int _) = some (Value.int (nI (s_advA g x1))); unfold s_advA; first | rw [if_pos c48] | rw [if_neg c48, if_pos c60] | rw [if_neg c48, if_neg c60, if_pos c72] | rw [if_neg c48, if_neg c60, if_neg c72, if_pos c83] | rw [if_neg c48, if_neg c60, if_neg c72, if_neg c83]), (by first | rfl | assumption | omega), (by first | rfl | assumption | omega), hadv, hTI2, hmc2, hmk2, hlo2, hc_23, hc_28, hc_29, hc_30, hc_31, hc_32, hc_33, hc_34, (fun i hi => ((hf_24 i (by omega)).trans ((hf_20 i (by omega)).trans (hf_3 i (by omega)))))⟩))⟩
          · skip
            refine A_aload_n hg dX11_advice_75 rfl rfl ?_
            refine A_getf (v := .int (nI (s_al2 g))) hg fl_RX11_222 dX11_advice_76 hc_23 (by omega) rfl ?_
            refine A_goto (tgt := 91) hg dX11_advice_79 (by decide) ?_
            rw [hQ]
            exact A_ireturn hg (by decide) (by decide) rfl dX11_advice_91 ⟨rfl, Or.inr (Or.inl (⟨x1, f', nv', ns', mk', va', sp', lo', mc', z', (nI (s_ap g)), (nI (s_ak g)), (nI (s_al2 g)), (by show some (Value.int _) = some (Value.int (nI (s_advA g x1))); unfold s_advA; first | rw [if_pos c48] | rw [if_neg c48, if_pos c60] | rw [if_neg c48, if_neg c60, if_pos c72] | rw [if_neg c48, if_neg c60, if_neg c72, if_pos c83] | rw [if_neg c48, if_neg c60, if_neg c72, if_neg c83]), (by first | rfl | assumption | omega), (by first | rfl | assumption | omega), hadv, hTI2, hmc2, hmk2, hlo2, hc_23, hc_28, hc_29, hc_30, hc_31, hc_32, hc_33, hc_34, (fun i hi => ((hf_24 i (by omega)).trans ((hf_20 i (by omega)).trans (hf_3 i (by omega)))))⟩))⟩
        · skip
          refine A_aload_n hg dX11_advice_63 rfl rfl ?_
          refine A_getf (v := .int (nI (s_ak g))) hg fl_RX11_219 dX11_advice_64 hc_23 (by omega) rfl ?_
          refine A_goto (tgt := 91) hg dX11_advice_67 (by decide) ?_
          rw [hQ]
          exact A_ireturn hg (by decide) (by decide) rfl dX11_advice_91 ⟨rfl, Or.inr (Or.inl (⟨x1, f', nv', ns', mk', va', sp', lo', mc', z', (nI (s_ap g)), (nI (s_ak g)), (nI (s_al2 g)), (by show some (Value.int _) = some (Value.int (nI (s_advA g x1))); unfold s_advA; first | rw [if_pos c48] | rw [if_neg c48, if_pos c60] | rw [if_neg c48, if_neg c60, if_pos c72] | rw [if_neg c48, if_neg c60, if_neg c72, if_pos c83] | rw [if_neg c48, if_neg c60, if_neg c72, if_neg c83]), (by first | rfl | assumption | omega), (by first | rfl | assumption | omega), hadv, hTI2, hmc2, hmk2, hlo2, hc_23, hc_28, hc_29, hc_30, hc_31, hc_32, hc_33, hc_34, (fun i hi => ((hf_24 i (by omega)).trans ((hf_20 i (by omega)).trans (hf_3 i (by omega)))))⟩))⟩
      · skip
        refine A_aload_n hg dX11_advice_51 rfl rfl ?_
        refine A_getf (v := .int (nI (s_ap g))) hg fl_RX11_216 dX11_advice_52 hc_23 (by omega) rfl ?_
        refine A_goto (tgt := 91) hg dX11_advice_55 (by decide) ?_
        rw [hQ]
        exact A_ireturn hg (by decide) (by decide) rfl dX11_advice_91 ⟨rfl, Or.inr (Or.inl (⟨x1, f', nv', ns', mk', va', sp', lo', mc', z', (nI (s_ap g)), (nI (s_ak g)), (nI (s_al2 g)), (by show some (Value.int _) = some (Value.int (nI (s_advA g x1))); unfold s_advA; first | rw [if_pos c48] | rw [if_neg c48, if_pos c60] | rw [if_neg c48, if_neg c60, if_pos c72] | rw [if_neg c48, if_neg c60, if_neg c72, if_pos c83] | rw [if_neg c48, if_neg c60, if_neg c72, if_neg c83]), (by first | rfl | assumption | omega), (by first | rfl | assumption | omega), hadv, hTI2, hmc2, hmk2, hlo2, hc_23, hc_28, hc_29, hc_30, hc_31, hc_32, hc_33, hc_34, (fun i hi => ((hf_24 i (by omega)).trans ((hf_20 i (by omega)).trans (hf_3 i (by omega)))))⟩))⟩
    · skip
      rw [he_25]
      refine (?_ : AJ G K Q 0 0 ex n 42 [some (.ref (q_h G + 279)), some (.int (nI (x1))), some (.int (nI (s_tot g)))] [.int (nI (0))] σ_21)
      refine A_if_neN (tgt := 47) hg dX11_advice_42 (by decide) (by decide) (fun c42 => absurd (by decide) c42) (fun c42 => ?_)
      refine A_iconst (v := (q_d (0))) hg dX11_advice_45 (by decide) ?_
      rw [hQ]
      exact A_ireturn hg (by decide) (by decide) rfl dX11_advice_46 ⟨rfl, Or.inr (Or.inr ((⟨x1, f', nv', ns', mk', va', sp', lo', mc', z', (F 17), (F 18), (F 19), rfl, (by first | rfl | assumption | omega), (by first | rfl | assumption | omega), hadv, hTI2, hmc2, hmk2, hlo2, hc_12, hc_13, hc_14, hc_15, hc_16, hc_17, hc_18, hc_19, (fun i hi => ((hf_20 i (by omega)).trans (hf_3 i (by omega))))⟩)))⟩
  · skip
    refine A_iconst (v := (nI (1))) hg dX11_advice_15 (by decide) ?_
    refine A_goto (tgt := 20) hg dX11_advice_16 (by decide) ?_
    refine A_iconst (v := (nI (1))) hg dX11_advice_20 (by decide) ?_
    refine A_hV (kc2 := 0) (ks2 := 0) (As := [.int (nI (1)), .int (nI (1))]) (rest := []) hg lk_RX11_81 in_X11_fails se_X11_fails rfl dX11_advice_21 ⟨by decide, by decide⟩ rfl rfl ⟨by decide, by decide⟩ hc_2 (by omega) rfl rfl (Nat.le_of_ble_eq_true rfl) (c_X11_fails1 G ex n σ_1 (upd F 7 (nI (0))) 1 hc_2 (by omega)) ?_
    rintro _ σ_37 ⟨rfl, hc_35, hf_36⟩
    refine (?_ : AJ G K Q 0 0 ex n 24 [some (.ref (q_h G + 279)), some (.int (x)), none] [.int (nI (1))] σ_37)
    have hc_35 : σ_37 279 = o11 G (upd F 7 (nI (1))) := hc_35
    have hc_38 : σ_37 280 = q_an G 265 g := (hf_36 _ (by omega)).trans hc_4
    have hc_39 : σ_37 285 = q_bn G 1681 f := (hf_36 _ (by omega)).trans hc_5
    have hc_40 : σ_37 286 = q_an G 1681 nv := (hf_36 _ (by omega)).trans hc_6
    have hc_41 : σ_37 287 = q_an G 1681 ns := (hf_36 _ (by omega)).trans hc_7
    have hc_42 : σ_37 288 = q_an G 2000 mk := (hf_36 _ (by omega)).trans hc_8
    have hc_43 : σ_37 289 = q_an G 6724 va := (hf_36 _ (by omega)).trans hc_9
    have hc_44 : σ_37 290 = q_an G 6724 sp := (hf_36 _ (by omega)).trans hc_10
    have hc_45 : σ_37 291 = q_an G 80 lo := (hf_36 _ (by omega)).trans hc_11
    refine A_if_eqN (tgt := 29) hg dX11_advice_24 (by decide) (by decide) (fun c24 => absurd c24 (by decide)) (fun c24 => ?_)
    refine A_iconst (v := (nI (0))) hg dX11_advice_27 (by decide) ?_
    rw [hQ]
    exact A_ireturn hg (by decide) (by decide) rfl dX11_advice_28 ⟨rfl, Or.inl (⟨rfl, (q_range_f (by decide) c12), hc_35, (fun i hi => ((hf_36 i (by omega)).trans (hf_3 i (by omega))))⟩)⟩
set_option maxRecDepth 100000 in
set_option maxHeartbeats 4000000 in
theorem c_X11_allowsBarred (G : GL) (ex : Bool) (n : Nat) (σ : Nat → va_E) (F : Nat → Int32) (g : Nat → Nat) (r : Nat) (k : Nat) (l : Nat) (hc0 : σ 279 = o11 G F) (hc1 : σ 280 = q_an G 265 g) (hn : 294 ≤ n) (hr : r < 4) (hw : s_rwf (s_rule g r)) (hk : k ≤ 100) (hl : l ≤ 100) : Ct G yX11_allowsBarred cX11_allowsBarred 5 (some .boolean) ⟨3, 0, 0, 70⟩ [.ref (q_h G + 279), .int (nI (r)), .int (nI (k)), .int (nI (l))] ex n σ (fun v9 σ2 => σ2 = σ ∧ v9 = some (.int (q_b (s_alB (s_rule g r) k l)))) := by
  refine q_enter [some (.ref (q_h G + 279)), some (.int (nI (r))), some (.int (nI (k))), some (.int (nI (l))), none] (by decide) (Nat.le_of_ble_eq_true rfl) rfl ?_
  intro K hg
  obtain ⟨Q, hQ⟩ : ∃ Q, Q = q_Q G K ex n 0 0 (fun v9 n' σ' => n' = n ∧ (fun v9 σ2 => σ2 = σ ∧ v9 = some (.int (q_b (s_alB (s_rule g r) k l)))) v9 σ') q_noX := ⟨_, rfl⟩
  refine (?_ : AJ G K (q_Q G K ex n 0 0 _ _) 0 0 ex n 0 _ _ σ)
  rw [← hQ]
  refine A_aload_n hg dX11_allowsBarred_0 rfl rfl ?_
  refine A_iload_n hg dX11_allowsBarred_1 rfl rfl ?_
  refine A_iload_n hg dX11_allowsBarred_2 rfl rfl ?_
  refine A_iload_n hg dX11_allowsBarred_3 rfl rfl ?_
  refine A_eV (kc2 := 0) (ks2 := 0) (As := [.int (nI (r)), .int (nI (k)), .int (nI (l))]) (rest := []) hg lk_RX11_106 in_X11_forbids se_X11_forbids rfl dX11_allowsBarred_4 ⟨by decide, by decide⟩ rfl rfl ⟨by decide, by decide⟩ hc0 (by omega) rfl rfl (Nat.le_of_ble_eq_true rfl) (c_X11_forbids G ex n σ F g r k l hc0 hc1 (by omega) (by omega) (by omega) (by omega) (by omega)) ?_
  have hf7 := s_forb_le (s_rule g r) k l
  refine A_istore hg dX11_allowsBarred_7 (by decide) (q_c1d rfl) ?_
  refine A_eq (ls2 := [some (.ref (q_h G + 279)), some (.int (nI (r))), some (.int (nI (k))), some (.int (nI (l))), some (.int (nI (s_forb (s_rule g r) k l)))]) (st2 := []) (pc2 := 0) rfl rfl ?_
  refine A_iload hg dX11_allowsBarred_9 rfl ?_
  refine A_if_eqN (tgt := 21) hg dX11_allowsBarred_11 (by omega) (by decide) (fun c11 => ?_) (fun c11 => ?_)
  · skip
    refine A_iconst (v := (nI (1))) hg dX11_allowsBarred_21 (by decide) ?_
    refine A_goto (tgt := 26) hg dX11_allowsBarred_22 (by decide) ?_
    rw [hQ]
    exact A_zreturn hg (by decide) (by decide) rfl rfl dX11_allowsBarred_26 ⟨rfl, ⟨rfl, (q_rt (by unfold s_alB; first | (rw [c11]; rfl) | (rw [c18]; rfl)))⟩⟩
  · skip
    refine A_iload hg dX11_allowsBarred_14 rfl ?_
    refine A_bipush (v := (nI (7))) hg dX11_allowsBarred_16 (by decide) ?_
    refine A_icmp_neN (tgt := 25) hg dX11_allowsBarred_18 (by omega) (by decide) (by decide) (fun c18 => ?_) (fun c18 => ?_)
    · skip
      refine A_iconst (v := (nI (0))) hg dX11_allowsBarred_25 (by decide) ?_
      rw [hQ]
      exact A_zreturn hg (by decide) (by decide) rfl rfl dX11_allowsBarred_26 ⟨rfl, ⟨rfl, (q_rf (by unfold s_alB; rw [beq_eq_false_iff_ne.mpr c11, beq_eq_false_iff_ne.mpr c18]; rfl))⟩⟩
    · skip
      refine A_iconst (v := (nI (1))) hg dX11_allowsBarred_21 (by decide) ?_
      refine A_goto (tgt := 26) hg dX11_allowsBarred_22 (by decide) ?_
      rw [hQ]
      exact A_zreturn hg (by decide) (by decide) rfl rfl dX11_allowsBarred_26 ⟨rfl, ⟨rfl, (q_rt (by unfold s_alB; first | (rw [c11]; rfl) | (rw [c18]; rfl)))⟩⟩
end
