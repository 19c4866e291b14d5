section
set_option maxRecDepth 100000 in
set_option maxHeartbeats 4000000 in
theorem c_X11_partner (G : GL) (ex : Bool) (n : Nat) (σ : Nat → va_E) (F : Nat → Int32) (g : Nat → Nat) (f : Nat → Nat) (nv : Nat → Nat) (ns : Nat → Nat) (mk : Nat → Nat) (va : Nat → Nat) (sp : Nat → Nat) (lo : Nat → Nat) (mc : Nat) (z : Nat) (r : Int32) (k : Int32) (hc0 : σ 279 = o11 G F) (hc1 : σ 280 = q_an G 265 g) (hc2 : σ 285 = q_bn G 1681 f) (hc3 : σ 286 = q_an G 1681 nv) (hc4 : σ 287 = q_an G 1681 ns) (hc5 : σ 288 = q_an G 2000 mk) (hc6 : σ 289 = q_an G 6724 va) (hc7 : σ 290 = q_an G 6724 sp) (hc8 : σ 291 = q_an G 80 lo) (hn : 294 ≤ n) (hg9 : s_gwf g) (hmc : mc + 6724 < 2 ^ 31) (hF12 : F 12 = nI mc) (hF16 : F 16 = nI z) (hmk : ∀ v : Nat, v < 2000 → mk v ≤ mc) (hTI : s_TI z lo va sp) (hlo : ∀ j : Nat, j < 80 → lo j < 2 ^ 31) : Ct G yX11_partner cX11_partner 4 (some .int) ⟨6, 0, 0, 137⟩ [.ref (q_h G + 279), .int (r), .int (k)] ex n σ (fun v9 σ2 => (v9 = some (.int (nI (0))) ∧ (∀ j : Nat, j < g 0 → r = nI j → False) ∧ σ2 279 = o11 G (upd F 7 (nI (1))) ∧ (∀ i : Nat, i ≠ 279 → σ2 i = σ i)) ∨ (∃ (r1 : Nat), v9 = some (.int (nI (0))) ∧ (r = nI r1) ∧ (r1 < g 0) ∧ (∀ a : Nat, a ≤ 40 → k = nI a → False) ∧ σ2 279 = o11 G (upd F 7 (nI (2))) ∧ (∀ i : Nat, i ≠ 279 → σ2 i = σ i)) ∨ (∃ (r1 : Nat), ∃ (a1 : Nat), ∃ (f' : Nat → Nat), ∃ (nv' : Nat → Nat), ∃ (ns' : Nat → Nat), ∃ (mk' : Nat → Nat), ∃ (va' : Nat → Nat), ∃ (sp' : Nat → Nat), ∃ (lo' : Nat → Nat), ∃ (mc' : Nat), ∃ (z' : Nat), v9 = some (.int (nI (s_ptn (s_rule g r1) a1))) ∧ (r = nI r1) ∧ (r1 < g 0) ∧ (k = nI a1) ∧ (a1 ≤ 40) ∧ (s_pta (s_rule g r1) a1 = true) ∧ (s_TI z' lo' va' sp') ∧ (mc' ≤ mc + 6724) ∧ (∀ v : Nat, v < 2000 → mk' v ≤ mc') ∧ (∀ j : Nat, j < 80 → lo' j < 2 ^ 31) ∧ σ2 279 = o11 G (upd (upd (upd F 7 (nI (0))) 12 (nI (mc'))) 16 (nI (z'))) ∧ σ2 285 = q_bn G 1681 f' ∧ σ2 286 = q_an G 1681 nv' ∧ σ2 287 = q_an G 1681 ns' ∧ σ2 288 = q_an G 2000 mk' ∧ σ2 289 = q_an G 6724 va' ∧ σ2 290 = q_an G 6724 sp' ∧ σ2 291 = q_an G 80 lo' ∧ (∀ i : Nat, i ≠ 279 ∧ (i < 285 ∨ 291 < i) → σ2 i = σ i)) ∨ (∃ (r1 : Nat), ∃ (a1 : Nat), ∃ (f' : Nat → Nat), ∃ (nv' : Nat → Nat), ∃ (ns' : Nat → Nat), ∃ (mk' : Nat → Nat), ∃ (va' : Nat → Nat), ∃ (sp' : Nat → Nat), ∃ (lo' : Nat → Nat), ∃ (mc' : Nat), ∃ (z' : Nat), v9 = some (.int (q_d (0))) ∧ (r = nI r1) ∧ (r1 < g 0) ∧ (k = nI a1) ∧ (a1 ≤ 40) ∧ (s_pta (s_rule g r1) a1 = false) ∧ (s_TI z' lo' va' sp') ∧ (mc' ≤ mc + 6724) ∧ (∀ v : Nat, v < 2000 → mk' v ≤ mc') ∧ (∀ j : Nat, j < 80 → lo' j < 2 ^ 31) ∧ σ2 279 = o11 G (upd (upd (upd F 7 (nI (0))) 12 (nI (mc'))) 16 (nI (z'))) ∧ σ2 285 = q_bn G 1681 f' ∧ σ2 286 = q_an G 1681 nv' ∧ σ2 287 = q_an G 1681 ns' ∧ σ2 288 = q_an G 2000 mk' ∧ σ2 289 = q_an G 6724 va' ∧ σ2 290 = q_an G 6724 sp' ∧ σ2 291 = q_an G 80 lo' ∧ (∀ i : Nat, i ≠ 279 ∧ (i < 285 ∨ 291 < i) → σ2 i = σ i))) := by
  refine q_enter [some (.ref (q_h G + 279)), some (.int (r)), some (.int (k)), none] (by decide) (Nat.le_of_ble_eq_true rfl) rfl ?_
  intro K hg
  obtain ⟨Q, hQ⟩ : ∃ Q, Q = q_Q G K ex n 0 0 (fun v9 n' σ' => n' = n ∧ (fun v9 σ2 => (v9 = some (.int (nI (0))) ∧ (∀ j : Nat, j < g 0 → r = nI j → False) ∧ σ2 279 = o11 G (upd F 7 (nI (1))) ∧ (∀ i : Nat, i ≠ 279 → σ2 i = σ i)) ∨ (∃ (r1 : Nat), v9 = some (.int (nI (0))) ∧ (r = nI r1) ∧ (r1 < g 0) ∧ (∀ a : Nat, a ≤ 40 → k = nI a → False) ∧ σ2 279 = o11 G (upd F 7 (nI (2))) ∧ (∀ i : Nat, i ≠ 279 → σ2 i = σ i)) ∨ (∃ (r1 : Nat), ∃ (a1 : Nat), ∃ (f' : Nat → Nat), ∃ (nv' : Nat → Nat), ∃ (ns' : Nat → Nat), ∃ (mk' : Nat → Nat), ∃ (va' : Nat → Nat), ∃ (sp' : Nat → Nat), ∃ (lo' : Nat → Nat), ∃ (mc' : Nat), ∃ (z' : Nat), v9 = some (.int (nI (s_ptn (s_rule g r1) a1))) ∧ (r = nI r1) ∧ (r1 < g 0) ∧ (k = nI a1) ∧ (a1 ≤ 40) ∧ (s_pta (s_rule g r1) a1 = true) ∧ (s_TI z' lo' va' sp') ∧ (mc' ≤ mc + 6724) ∧ (∀ v : Nat, v < 2000 → mk' v ≤ mc') ∧ (∀ j : Nat, j < 80 → lo' j < 2 ^ 31) ∧ σ2 279 = o11 G (upd (upd (upd F 7 (nI (0))) 12 (nI (mc'))) 16 (nI (z'))) ∧ σ2 285 = q_bn G 1681 f' ∧ σ2 286 = q_an G 1681 nv' ∧ σ2 287 = q_an G 1681 ns' ∧ σ2 288 = q_an G 2000 mk' ∧ σ2 289 = q_an G 6724 va' ∧ σ2 290 = q_an G 6724 sp' ∧ σ2 291 = q_an G 80 lo' ∧ (∀ i : Nat, i ≠ 279 ∧ (i < 285 ∨ 291 < i) → σ2 i = σ i)) ∨ (∃ (r1 : Nat), ∃ (a1 : Nat), ∃ (f' : Nat → Nat), ∃ (nv' : Nat → Nat), ∃ (ns' : Nat → Nat), ∃ (mk' : Nat → Nat), ∃ (va' : Nat → Nat), ∃ (sp' : Nat → Nat), ∃ (lo' : Nat → Nat), ∃ (mc' : Nat), ∃ (z' : Nat), v9 = some (.int (q_d (0))) ∧ (r = nI r1) ∧ (r1 < g 0) ∧ (k = nI a1) ∧ (a1 ≤ 40) ∧ (s_pta (s_rule g r1) a1 = false) ∧ (s_TI z' lo' va' sp') ∧ (mc' ≤ mc + 6724) ∧ (∀ v : Nat, v < 2000 → mk' v ≤ mc') ∧ (∀ j : Nat, j < 80 → lo' j < 2 ^ 31) ∧ σ2 279 = o11 G (upd (upd (upd F 7 (nI (0))) 12 (nI (mc'))) 16 (nI (z'))) ∧ σ2 285 = q_bn G 1681 f' ∧ σ2 286 = q_an G 1681 nv' ∧ σ2 287 = q_an G 1681 ns' ∧ σ2 288 = q_an G 2000 mk' ∧ σ2 289 = q_an G 6724 va' ∧ σ2 290 = q_an G 6724 sp' ∧ σ2 291 = q_an G 80 lo' ∧ (∀ i : Nat, i ≠ 279 ∧ (i < 285 ∨ 291 < i) → σ2 i = σ i))) v9 σ') q_noX := ⟨_, rfl⟩
  refine (?_ : AJ G K (q_Q G K ex n 0 0 _ _) 0 0 ex n 0 _ _ σ)
  rw [← hQ]
  have hnr : g 0 ≤ 4 := hg9.1
  refine A_aload_n hg dX11_partner_0 rfl rfl ?_
  refine A_iconst (v := (nI (0))) hg dX11_partner_1 (by decide) ?_
  refine A_putf hg fl_RX11_67 dX11_partner_2 hc0 (by omega) (Nat.le_of_ble_eq_true rfl) rfl rfl rfl (fun σ_1 hc_2 hf_3 => ?_)
  have hc_2 : σ_1 279 = o11 G (upd F 7 (nI (0))) := hc_2
  have hc_4 : σ_1 280 = q_an G 265 g := (hf_3 _ (by omega)).trans hc1
  have hc_5 : σ_1 285 = q_bn G 1681 f := (hf_3 _ (by omega)).trans hc2
  have hc_6 : σ_1 286 = q_an G 1681 nv := (hf_3 _ (by omega)).trans hc3
  have hc_7 : σ_1 287 = q_an G 1681 ns := (hf_3 _ (by omega)).trans hc4
  have hc_8 : σ_1 288 = q_an G 2000 mk := (hf_3 _ (by omega)).trans hc5
  have hc_9 : σ_1 289 = q_an G 6724 va := (hf_3 _ (by omega)).trans hc6
  have hc_10 : σ_1 290 = q_an G 6724 sp := (hf_3 _ (by omega)).trans hc7
  have hc_11 : σ_1 291 = q_an G 80 lo := (hf_3 _ (by omega)).trans hc8
  refine A_aload_n hg dX11_partner_5 rfl rfl ?_
  refine A_iload_n hg dX11_partner_6 rfl rfl ?_
  refine A_hV (kc2 := 0) (ks2 := 0) (As := [.int (r)]) (rest := []) hg lk_RX11_402 in_X11_noRule se_X11_noRule rfl dX11_partner_7 ⟨by decide, by decide⟩ rfl rfl ⟨by decide, by decide⟩ hc_2 (by omega) rfl rfl (Nat.le_of_ble_eq_true rfl) (c_X11_noRule G ex n σ_1 (upd F 7 (nI (0))) g r hc_2 hc_4 (by omega) (by omega)) ?_
  rintro _ σ_15 (⟨rfl, hno, hc_12, hf_13⟩ | ⟨r1, rfl, hre, hrl, he_14⟩)
  · skip
    refine (?_ : AJ G K Q 0 0 ex n 10 [some (.ref (q_h G + 279)), some (.int (r)), some (.int (k)), none] [.int (nI (1))] σ_15)
    have hc_12 : σ_15 279 = o11 G (upd F 7 (nI (1))) := hc_12
    have hc_16 : σ_15 280 = q_an G 265 g := (hf_13 _ (by omega)).trans hc_4
    have hc_17 : σ_15 285 = q_bn G 1681 f := (hf_13 _ (by omega)).trans hc_5
    have hc_18 : σ_15 286 = q_an G 1681 nv := (hf_13 _ (by omega)).trans hc_6
    have hc_19 : σ_15 287 = q_an G 1681 ns := (hf_13 _ (by omega)).trans hc_7
    have hc_20 : σ_15 288 = q_an G 2000 mk := (hf_13 _ (by omega)).trans hc_8
    have hc_21 : σ_15 289 = q_an G 6724 va := (hf_13 _ (by omega)).trans hc_9
    have hc_22 : σ_15 290 = q_an G 6724 sp := (hf_13 _ (by omega)).trans hc_10
    have hc_23 : σ_15 291 = q_an G 80 lo := (hf_13 _ (by omega)).trans hc_11
    refine A_if_neN (tgt := 22) hg dX11_partner_10 (by decide) (by decide) (fun c10 => ?_) (fun c10 => absurd c10 (by decide))
    refine A_iconst (v := (nI (0))) hg dX11_partner_22 (by decide) ?_
    rw [hQ]
    exact A_ireturn hg (by decide) (by decide) rfl dX11_partner_23 ⟨rfl, Or.inl (⟨rfl, (by first | rfl | assumption | omega), hc_12, (fun i hi => ((hf_13 i (by omega)).trans (hf_3 i (by omega))))⟩)⟩
  · skip
    rw [he_14]
    refine (?_ : AJ G K Q 0 0 ex n 10 [some (.ref (q_h G + 279)), some (.int (r)), some (.int (k)), none] [.int (nI (0))] σ_1)
    refine A_if_neN (tgt := 22) hg dX11_partner_10 (by decide) (by decide) (fun c10 => absurd (by decide) c10) (fun c10 => ?_)
    subst hre
    have hw := hg9.2.2.2.2.2.1 r1 hrl
    have hu0 := hw.1
    have hu9 := hw.2.1
    have hu18 := hw.2.2.1
    have hu19 := hw.2.2.2.1
    have hu20 := hw.2.2.2.2.1
    refine A_aload_n hg dX11_partner_13 rfl rfl ?_
    refine A_iload_n hg dX11_partner_14 rfl rfl ?_
    refine A_iconst (v := (nI (0))) hg dX11_partner_15 (by decide) ?_
    refine A_hV (kc2 := 0) (ks2 := 0) (As := [.int (k), .int (nI (0))]) (rest := []) hg lk_RX11_424 in_X11_noPair se_X11_noPair rfl dX11_partner_16 ⟨by decide, by decide⟩ rfl rfl ⟨by decide, by decide⟩ hc_2 (by omega) rfl rfl (Nat.le_of_ble_eq_true rfl) (c_X11_noPair G ex n σ_1 (upd F 7 (nI (0))) k (nI (0)) hc_2 (by omega)) ?_
    rintro _ σ_27 (⟨rfl, hnp, hc_24, hf_25⟩ | ⟨a1, b1, rfl, hke, hle, hkl, hll, he_26⟩)
    · skip
      refine (?_ : AJ G K Q 0 0 ex n 19 [some (.ref (q_h G + 279)), some (.int (nI (r1))), some (.int (k)), none] [.int (nI (1))] σ_27)
      have hc_24 : σ_27 279 = o11 G (upd F 7 (nI (2))) := hc_24
      have hc_28 : σ_27 280 = q_an G 265 g := (hf_25 _ (by omega)).trans hc_4
      have hc_29 : σ_27 285 = q_bn G 1681 f := (hf_25 _ (by omega)).trans hc_5
      have hc_30 : σ_27 286 = q_an G 1681 nv := (hf_25 _ (by omega)).trans hc_6
      have hc_31 : σ_27 287 = q_an G 1681 ns := (hf_25 _ (by omega)).trans hc_7
      have hc_32 : σ_27 288 = q_an G 2000 mk := (hf_25 _ (by omega)).trans hc_8
      have hc_33 : σ_27 289 = q_an G 6724 va := (hf_25 _ (by omega)).trans hc_9
      have hc_34 : σ_27 290 = q_an G 6724 sp := (hf_25 _ (by omega)).trans hc_10
      have hc_35 : σ_27 291 = q_an G 80 lo := (hf_25 _ (by omega)).trans hc_11
      refine A_if_eqN (tgt := 24) hg dX11_partner_19 (by decide) (by decide) (fun c19 => absurd c19 (by decide)) (fun c19 => ?_)
      refine A_iconst (v := (nI (0))) hg dX11_partner_22 (by decide) ?_
      rw [hQ]
      exact A_ireturn hg (by decide) (by decide) rfl dX11_partner_23 ⟨rfl, Or.inr (Or.inl (⟨r1, rfl, (by first | rfl | assumption | omega), (by first | rfl | assumption | omega), (fun a ha e => hnp a 0 ha (by decide) e rfl), hc_24, (fun i hi => ((hf_25 i (by omega)).trans (hf_3 i (by omega))))⟩))⟩
    · skip
      rw [he_26]
      refine (?_ : AJ G K Q 0 0 ex n 19 [some (.ref (q_h G + 279)), some (.int (nI (r1))), some (.int (k)), none] [.int (nI (0))] σ_1)
      refine A_if_eqN (tgt := 24) hg dX11_partner_19 (by decide) (by decide) (fun c19 => ?_) (fun c19 => absurd (by decide) c19)
      subst hke
      refine A_aload_n hg dX11_partner_24 rfl rfl ?_
      refine A_iload_n hg dX11_partner_25 rfl rfl ?_
      refine A_vV (kc2 := 0) (ks2 := 0) (As := [.int (nI (r1))]) (rest := []) hg lk_RX11_143 in_X11_lays se_X11_lays rfl dX11_partner_26 ⟨by decide, by decide⟩ rfl rfl ⟨by decide, by decide⟩ hc_2 (by omega) rfl rfl (Nat.le_of_ble_eq_true rfl) (c_X11_lays G ex n σ_1 (upd F 7 (nI (0))) g r1 f nv ns mk va sp lo mc z hc_2 hc_4 hc_5 hc_6 hc_7 hc_8 hc_9 hc_10 hc_11 (by omega) (by omega) hw (by omega) hF12 hF16 hmk hTI hlo) ?_
      rintro σ_45 ⟨f', nv', ns', mk', va', sp', lo', mc', z', hTI2, hCU2, hkp2, hmc2, hmk2, hlo2, hc_36, hc_37, hc_38, hc_39, hc_40, hc_41, hc_42, hc_43, hf_44⟩
      have hc_36 : σ_45 279 = o11 G (upd (upd (upd F 7 (nI (0))) 12 (nI (mc'))) 16 (nI (z'))) := hc_36
      have hc_46 : σ_45 280 = q_an G 265 g := (hf_44 _ (by omega)).trans hc_4
      refine A_iconst (v := (nI (0))) hg dX11_partner_29 (by decide) ?_
      refine A_istore_n hg dX11_partner_30 rfl (by decide) (q_c1d rfl) ?_
      refine A_eq (ls2 := [some (.ref (q_h G + 279)), some (.int (nI (r1))), some (.int (nI (a1))), some (.int (nI (0)))]) (st2 := []) (pc2 := 0) rfl rfl ?_
      have hL31 : ∀ (fu : Nat) (y : Nat), (y ≤ 41) → (∀ j : Nat, j < y → ¬ s_V (s_rule g r1) (41 * a1 + j) = 0) → (41 - y) < fu → AJ G K Q 0 0 ex n 31 [some (.ref (q_h G + 279)), some (.int (nI (r1))), some (.int (nI (a1))), some (.int (nI (y)))] [] σ_45 := by
        intro fu
        induction fu with
        | zero => intro y hy hno hm; exact absurd hm (Nat.not_lt_zero _)
        | succ fu ih31 =>
          intro y hy hno hm31
          refine A_iload_n hg dX11_partner_31 rfl rfl ?_
          refine A_bipush (v := (nI (40))) hg dX11_partner_32 (by decide) ?_
          refine A_icmp_gtN (tgt := 55) hg dX11_partner_34 (by omega) (by decide) (by decide) (fun c34 => ?_) (fun c34 => ?_)
          · skip
            refine A_iconst (v := (q_d (0))) hg dX11_partner_55 (by decide) ?_
            have hP2 := s_pta_f (u := s_rule g r1) (a := a1) (fun j hj => hno j (by omega))
            rw [hQ]
            exact A_ireturn hg (by decide) (by decide) rfl dX11_partner_56 ⟨rfl, Or.inr (Or.inr (Or.inr ((⟨r1, a1, f', nv', ns', mk', va', sp', lo', mc', z', rfl, (by first | rfl | assumption | omega), (by first | rfl | assumption | omega), (by first | rfl | assumption | omega), (by first | rfl | assumption | omega), hP2, hTI2, (by omega), hmk2, hlo2, hc_36, hc_37, hc_38, hc_39, hc_40, hc_41, hc_42, hc_43, (fun i hi => ((hf_44 i (by omega)).trans (hf_3 i (by omega))))⟩))))⟩
          · skip
            refine A_aload_n hg dX11_partner_37 rfl rfl ?_
            refine A_iload_n hg dX11_partner_38 rfl rfl ?_
            refine A_iload_n hg dX11_partner_39 rfl rfl ?_
            refine A_iload_n hg dX11_partner_40 rfl rfl ?_
            refine A_eV (kc2 := 0) (ks2 := 0) (As := [.int (nI (r1)), .int (nI (a1)), .int (nI (y))]) (rest := []) hg lk_RX11_188 in_X11_valueAt se_X11_valueAt rfl dX11_partner_41 ⟨by decide, by decide⟩ rfl rfl ⟨by decide, by decide⟩ hc_36 (by omega) rfl rfl (Nat.le_of_ble_eq_true rfl) (c_X11_valueAt G ex n σ_45 (upd (upd (upd F 7 (nI (0))) 12 (nI (mc'))) 16 (nI (z'))) va' r1 a1 y hc_36 hc_41 (by omega) (by omega) (by omega) (by omega)) ?_
            have hvp := (hCU2 (41 * a1 + y) (by omega)).1
            rw [← Nat.add_assoc] at hvp
            have hvl := s_V_le (s_rule g r1) (p := 41 * a1 + y) (by omega)
            refine A_if_neN (tgt := 49) hg dX11_partner_44 (by omega) (by decide) (fun c44 => ?_) (fun c44 => ?_)
            · skip
              refine A_iincN (k' := 1) hg dX11_partner_49 (by decide) rfl (by decide) (q_c1d rfl) ?_
              refine A_eq (ls2 := [some (.ref (q_h G + 279)), some (.int (nI (r1))), some (.int (nI (a1))), some (.int (nI (y + 1)))]) (st2 := []) (pc2 := 0) rfl rfl ?_
              refine A_goto (tgt := 31) hg dX11_partner_52 (by decide) ?_
              exact ih31 (y + 1) (by omega) (lt_s hno (fun e => c44 (hvp.trans e))) (by omega)
            · skip
              refine A_iload_n hg dX11_partner_47 rfl rfl ?_
              rw [hQ]
              exact A_ireturn hg (by decide) (by decide) rfl dX11_partner_48 ⟨rfl, Or.inr (Or.inr (Or.inl (⟨r1, a1, f', nv', ns', mk', va', sp', lo', mc', z', (congrArg (fun z => some (Value.int (nI z))) (s_ptn_eq (y := y) (by omega) (hvp.symm.trans c44) hno).symm), rfl, hrl, rfl, hkl, (s_pta_t (y := y) (by omega) (hvp.symm.trans c44)), hTI2, (by omega), hmk2, hlo2, hc_36, hc_37, hc_38, hc_39, hc_40, hc_41, hc_42, hc_43, (fun i hi => ((hf_44 i (by omega)).trans (hf_3 i (by omega))))⟩)))⟩
      exact hL31 _ 0 (by omega) (fun j h => absurd h (Nat.not_lt_zero j)) (Nat.lt_succ_self _)
end
