section
set_option maxRecDepth 100000 in
set_option maxHeartbeats 4000000 in
theorem c_X11_changedBy (G : GL) (ex : Bool) (n : Nat) (σ : Nat → va_E) (F : Nat → Int32) (g : Nat → Nat) (f : Nat → Nat) (nv : Nat → Nat) (ns : Nat → Nat) (mk : Nat → Nat) (va : Nat → Nat) (sp : Nat → Nat) (lo : Nat → Nat) (mc : Nat) (z : Nat) (r : Int32) (k : Int32) (l : Int32) (hc0 : σ 279 = o11 G F) (hc1 : σ 280 = q_an G 265 g) (hc2 : σ 285 = q_bn G 1681 f) (hc3 : σ 286 = q_an G 1681 nv) (hc4 : σ 287 = q_an G 1681 ns) (hc5 : σ 288 = q_an G 2000 mk) (hc6 : σ 289 = q_an G 6724 va) (hc7 : σ 290 = q_an G 6724 sp) (hc8 : σ 291 = q_an G 80 lo) (hn : 294 ≤ n) (hg9 : s_gwf g) (hmc : mc + 6724 < 2 ^ 31) (hF12 : F 12 = nI mc) (hF16 : F 16 = nI z) (hmk : ∀ v : Nat, v < 2000 → mk v ≤ mc) (hTI : s_TI z lo va sp) (hlo : ∀ j : Nat, j < 80 → lo j < 2 ^ 31) : Ct G yX11_changedBy cX11_changedBy 6 (some .int) ⟨6, 0, 0, 137⟩ [.ref (q_h G + 279), .int (r), .int (k), .int (l)] ex n σ (fun v9 σ2 => (v9 = some (.int (nI (0))) ∧ (∀ j : Nat, j < g 0 → r = nI j → False) ∧ σ2 279 = o11 G (upd F 7 (nI (1))) ∧ (∀ i : Nat, i ≠ 279 → σ2 i = σ i)) ∨ (∃ (r1 : Nat), v9 = some (.int (nI (0))) ∧ (r = nI r1) ∧ (r1 < g 0) ∧ (∀ a b : Nat, a ≤ 40 → b ≤ 40 → 0 < a + b → k = nI a → l = nI b → False) ∧ σ2 279 = o11 G (upd F 7 (nI (2))) ∧ (∀ i : Nat, i ≠ 279 → σ2 i = σ i)) ∨ (∃ (r1 : Nat), ∃ (a1 : Nat), ∃ (b1 : Nat), ∃ (f' : Nat → Nat), ∃ (nv' : Nat → Nat), ∃ (ns' : Nat → Nat), ∃ (mk' : Nat → Nat), ∃ (va' : Nat → Nat), ∃ (sp' : Nat → Nat), ∃ (lo' : Nat → Nat), ∃ (mc' : Nat), ∃ (z' : Nat), v9 = some (.int (nI (s_chc (s_rule g r1) a1 b1 1681))) ∧ (r = nI r1) ∧ (r1 < g 0) ∧ (k = nI a1) ∧ (l = nI b1) ∧ (a1 ≤ 40) ∧ (b1 ≤ 40) ∧ (0 < a1 + b1) ∧ (s_TI z' lo' va' sp') ∧ (mc' ≤ mc + 6724) ∧ (∀ v : Nat, v < 2000 → mk' v ≤ mc') ∧ (∀ j : Nat, j < 80 → lo' j < 2 ^ 31) ∧ σ2 279 = o11 G (upd (upd (upd F 7 (nI (0))) 12 (nI (mc'))) 16 (nI (z'))) ∧ σ2 285 = q_bn G 1681 f' ∧ σ2 286 = q_an G 1681 nv' ∧ σ2 287 = q_an G 1681 ns' ∧ σ2 288 = q_an G 2000 mk' ∧ σ2 289 = q_an G 6724 va' ∧ σ2 290 = q_an G 6724 sp' ∧ σ2 291 = q_an G 80 lo' ∧ (∀ i : Nat, i ≠ 279 ∧ (i < 285 ∨ 291 < i) → σ2 i = σ i))) := by
  refine q_enter [some (.ref (q_h G + 279)), some (.int (r)), some (.int (k)), some (.int (l)), none, none] (by decide) (Nat.le_of_ble_eq_true rfl) rfl ?_
  intro K hg
  obtain ⟨Q, hQ⟩ : ∃ Q, Q = q_Q G K ex n 0 0 (fun v9 n' σ' => n' = n ∧ (fun v9 σ2 => (v9 = some (.int (nI (0))) ∧ (∀ j : Nat, j < g 0 → r = nI j → False) ∧ σ2 279 = o11 G (upd F 7 (nI (1))) ∧ (∀ i : Nat, i ≠ 279 → σ2 i = σ i)) ∨ (∃ (r1 : Nat), v9 = some (.int (nI (0))) ∧ (r = nI r1) ∧ (r1 < g 0) ∧ (∀ a b : Nat, a ≤ 40 → b ≤ 40 → 0 < a + b → k = nI a → l = nI b → False) ∧ σ2 279 = o11 G (upd F 7 (nI (2))) ∧ (∀ i : Nat, i ≠ 279 → σ2 i = σ i)) ∨ (∃ (r1 : Nat), ∃ (a1 : Nat), ∃ (b1 : Nat), ∃ (f' : Nat → Nat), ∃ (nv' : Nat → Nat), ∃ (ns' : Nat → Nat), ∃ (mk' : Nat → Nat), ∃ (va' : Nat → Nat), ∃ (sp' : Nat → Nat), ∃ (lo' : Nat → Nat), ∃ (mc' : Nat), ∃ (z' : Nat), v9 = some (.int (nI (s_chc (s_rule g r1) a1 b1 1681))) ∧ (r = nI r1) ∧ (r1 < g 0) ∧ (k = nI a1) ∧ (l = nI b1) ∧ (a1 ≤ 40) ∧ (b1 ≤ 40) ∧ (0 < a1 + b1) ∧ (s_TI z' lo' va' sp') ∧ (mc' ≤ mc + 6724) ∧ (∀ v : Nat, v < 2000 → mk' v ≤ mc') ∧ (∀ j : Nat, j < 80 → lo' j < 2 ^ 31) ∧ σ2 279 = o11 G (upd (upd (upd F 7 (nI (0))) 12 (nI (mc'))) 16 (nI (z'))) ∧ σ2 285 = q_bn G 1681 f' ∧ σ2 286 = q_an G 1681 nv' ∧ σ2 287 = q_an G 1681 ns' ∧ σ2 288 = q_an G 2000 mk' ∧ σ2 289 = q_an G 6724 va' ∧ σ2 290 = q_an G 6724 sp' ∧ σ2 291 = q_an G 80 lo' ∧ (∀ i : Nat, i ≠ 279 ∧ (i < 285 ∨ 291 < i) → σ2 i = σ i))) v9 σ') q_noX := ⟨_, rfl⟩
  refine (?_ : AJ G K (q_Q G K ex n 0 0 _ _) 0 0 ex n 0 _ _ σ)
  rw [← hQ]
  have hnr : g 0 ≤ 4 := hg9.1
  refine A_aload_n hg dX11_changedBy_0 rfl rfl ?_
  refine A_iconst (v := (nI (0))) hg dX11_changedBy_1 (by decide) ?_
  refine A_putf hg fl_RX11_67 dX11_changedBy_2 hc0 (by omega) (Nat.le_of_ble_eq_true rfl) rfl rfl rfl (fun σ_1 hc_2 hf_3 => ?_)
  have hc_2 : σ_1 279 = o11 G (upd F 7 (nI (0))) := hc_2
  have hc_4 : σ_1 280 = q_an G 265 g := (hf_3 _ (by omega)).trans hc1
  have hc_5 : σ_1 285 = q_bn G 1681 f := (hf_3 _ (by omega)).trans hc2
  have hc_6 : σ_1 286 = q_an G 1681 nv := (hf_3 _ (by omega)).trans hc3
  have hc_7 : σ_1 287 = q_an G 1681 ns := (hf_3 _ (by omega)).trans hc4
  have hc_8 : σ_1 288 = q_an G 2000 mk := (hf_3 _ (by omega)).trans hc5
  have hc_9 : σ_1 289 = q_an G 6724 va := (hf_3 _ (by omega)).trans hc6
  have hc_10 : σ_1 290 = q_an G 6724 sp := (hf_3 _ (by omega)).trans hc7
  have hc_11 : σ_1 291 = q_an G 80 lo := (hf_3 _ (by omega)).trans hc8
  refine A_aload_n hg dX11_changedBy_5 rfl rfl ?_
  refine A_iload_n hg dX11_changedBy_6 rfl rfl ?_
  refine A_hV (kc2 := 0) (ks2 := 0) (As := [.int (r)]) (rest := []) hg lk_RX11_402 in_X11_noRule se_X11_noRule rfl dX11_changedBy_7 ⟨by decide, by decide⟩ rfl rfl ⟨by decide, by decide⟩ hc_2 (by omega) rfl rfl (Nat.le_of_ble_eq_true rfl) (c_X11_noRule G ex n σ_1 (upd F 7 (nI (0))) g r hc_2 hc_4 (by omega) (by omega)) ?_
  rintro _ σ_15 (⟨rfl, hno, hc_12, hf_13⟩ | ⟨r1, rfl, hre, hrl, he_14⟩)
  · skip
    refine (?_ : AJ G K Q 0 0 ex n 10 [some (.ref (q_h G + 279)), some (.int (r)), some (.int (k)), some (.int (l)), none, none] [.int (nI (1))] σ_15)
    have hc_12 : σ_15 279 = o11 G (upd F 7 (nI (1))) := hc_12
    have hc_16 : σ_15 280 = q_an G 265 g := (hf_13 _ (by omega)).trans hc_4
    have hc_17 : σ_15 285 = q_bn G 1681 f := (hf_13 _ (by omega)).trans hc_5
    have hc_18 : σ_15 286 = q_an G 1681 nv := (hf_13 _ (by omega)).trans hc_6
    have hc_19 : σ_15 287 = q_an G 1681 ns := (hf_13 _ (by omega)).trans hc_7
    have hc_20 : σ_15 288 = q_an G 2000 mk := (hf_13 _ (by omega)).trans hc_8
    have hc_21 : σ_15 289 = q_an G 6724 va := (hf_13 _ (by omega)).trans hc_9
    have hc_22 : σ_15 290 = q_an G 6724 sp := (hf_13 _ (by omega)).trans hc_10
    have hc_23 : σ_15 291 = q_an G 80 lo := (hf_13 _ (by omega)).trans hc_11
    refine A_if_neN (tgt := 22) hg dX11_changedBy_10 (by decide) (by decide) (fun c10 => ?_) (fun c10 => absurd c10 (by decide))
    refine A_iconst (v := (nI (0))) hg dX11_changedBy_22 (by decide) ?_
    rw [hQ]
    exact A_ireturn hg (by decide) (by decide) rfl dX11_changedBy_23 ⟨rfl, Or.inl (⟨rfl, (by first | rfl | assumption | omega), hc_12, (fun i hi => ((hf_13 i (by omega)).trans (hf_3 i (by omega))))⟩)⟩
  · skip
    rw [he_14]
    refine (?_ : AJ G K Q 0 0 ex n 10 [some (.ref (q_h G + 279)), some (.int (r)), some (.int (k)), some (.int (l)), none, none] [.int (nI (0))] σ_1)
    refine A_if_neN (tgt := 22) hg dX11_changedBy_10 (by decide) (by decide) (fun c10 => absurd (by decide) c10) (fun c10 => ?_)
    subst hre
    have hw := hg9.2.2.2.2.2.1 r1 hrl
    have hu0 := hw.1
    have hu9 := hw.2.1
    have hu18 := hw.2.2.1
    have hu19 := hw.2.2.2.1
    have hu20 := hw.2.2.2.2.1
    refine A_aload_n hg dX11_changedBy_13 rfl rfl ?_
    refine A_iload_n hg dX11_changedBy_14 rfl rfl ?_
    refine A_iload_n hg dX11_changedBy_15 rfl rfl ?_
    refine A_hV (kc2 := 0) (ks2 := 0) (As := [.int (k), .int (l)]) (rest := []) hg lk_RX11_451 in_X11_noMove se_X11_noMove rfl dX11_changedBy_16 ⟨by decide, by decide⟩ rfl rfl ⟨by decide, by decide⟩ hc_2 (by omega) rfl rfl (Nat.le_of_ble_eq_true rfl) (c_X11_noMove G ex n σ_1 (upd F 7 (nI (0))) k l hc_2 (by omega)) ?_
    rintro _ σ_27 (⟨rfl, hnp, hc_24, hf_25⟩ | ⟨a1, b1, rfl, hke, hle, hkl, hll, hkp, he_26⟩)
    · skip
      refine (?_ : AJ G K Q 0 0 ex n 19 [some (.ref (q_h G + 279)), some (.int (nI (r1))), some (.int (k)), some (.int (l)), none, none] [.int (nI (1))] σ_27)
      have hc_24 : σ_27 279 = o11 G (upd F 7 (nI (2))) := hc_24
      have hc_28 : σ_27 280 = q_an G 265 g := (hf_25 _ (by omega)).trans hc_4
      have hc_29 : σ_27 285 = q_bn G 1681 f := (hf_25 _ (by omega)).trans hc_5
      have hc_30 : σ_27 286 = q_an G 1681 nv := (hf_25 _ (by omega)).trans hc_6
      have hc_31 : σ_27 287 = q_an G 1681 ns := (hf_25 _ (by omega)).trans hc_7
      have hc_32 : σ_27 288 = q_an G 2000 mk := (hf_25 _ (by omega)).trans hc_8
      have hc_33 : σ_27 289 = q_an G 6724 va := (hf_25 _ (by omega)).trans hc_9
      have hc_34 : σ_27 290 = q_an G 6724 sp := (hf_25 _ (by omega)).trans hc_10
      have hc_35 : σ_27 291 = q_an G 80 lo := (hf_25 _ (by omega)).trans hc_11
      refine A_if_eqN (tgt := 24) hg dX11_changedBy_19 (by decide) (by decide) (fun c19 => absurd c19 (by decide)) (fun c19 => ?_)
      refine A_iconst (v := (nI (0))) hg dX11_changedBy_22 (by decide) ?_
      rw [hQ]
      exact A_ireturn hg (by decide) (by decide) rfl dX11_changedBy_23 ⟨rfl, Or.inr (Or.inl (⟨r1, rfl, (by first | rfl | assumption | omega), (by first | rfl | assumption | omega), (by first | rfl | assumption | omega), hc_24, (fun i hi => ((hf_25 i (by omega)).trans (hf_3 i (by omega))))⟩))⟩
    · skip
      rw [he_26]
      refine (?_ : AJ G K Q 0 0 ex n 19 [some (.ref (q_h G + 279)), some (.int (nI (r1))), some (.int (k)), some (.int (l)), none, none] [.int (nI (0))] σ_1)
      refine A_if_eqN (tgt := 24) hg dX11_changedBy_19 (by decide) (by decide) (fun c19 => ?_) (fun c19 => absurd (by decide) c19)
      subst hke
      subst hle
      refine A_aload_n hg dX11_changedBy_24 rfl rfl ?_
      refine A_iload_n hg dX11_changedBy_25 rfl rfl ?_
      refine A_vV (kc2 := 0) (ks2 := 0) (As := [.int (nI (r1))]) (rest := []) hg lk_RX11_143 in_X11_lays se_X11_lays rfl dX11_changedBy_26 ⟨by decide, by decide⟩ rfl rfl ⟨by decide, by decide⟩ hc_2 (by omega) rfl rfl (Nat.le_of_ble_eq_true rfl) (c_X11_lays G ex n σ_1 (upd F 7 (nI (0))) g r1 f nv ns mk va sp lo mc z hc_2 hc_4 hc_5 hc_6 hc_7 hc_8 hc_9 hc_10 hc_11 (by omega) (by omega) hw (by omega) hF12 hF16 hmk hTI hlo) ?_
      rintro σ_45 ⟨f', nv', ns', mk', va', sp', lo', mc', z', hTI2, hCU2, hkp2, hmc2, hmk2, hlo2, hc_36, hc_37, hc_38, hc_39, hc_40, hc_41, hc_42, hc_43, hf_44⟩
      have hc_36 : σ_45 279 = o11 G (upd (upd (upd F 7 (nI (0))) 12 (nI (mc'))) 16 (nI (z'))) := hc_36
      have hc_46 : σ_45 280 = q_an G 265 g := (hf_44 _ (by omega)).trans hc_4
      refine A_aload_n hg dX11_changedBy_29 rfl rfl ?_
      refine A_iload_n hg dX11_changedBy_30 rfl rfl ?_
      refine A_vV (kc2 := 0) (ks2 := 0) (As := [.int (nI (r1))]) (rest := []) hg lk_RX11_133 in_X11_laysAllowed se_X11_laysAllowed rfl dX11_changedBy_31 ⟨by decide, by decide⟩ rfl rfl ⟨by decide, by decide⟩ hc_36 (by omega) rfl rfl (Nat.le_of_ble_eq_true rfl) (c_X11_laysAllowed G ex n σ_45 (upd (upd (upd F 7 (nI (0))) 12 (nI (mc'))) 16 (nI (z'))) g r1 f' hc_36 hc_46 hc_37 (by omega) (by omega) (by omega)) ?_
      rintro σ_49 ⟨f2, hA2, hc_47, hf_48⟩
      have hc_50 : σ_49 280 = q_an G 265 g := (hf_48 _ (by omega)).trans hc_46
      have hc_51 : σ_49 279 = o11 G (upd (upd (upd F 7 (nI (0))) 12 (nI (mc'))) 16 (nI (z'))) := (hf_48 _ (by omega)).trans hc_36
      have hc_52 : σ_49 286 = q_an G 1681 nv' := (hf_48 _ (by omega)).trans hc_38
      have hc_53 : σ_49 287 = q_an G 1681 ns' := (hf_48 _ (by omega)).trans hc_39
      have hc_54 : σ_49 288 = q_an G 2000 mk' := (hf_48 _ (by omega)).trans hc_40
      have hc_55 : σ_49 289 = q_an G 6724 va' := (hf_48 _ (by omega)).trans hc_41
      have hc_56 : σ_49 290 = q_an G 6724 sp' := (hf_48 _ (by omega)).trans hc_42
      have hc_57 : σ_49 291 = q_an G 80 lo' := (hf_48 _ (by omega)).trans hc_43
      refine A_aload_n hg dX11_changedBy_34 rfl rfl ?_
      refine A_getf (v := .ref (q_h G + 285)) hg fl_RX11_25 dX11_changedBy_35 hc_51 (by omega) rfl ?_
      refine A_bipush (v := (nI (41))) hg dX11_changedBy_38 (by decide) ?_
      refine A_iload_n hg dX11_changedBy_40 rfl rfl ?_
      refine A_imulN hg dX11_changedBy_41 ?_
      refine A_iload_n hg dX11_changedBy_42 rfl rfl ?_
      refine A_iaddN hg dX11_changedBy_43 ?_
      refine A_aload_n hg dX11_changedBy_44 rfl rfl ?_
      refine A_iload_n hg dX11_changedBy_45 rfl rfl ?_
      refine A_iload_n hg dX11_changedBy_46 rfl rfl ?_
      refine A_iload_n hg dX11_changedBy_47 rfl rfl ?_
      refine A_eV (kc2 := 0) (ks2 := 0) (As := [.int (nI (r1)), .int (nI (a1)), .int (nI (b1))]) (rest := [.int (nI ((41 * a1) + b1)), .ref (q_h G + 285)]) hg lk_RX11_102 in_X11_barOf se_X11_barOf rfl dX11_changedBy_48 ⟨by decide, by decide⟩ rfl rfl ⟨by decide, by decide⟩ hc_51 (by omega) rfl rfl (Nat.le_of_ble_eq_true rfl) (c_X11_barOf G ex n σ_49 (upd (upd (upd F 7 (nI (0))) 12 (nI (mc'))) 16 (nI (z'))) g r1 a1 b1 hc_51 hc_50 (by omega) (by omega) (by omega) (by omega) (by omega)) ?_
      refine A_iconst (v := (q_d (0))) hg dX11_changedBy_51 (by decide) ?_
      refine A_icmp_eqM (tgt := 69) hg dX11_changedBy_52 (by have hq := s_first_le (s_barp (s_rule g r1) a1 b1) (s_rule g r1 20); split <;> first | omega | (unfold s_bar; omega)) (by decide) (by decide) (fun c52 => ?_) (fun c52 => ?_)
      · skip
        refine A_iconst (v := (nI (0))) hg dX11_changedBy_69 (by decide) ?_
        refine A_bast (j := ((41 * a1) + b1)) (x := 0) hg dX11_changedBy_70 hc_47 (by omega) (by omega) (by decide) (by omega) (fun σ_58 hc_59 hf_60 => ?_)
        have hc_61 : σ_58 280 = q_an G 265 g := (hf_60 _ (by omega)).trans hc_50
        have hc_62 : σ_58 279 = o11 G (upd (upd (upd F 7 (nI (0))) 12 (nI (mc'))) 16 (nI (z'))) := (hf_60 _ (by omega)).trans hc_51
        have hc_63 : σ_58 286 = q_an G 1681 nv' := (hf_60 _ (by omega)).trans hc_52
        have hc_64 : σ_58 287 = q_an G 1681 ns' := (hf_60 _ (by omega)).trans hc_53
        have hc_65 : σ_58 288 = q_an G 2000 mk' := (hf_60 _ (by omega)).trans hc_54
        have hc_66 : σ_58 289 = q_an G 6724 va' := (hf_60 _ (by omega)).trans hc_55
        have hc_67 : σ_58 290 = q_an G 6724 sp' := (hf_60 _ (by omega)).trans hc_56
        have hc_68 : σ_58 291 = q_an G 80 lo' := (hf_60 _ (by omega)).trans hc_57
        have hA3 := s_A2_up (u := s_rule g r1) (k := a1) (l := b1) (c := false) (by first | (rw [s_bar_no c52]; rfl) | (rw [c62, Bool.and_false])) (v := 0) rfl hA2
        refine A_aload_n hg dX11_changedBy_71 rfl rfl ?_
        refine A_vV (kc2 := 0) (ks2 := 0) (As := []) (rest := []) hg lk_RX11_137 in_X11_laysValues se_X11_laysValues rfl dX11_changedBy_72 ⟨by decide, by decide⟩ rfl rfl ⟨by decide, by decide⟩ hc_62 (by omega) rfl rfl (Nat.le_of_ble_eq_true rfl) (c_X11_laysValues G ex n σ_58 (upd (upd (upd F 7 (nI (0))) 12 (nI (mc'))) 16 (nI (z'))) (s_A2 (s_rule g r1) a1 b1) (va_up f2 ((41 * a1) + b1) 0) nv' mk' mc' hc_62 hc_59 hc_63 hc_65 (by omega) rfl (by omega) hA3 (s_A2_0 hkp) hmk2) ?_
        rintro σ_73 ⟨nv2, mk2, hnv2, hmk3, hc_69, hc_70, hc_71, hf_72⟩
        have hc_69 : σ_73 279 = o11 G (upd (upd (upd F 7 (nI (0))) 12 (nI (mc' + 1681))) 16 (nI (z'))) := hc_69
        have hc_74 : σ_73 280 = q_an G 265 g := (hf_72 _ (by omega)).trans hc_61
        have hc_75 : σ_73 287 = q_an G 1681 ns' := (hf_72 _ (by omega)).trans hc_64
        have hc_76 : σ_73 289 = q_an G 6724 va' := (hf_72 _ (by omega)).trans hc_66
        have hc_77 : σ_73 290 = q_an G 6724 sp' := (hf_72 _ (by omega)).trans hc_67
        have hc_78 : σ_73 291 = q_an G 80 lo' := (hf_72 _ (by omega)).trans hc_68
        have hc_79 : σ_73 285 = q_bn G 1681 (va_up f2 ((41 * a1) + b1) 0) := (hf_72 _ (by omega)).trans hc_59
        refine A_iconst (v := (nI (0))) hg dX11_changedBy_75 (by decide) ?_
        refine A_istore hg dX11_changedBy_76 (by decide) (q_c1d rfl) ?_
        refine A_eq (ls2 := [some (.ref (q_h G + 279)), some (.int (nI (r1))), some (.int (nI (a1))), some (.int (nI (b1))), some (.int (nI (0))), none]) (st2 := []) (pc2 := 0) rfl rfl ?_
        refine A_iconst (v := (nI (0))) hg dX11_changedBy_78 (by decide) ?_
        refine A_istore hg dX11_changedBy_79 (by decide) (q_c1d rfl) ?_
        refine A_eq (ls2 := [some (.ref (q_h G + 279)), some (.int (nI (r1))), some (.int (nI (a1))), some (.int (nI (b1))), some (.int (nI (0))), some (.int (nI (0)))]) (st2 := []) (pc2 := 0) rfl rfl ?_
        have hL81 : ∀ (fu : Nat) (p : Nat) (n1 : Nat), (p ≤ 1681) → (n1 = s_chc (s_rule g r1) a1 b1 p) → (1681 - p) < fu → AJ G K Q 0 0 ex n 81 [some (.ref (q_h G + 279)), some (.int (nI (r1))), some (.int (nI (a1))), some (.int (nI (b1))), some (.int (nI (n1))), some (.int (nI (p)))] [] σ_73 := by
          intro fu
          induction fu with
          | zero => intro p n1 hp hn hm; exact absurd hm (Nat.not_lt_zero _)
          | succ fu ih81 =>
            intro p n1 hp hn hm81
            refine A_iload hg dX11_changedBy_81 rfl ?_
            refine A_sipush (v := (nI (1681))) hg dX11_changedBy_83 (by decide) ?_
            refine A_icmp_geN (tgt := 144) hg dX11_changedBy_86 (by omega) (by decide) (by decide) (fun c86 => ?_) (fun c86 => ?_)
            · skip
              refine A_iload hg dX11_changedBy_144 rfl ?_
              rw [hQ]
              exact A_ireturn hg (by decide) (by decide) rfl dX11_changedBy_146 ⟨rfl, Or.inr (Or.inr ((⟨r1, a1, b1, (va_up f2 ((41 * a1) + b1) 0), nv2, ns', mk2, va', sp', lo', (mc' + 1681), z', (by rw [hn, show p = 1681 by omega]), (by first | rfl | assumption | omega), (by first | rfl | assumption | omega), (by first | rfl | assumption | omega), (by first | rfl | assumption | omega), (by first | rfl | assumption | omega), (by first | rfl | assumption | omega), (by first | rfl | assumption | omega), hTI2, (by omega), hmk3, hlo2, hc_69, hc_79, hc_70, hc_75, hc_71, hc_76, hc_77, hc_78, (fun i hi => ((hf_72 i (by omega)).trans ((hf_60 i (by omega)).trans ((hf_48 i (by omega)).trans ((hf_44 i (by omega)).trans (hf_3 i (by omega)))))))⟩)))⟩
            · skip
              refine A_iload hg dX11_changedBy_89 rfl ?_
              refine A_aload_n hg dX11_changedBy_91 rfl rfl ?_
              refine A_getf (v := .ref (q_h G + 289)) hg fl_RX11_38 dX11_changedBy_92 hc_69 (by omega) rfl ?_
              refine A_sipush (v := (nI (1681))) hg dX11_changedBy_95 (by decide) ?_
              refine A_iload_n hg dX11_changedBy_98 rfl rfl ?_
              refine A_imulN hg dX11_changedBy_99 ?_
              refine A_iload hg dX11_changedBy_100 rfl ?_
              refine A_iaddN hg dX11_changedBy_102 ?_
              refine A_iald (j := ((1681 * r1) + p)) hg dX11_changedBy_103 hc_76 (by omega) (by omega) (by decide) ?_
              have hvp := (hCU2 p (by omega)).1
              have hvl := s_V_le (s_rule g r1) (p := p) (by omega)
              have hnvp := hnv2 p (by omega)
              have hnvl := s_val_le (s_A2_0 (u := s_rule g r1) hkp) p (by omega)
              refine A_if_neN (tgt := 111) hg dX11_changedBy_104 (by omega) (by decide) (fun c104 => ?_) (fun c104 => ?_)
              · skip
                refine A_iconst (v := (nI (0))) hg dX11_changedBy_111 (by decide) ?_
                refine A_aload_n hg dX11_changedBy_112 rfl rfl ?_
                refine A_getf (v := .ref (q_h G + 286)) hg fl_RX11_29 dX11_changedBy_113 hc_69 (by omega) rfl ?_
                refine A_iload hg dX11_changedBy_116 rfl ?_
                refine A_iald (j := p) hg dX11_changedBy_118 hc_70 (by omega) (by omega) (by decide) ?_
                refine A_if_neN (tgt := 126) hg dX11_changedBy_119 (by omega) (by decide) (fun c119 => ?_) (fun c119 => ?_)
                · skip
                  refine A_iconst (v := (nI (0))) hg dX11_changedBy_126 (by decide) ?_
                  refine A_icmp_neN (tgt := 134) hg dX11_changedBy_127 (by decide) (by decide) (by decide) (fun c127 => absurd rfl c127) (fun c127 => ?_)
                  refine A_iconst (v := (nI (0))) hg dX11_changedBy_130 (by decide) ?_
                  refine A_goto (tgt := 135) hg dX11_changedBy_131 (by decide) ?_
                  refine A_iaddN hg dX11_changedBy_135 ?_
                  refine A_istore hg dX11_changedBy_136 (by decide) (q_c1d rfl) ?_
                  refine A_eq (ls2 := [some (.ref (q_h G + 279)), some (.int (nI (r1))), some (.int (nI (a1))), some (.int (nI (b1))), some (.int (nI (n1 + 0))), some (.int (nI (p)))]) (st2 := []) (pc2 := 0) rfl rfl ?_
                  refine A_iincN (k' := 1) hg dX11_changedBy_138 (by decide) rfl (by decide) (q_c1d rfl) ?_
                  refine A_eq (ls2 := [some (.ref (q_h G + 279)), some (.int (nI (r1))), some (.int (nI (a1))), some (.int (nI (b1))), some (.int (nI (n1 + 0))), some (.int (nI (p + 1)))]) (st2 := []) (pc2 := 0) rfl rfl ?_
                  refine A_goto (tgt := 81) hg dX11_changedBy_141 (by decide) ?_
                  exact ih81 (p + 1) (n1 + 0) (by omega) (by first | rw [s_chc_t1 (hvp.symm.trans c104) (fun e => c119 (hnvp.trans e)), hn] | rw [s_chc_t2 (fun e => c104 (hvp.trans e)) (hnvp.symm.trans c119), hn] | rw [s_chc_f1 (hvp.symm.trans c104) (hnvp.symm.trans c119)]; exact hn | (rw [s_chc_f1 (hvp.symm.trans c104) (hnvp.symm.trans c119)]; exact hn) | (rw [s_chc_f2 (fun e => c104 (hvp.trans e)) (fun e => c119 (hnvp.trans e))]; exact hn)) (by omega)
                · skip
                  refine A_iconst (v := (nI (1))) hg dX11_changedBy_122 (by decide) ?_
                  refine A_goto (tgt := 127) hg dX11_changedBy_123 (by decide) ?_
                  refine A_icmp_neN (tgt := 134) hg dX11_changedBy_127 (by decide) (by decide) (by decide) (fun c127 => ?_) (fun c127 => absurd c127 (by decide))
                  refine A_iconst (v := (nI (1))) hg dX11_changedBy_134 (by decide) ?_
                  refine A_iaddN hg dX11_changedBy_135 ?_
                  refine A_istore hg dX11_changedBy_136 (by decide) (q_c1d rfl) ?_
                  refine A_eq (ls2 := [some (.ref (q_h G + 279)), some (.int (nI (r1))), some (.int (nI (a1))), some (.int (nI (b1))), some (.int (nI (n1 + 1))), some (.int (nI (p)))]) (st2 := []) (pc2 := 0) rfl rfl ?_
                  refine A_iincN (k' := 1) hg dX11_changedBy_138 (by decide) rfl (by decide) (q_c1d rfl) ?_
                  refine A_eq (ls2 := [some (.ref (q_h G + 279)), some (.int (nI (r1))), some (.int (nI (a1))), some (.int (nI (b1))), some (.int (nI (n1 + 1))), some (.int (nI (p + 1)))]) (st2 := []) (pc2 := 0) rfl rfl ?_
                  refine A_goto (tgt := 81) hg dX11_changedBy_141 (by decide) ?_
                  exact ih81 (p + 1) (n1 + 1) (by omega) (by first | rw [s_chc_t1 (hvp.symm.trans c104) (fun e => c119 (hnvp.trans e)), hn] | rw [s_chc_t2 (fun e => c104 (hvp.trans e)) (hnvp.symm.trans c119), hn] | rw [s_chc_f1 (hvp.symm.trans c104) (hnvp.symm.trans c119)]; exact hn | (rw [s_chc_f1 (hvp.symm.trans c104) (hnvp.symm.trans c119)]; exact hn) | (rw [s_chc_f2 (fun e => c104 (hvp.trans e)) (fun e => c119 (hnvp.trans e))]; exact hn)) (by omega)
              · skip
                refine A_iconst (v := (nI (1))) hg dX11_changedBy_107 (by decide) ?_
                refine A_goto (tgt := 112) hg dX11_changedBy_108 (by decide) ?_
                refine A_aload_n hg dX11_changedBy_112 rfl rfl ?_
                refine A_getf (v := .ref (q_h G + 286)) hg fl_RX11_29 dX11_changedBy_113 hc_69 (by omega) rfl ?_
                refine A_iload hg dX11_changedBy_116 rfl ?_
                refine A_iald (j := p) hg dX11_changedBy_118 hc_70 (by omega) (by omega) (by decide) ?_
                refine A_if_neN (tgt := 126) hg dX11_changedBy_119 (by omega) (by decide) (fun c119 => ?_) (fun c119 => ?_)
                · skip
                  refine A_iconst (v := (nI (0))) hg dX11_changedBy_126 (by decide) ?_
                  refine A_icmp_neN (tgt := 134) hg dX11_changedBy_127 (by decide) (by decide) (by decide) (fun c127 => ?_) (fun c127 => absurd c127 (by decide))
                  refine A_iconst (v := (nI (1))) hg dX11_changedBy_134 (by decide) ?_
                  refine A_iaddN hg dX11_changedBy_135 ?_
                  refine A_istore hg dX11_changedBy_136 (by decide) (q_c1d rfl) ?_
                  refine A_eq (ls2 := [some (.ref (q_h G + 279)), some (.int (nI (r1))), some (.int (nI (a1))), some (.int (nI (b1))), some (.int (nI (n1 + 1))), some (.int (nI (p)))]) (st2 := []) (pc2 := 0) rfl rfl ?_
                  refine A_iincN (k' := 1) hg dX11_changedBy_138 (by decide) rfl (by decide) (q_c1d rfl) ?_
                  refine A_eq (ls2 := [some (.ref (q_h G + 279)), some (.int (nI (r1))), some (.int (nI (a1))), some (.int (nI (b1))), some (.int (nI (n1 + 1))), some (.int (nI (p + 1)))]) (st2 := []) (pc2 := 0) rfl rfl ?_
                  refine A_goto (tgt := 81) hg dX11_changedBy_141 (by decide) ?_
                  exact ih81 (p + 1) (n1 + 1) (by omega) (by first | rw [s_chc_t1 (hvp.symm.trans c104) (fun e => c119 (hnvp.trans e)), hn] | rw [s_chc_t2 (fun e => c104 (hvp.trans e)) (hnvp.symm.trans c119), hn] | rw [s_chc_f1 (hvp.symm.trans c104) (hnvp.symm.trans c119)]; exact hn | (rw [s_chc_f1 (hvp.symm.trans c104) (hnvp.symm.trans c119)]; exact hn) | (rw [s_chc_f2 (fun e => c104 (hvp.trans e)) (fun e => c119 (hnvp.trans e))]; exact hn)) (by omega)
                · skip
                  refine A_iconst (v := (nI (1))) hg dX11_changedBy_122 (by decide) ?_
                  refine A_goto (tgt := 127) hg dX11_changedBy_123 (by decide) ?_
                  refine A_icmp_neN (tgt := 134) hg dX11_changedBy_127 (by decide) (by decide) (by decide) (fun c127 => absurd rfl c127) (fun c127 => ?_)
                  refine A_iconst (v := (nI (0))) hg dX11_changedBy_130 (by decide) ?_
                  refine A_goto (tgt := 135) hg dX11_changedBy_131 (by decide) ?_
                  refine A_iaddN hg dX11_changedBy_135 ?_
                  refine A_istore hg dX11_changedBy_136 (by decide) (q_c1d rfl) ?_
                  refine A_eq (ls2 := [some (.ref (q_h G + 279)), some (.int (nI (r1))), some (.int (nI (a1))), some (.int (nI (b1))), some (.int (nI (n1 + 0))), some (.int (nI (p)))]) (st2 := []) (pc2 := 0) rfl rfl ?_
                  refine A_iincN (k' := 1) hg dX11_changedBy_138 (by decide) rfl (by decide) (q_c1d rfl) ?_
                  refine A_eq (ls2 := [some (.ref (q_h G + 279)), some (.int (nI (r1))), some (.int (nI (a1))), some (.int (nI (b1))), some (.int (nI (n1 + 0))), some (.int (nI (p + 1)))]) (st2 := []) (pc2 := 0) rfl rfl ?_
                  refine A_goto (tgt := 81) hg dX11_changedBy_141 (by decide) ?_
                  exact ih81 (p + 1) (n1 + 0) (by omega) (by first | rw [s_chc_t1 (hvp.symm.trans c104) (fun e => c119 (hnvp.trans e)), hn] | rw [s_chc_t2 (fun e => c104 (hvp.trans e)) (hnvp.symm.trans c119), hn] | rw [s_chc_f1 (hvp.symm.trans c104) (hnvp.symm.trans c119)]; exact hn | (rw [s_chc_f1 (hvp.symm.trans c104) (hnvp.symm.trans c119)]; exact hn) | (rw [s_chc_f2 (fun e => c104 (hvp.trans e)) (fun e => c119 (hnvp.trans e))]; exact hn)) (by omega)
        exact hL81 _ 0 0 (by omega) ((s_chc_0 _ _ _).symm) (Nat.lt_succ_self _)
      · skip
        refine A_aload_n hg dX11_changedBy_55 rfl rfl ?_
        refine A_iload_n hg dX11_changedBy_56 rfl rfl ?_
        refine A_iload_n hg dX11_changedBy_57 rfl rfl ?_
        refine A_iload_n hg dX11_changedBy_58 rfl rfl ?_
        refine A_eV (kc2 := 0) (ks2 := 0) (As := [.int (nI (r1)), .int (nI (a1)), .int (nI (b1))]) (rest := [.int (nI ((41 * a1) + b1)), .ref (q_h G + 285)]) hg lk_RX11_454 in_X11_allowsBarred se_X11_allowsBarred rfl dX11_changedBy_59 ⟨by decide, by decide⟩ rfl rfl ⟨by decide, by decide⟩ hc_51 (by omega) rfl rfl (Nat.le_of_ble_eq_true rfl) (c_X11_allowsBarred G ex n σ_49 (upd (upd (upd F 7 (nI (0))) 12 (nI (mc'))) 16 (nI (z'))) g r1 a1 b1 hc_51 hc_50 (by omega) (by omega) (by omega) (by omega) (by omega)) ?_
        refine A_if_eqB (tgt := 69) hg dX11_changedBy_62 (by decide) (fun c62 => ?_) (fun c62 => ?_)
        · skip
          refine A_iconst (v := (nI (0))) hg dX11_changedBy_69 (by decide) ?_
          refine A_bast (j := ((41 * a1) + b1)) (x := 0) hg dX11_changedBy_70 hc_47 (by omega) (by omega) (by decide) (by omega) (fun σ_80 hc_81 hf_82 => ?_)
          have hc_83 : σ_80 280 = q_an G 265 g := (hf_82 _ (by omega)).trans hc_50
          have hc_84 : σ_80 279 = o11 G (upd (upd (upd F 7 (nI (0))) 12 (nI (mc'))) 16 (nI (z'))) := (hf_82 _ (by omega)).trans hc_51
          have hc_85 : σ_80 286 = q_an G 1681 nv' := (hf_82 _ (by omega)).trans hc_52
          have hc_86 : σ_80 287 = q_an G 1681 ns' := (hf_82 _ (by omega)).trans hc_53
          have hc_87 : σ_80 288 = q_an G 2000 mk' := (hf_82 _ (by omega)).trans hc_54
          have hc_88 : σ_80 289 = q_an G 6724 va' := (hf_82 _ (by omega)).trans hc_55
          have hc_89 : σ_80 290 = q_an G 6724 sp' := (hf_82 _ (by omega)).trans hc_56
          have hc_90 : σ_80 291 = q_an G 80 lo' := (hf_82 _ (by omega)).trans hc_57
          have hA3 := s_A2_up (u := s_rule g r1) (k := a1) (l := b1) (c := false) (by first | (rw [s_bar_no c52]; rfl) | (rw [c62, Bool.and_false])) (v := 0) rfl hA2
          refine A_aload_n hg dX11_changedBy_71 rfl rfl ?_
          refine A_vV (kc2 := 0) (ks2 := 0) (As := []) (rest := []) hg lk_RX11_137 in_X11_laysValues se_X11_laysValues rfl dX11_changedBy_72 ⟨by decide, by decide⟩ rfl rfl ⟨by decide, by decide⟩ hc_84 (by omega) rfl rfl (Nat.le_of_ble_eq_true rfl) (c_X11_laysValues G ex n σ_80 (upd (upd (upd F 7 (nI (0))) 12 (nI (mc'))) 16 (nI (z'))) (s_A2 (s_rule g r1) a1 b1) (va_up f2 ((41 * a1) + b1) 0) nv' mk' mc' hc_84 hc_81 hc_85 hc_87 (by omega) rfl (by omega) hA3 (s_A2_0 hkp) hmk2) ?_
          rintro σ_95 ⟨nv2, mk2, hnv2, hmk3, hc_91, hc_92, hc_93, hf_94⟩
          have hc_91 : σ_95 279 = o11 G (upd (upd (upd F 7 (nI (0))) 12 (nI (mc' + 1681))) 16 (nI (z'))) := hc_91
          have hc_96 : σ_95 280 = q_an G 265 g := (hf_94 _ (by omega)).trans hc_83
          have hc_97 : σ_95 287 = q_an G 1681 ns' := (hf_94 _ (by omega)).trans hc_86
          have hc_98 : σ_95 289 = q_an G 6724 va' := (hf_94 _ (by omega)).trans hc_88
          have hc_99 : σ_95 290 = q_an G 6724 sp' := (hf_94 _ (by omega)).trans hc_89
          have hc_100 : σ_95 291 = q_an G 80 lo' := (hf_94 _ (by omega)).trans hc_90
          have hc_101 : σ_95 285 = q_bn G 1681 (va_up f2 ((41 * a1) + b1) 0) := (hf_94 _ (by omega)).trans hc_81
          refine A_iconst (v := (nI (0))) hg dX11_changedBy_75 (by decide) ?_
          refine A_istore hg dX11_changedBy_76 (by decide) (q_c1d rfl) ?_
          refine A_eq (ls2 := [some (.ref (q_h G + 279)), some (.int (nI (r1))), some (.int (nI (a1))), some (.int (nI (b1))), some (.int (nI (0))), none]) (st2 := []) (pc2 := 0) rfl rfl ?_
          refine A_iconst (v := (nI (0))) hg dX11_changedBy_78 (by decide) ?_
          refine A_istore hg dX11_changedBy_79 (by decide) (q_c1d rfl) ?_
          refine A_eq (ls2 := [some (.ref (q_h G + 279)), some (.int (nI (r1))), some (.int (nI (a1))), some (.int (nI (b1))), some (.int (nI (0))), some (.int (nI (0)))]) (st2 := []) (pc2 := 0) rfl rfl ?_
          have hL81 : ∀ (fu : Nat) (p : Nat) (n1 : Nat), (p ≤ 1681) → (n1 = s_chc (s_rule g r1) a1 b1 p) → (1681 - p) < fu → AJ G K Q 0 0 ex n 81 [some (.ref (q_h G + 279)), some (.int (nI (r1))), some (.int (nI (a1))), some (.int (nI (b1))), some (.int (nI (n1))), some (.int (nI (p)))] [] σ_95 := by
            intro fu
            induction fu with
            | zero => intro p n1 hp hn hm; exact absurd hm (Nat.not_lt_zero _)
            | succ fu ih81 =>
              intro p n1 hp hn hm81
              refine A_iload hg dX11_changedBy_81 rfl ?_
              refine A_sipush (v := (nI (1681))) hg dX11_changedBy_83 (by decide) ?_
              refine A_icmp_geN (tgt := 144) hg dX11_changedBy_86 (by omega) (by decide) (by decide) (fun c86 => ?_) (fun c86 => ?_)
              · skip
                refine A_iload hg dX11_changedBy_144 rfl ?_
                rw [hQ]
                exact A_ireturn hg (by decide) (by decide) rfl dX11_changedBy_146 ⟨rfl, Or.inr (Or.inr ((⟨r1, a1, b1, (va_up f2 ((41 * a1) + b1) 0), nv2, ns', mk2, va', sp', lo', (mc' + 1681), z', (by rw [hn, show p = 1681 by omega]), (by first | rfl | assumption | omega), (by first | rfl | assumption | omega), (by first | rfl | assumption | omega), (by first | rfl | assumption | omega), (by first | rfl | assumption | omega), (by first | rfl | assumption | omega), (by first | rfl | assumption | omega), hTI2, (by omega), hmk3, hlo2, hc_91, hc_101, hc_92, hc_97, hc_93, hc_98, hc_99, hc_100, (fun i hi => ((hf_94 i (by omega)).trans ((hf_82 i (by omega)).trans ((hf_48 i (by omega)).trans ((hf_44 i (by omega)).trans (hf_3 i (by omega)))))))⟩)))⟩
              · skip
                refine A_iload hg dX11_changedBy_89 rfl ?_
                refine A_aload_n hg dX11_changedBy_91 rfl rfl ?_
                refine A_getf (v := .ref (q_h G + 289)) hg fl_RX11_38 dX11_changedBy_92 hc_91 (by omega) rfl ?_
                refine A_sipush (v := (nI (1681))) hg dX11_changedBy_95 (by decide) ?_
                refine A_iload_n hg dX11_changedBy_98 rfl rfl ?_
                refine A_imulN hg dX11_changedBy_99 ?_
                refine A_iload hg dX11_changedBy_100 rfl ?_
                refine A_iaddN hg dX11_changedBy_102 ?_
                refine A_iald (j := ((1681 * r1) + p)) hg dX11_changedBy_103 hc_98 (by omega) (by omega) (by decide) ?_
                have hvp := (hCU2 p (by omega)).1
                have hvl := s_V_le (s_rule g r1) (p := p) (by omega)
                have hnvp := hnv2 p (by omega)
                have hnvl := s_val_le (s_A2_0 (u := s_rule g r1) hkp) p (by omega)
                refine A_if_neN (tgt := 111) hg dX11_changedBy_104 (by omega) (by decide) (fun c104 => ?_) (fun c104 => ?_)
                · skip
                  refine A_iconst (v := (nI (0))) hg dX11_changedBy_111 (by decide) ?_
                  refine A_aload_n hg dX11_changedBy_112 rfl rfl ?_
                  refine A_getf (v := .ref (q_h G + 286)) hg fl_RX11_29 dX11_changedBy_113 hc_91 (by omega) rfl ?_
                  refine A_iload hg dX11_changedBy_116 rfl ?_
                  refine A_iald (j := p) hg dX11_changedBy_118 hc_92 (by omega) (by omega) (by decide) ?_
                  refine A_if_neN (tgt := 126) hg dX11_changedBy_119 (by omega) (by decide) (fun c119 => ?_) (fun c119 => ?_)
                  · skip
                    refine A_iconst (v := (nI (0))) hg dX11_changedBy_126 (by decide) ?_
                    refine A_icmp_neN (tgt := 134) hg dX11_changedBy_127 (by decide) (by decide) (by decide) (fun c127 => absurd rfl c127) (fun c127 => ?_)
                    refine A_iconst (v := (nI (0))) hg dX11_changedBy_130 (by decide) ?_
                    refine A_goto (tgt := 135) hg dX11_changedBy_131 (by decide) ?_
                    refine A_iaddN hg dX11_changedBy_135 ?_
                    refine A_istore hg dX11_changedBy_136 (by decide) (q_c1d rfl) ?_
                    refine A_eq (ls2 := [some (.ref (q_h G + 279)), some (.int (nI (r1))), some (.int (nI (a1))), some (.int (nI (b1))), some (.int (nI (n1 + 0))), some (.int (nI (p)))]) (st2 := []) (pc2 := 0) rfl rfl ?_
                    refine A_iincN (k' := 1) hg dX11_changedBy_138 (by decide) rfl (by decide) (q_c1d rfl) ?_
                    refine A_eq (ls2 := [some (.ref (q_h G + 279)), some (.int (nI (r1))), some (.int (nI (a1))), some (.int (nI (b1))), some (.int (nI (n1 + 0))), some (.int (nI (p + 1)))]) (st2 := []) (pc2 := 0) rfl rfl ?_
                    refine A_goto (tgt := 81) hg dX11_changedBy_141 (by decide) ?_
                    exact ih81 (p + 1) (n1 + 0) (by omega) (by first | rw [s_chc_t1 (hvp.symm.trans c104) (fun e => c119 (hnvp.trans e)), hn] | rw [s_chc_t2 (fun e => c104 (hvp.trans e)) (hnvp.symm.trans c119), hn] | rw [s_chc_f1 (hvp.symm.trans c104) (hnvp.symm.trans c119)]; exact hn | (rw [s_chc_f1 (hvp.symm.trans c104) (hnvp.symm.trans c119)]; exact hn) | (rw [s_chc_f2 (fun e => c104 (hvp.trans e)) (fun e => c119 (hnvp.trans e))]; exact hn)) (by omega)
                  · skip
                    refine A_iconst (v := (nI (1))) hg dX11_changedBy_122 (by decide) ?_
                    refine A_goto (tgt := 127) hg dX11_changedBy_123 (by decide) ?_
                    refine A_icmp_neN (tgt := 134) hg dX11_changedBy_127 (by decide) (by decide) (by decide) (fun c127 => ?_) (fun c127 => absurd c127 (by decide))
                    refine A_iconst (v := (nI (1))) hg dX11_changedBy_134 (by decide) ?_
                    refine A_iaddN hg dX11_changedBy_135 ?_
                    refine A_istore hg dX11_changedBy_136 (by decide) (q_c1d rfl) ?_
                    refine A_eq (ls2 := [some (.ref (q_h G + 279)), some (.int (nI (r1))), some (.int (nI (a1))), some (.int (nI (b1))), some (.int (nI (n1 + 1))), some (.int (nI (p)))]) (st2 := []) (pc2 := 0) rfl rfl ?_
                    refine A_iincN (k' := 1) hg dX11_changedBy_138 (by decide) rfl (by decide) (q_c1d rfl) ?_
                    refine A_eq (ls2 := [some (.ref (q_h G + 279)), some (.int (nI (r1))), some (.int (nI (a1))), some (.int (nI (b1))), some (.int (nI (n1 + 1))), some (.int (nI (p + 1)))]) (st2 := []) (pc2 := 0) rfl rfl ?_
                    refine A_goto (tgt := 81) hg dX11_changedBy_141 (by decide) ?_
                    exact ih81 (p + 1) (n1 + 1) (by omega) (by first | rw [s_chc_t1 (hvp.symm.trans c104) (fun e => c119 (hnvp.trans e)), hn] | rw [s_chc_t2 (fun e => c104 (hvp.trans e)) (hnvp.symm.trans c119), hn] | rw [s_chc_f1 (hvp.symm.trans c104) (hnvp.symm.trans c119)]; exact hn | (rw [s_chc_f1 (hvp.symm.trans c104) (hnvp.symm.trans c119)]; exact hn) | (rw [s_chc_f2 (fun e => c104 (hvp.trans e)) (fun e => c119 (hnvp.trans e))]; exact hn)) (by omega)
                · skip
                  refine A_iconst (v := (nI (1))) hg dX11_changedBy_107 (by decide) ?_
                  refine A_goto (tgt := 112) hg dX11_changedBy_108 (by decide) ?_
                  refine A_aload_n hg dX11_changedBy_112 rfl rfl ?_
                  refine A_getf (v := .ref (q_h G + 286)) hg fl_RX11_29 dX11_changedBy_113 hc_91 (by omega) rfl ?_
                  refine A_iload hg dX11_changedBy_116 rfl ?_
                  refine A_iald (j := p) hg dX11_changedBy_118 hc_92 (by omega) (by omega) (by decide) ?_
                  refine A_if_neN (tgt := 126) hg dX11_changedBy_119 (by omega) (by decide) (fun c119 => ?_) (fun c119 => ?_)
                  · skip
                    refine A_iconst (v := (nI (0))) hg dX11_changedBy_126 (by decide) ?_
                    refine A_icmp_neN (tgt := 134) hg dX11_changedBy_127 (by decide) (by decide) (by decide) (fun c127 => ?_) (fun c127 => absurd c127 (by decide))
                    refine A_iconst (v := (nI (1))) hg dX11_changedBy_134 (by decide) ?_
                    refine A_iaddN hg dX11_changedBy_135 ?_
                    refine A_istore hg dX11_changedBy_136 (by decide) (q_c1d rfl) ?_
                    refine A_eq (ls2 := [some (.ref (q_h G + 279)), some (.int (nI (r1))), some (.int (nI (a1))), some (.int (nI (b1))), some (.int (nI (n1 + 1))), some (.int (nI (p)))]) (st2 := []) (pc2 := 0) rfl rfl ?_
                    refine A_iincN (k' := 1) hg dX11_changedBy_138 (by decide) rfl (by decide) (q_c1d rfl) ?_
                    refine A_eq (ls2 := [some (.ref (q_h G + 279)), some (.int (nI (r1))), some (.int (nI (a1))), some (.int (nI (b1))), some (.int (nI (n1 + 1))), some (.int (nI (p + 1)))]) (st2 := []) (pc2 := 0) rfl rfl ?_
                    refine A_goto (tgt := 81) hg dX11_changedBy_141 (by decide) ?_
                    exact ih81 (p + 1) (n1 + 1) (by omega) (by first | rw [s_chc_t1 (hvp.symm.trans c104) (fun e => c119 (hnvp.trans e)), hn] | rw [s_chc_t2 (fun e => c104 (hvp.trans e)) (hnvp.symm.trans c119), hn] | rw [s_chc_f1 (hvp.symm.trans c104) (hnvp.symm.trans c119)]; exact hn | (rw [s_chc_f1 (hvp.symm.trans c104) (hnvp.symm.trans c119)]; exact hn) | (rw [s_chc_f2 (fun e => c104 (hvp.trans e)) (fun e => c119 (hnvp.trans e))]; exact hn)) (by omega)
                  · skip
                    refine A_iconst (v := (nI (1))) hg dX11_changedBy_122 (by decide) ?_
                    refine A_goto (tgt := 127) hg dX11_changedBy_123 (by decide) ?_
                    refine A_icmp_neN (tgt := 134) hg dX11_changedBy_127 (by decide) (by decide) (by decide) (fun c127 => absurd rfl c127) (fun c127 => ?_)
                    refine A_iconst (v := (nI (0))) hg dX11_changedBy_130 (by decide) ?_
                    refine A_goto (tgt := 135) hg dX11_changedBy_131 (by decide) ?_
                    refine A_iaddN hg dX11_changedBy_135 ?_
                    refine A_istore hg dX11_changedBy_136 (by decide) (q_c1d rfl) ?_
                    refine A_eq (ls2 := [some (.ref (q_h G + 279)), some (.int (nI (r1))), some (.int (nI (a1))), some (.int (nI (b1))), some (.int (nI (n1 + 0))), some (.int (nI (p)))]) (st2 := []) (pc2 := 0) rfl rfl ?_
                    refine A_iincN (k' := 1) hg dX11_changedBy_138 (by decide) rfl (by decide) (q_c1d rfl) ?_
                    refine A_eq (ls2 := [some (.ref (q_h G + 279)), some (.int (nI (r1))), some (.int (nI (a1))), some (.int (nI (b1))), some (.int (nI (n1 + 0))), some (.int (nI (p + 1)))]) (st2 := []) (pc2 := 0) rfl rfl ?_
                    refine A_goto (tgt := 81) hg dX11_changedBy_141 (by decide) ?_
                    exact ih81 (p + 1) (n1 + 0) (by omega) (by first | rw [s_chc_t1 (hvp.symm.trans c104) (fun e => c119 (hnvp.trans e)), hn] | rw [s_chc_t2 (fun e => c104 (hvp.trans e)) (hnvp.symm.trans c119), hn] | rw [s_chc_f1 (hvp.symm.trans c104) (hnvp.symm.trans c119)]; exact hn | (rw [s_chc_f1 (hvp.symm.trans c104) (hnvp.symm.trans c119)]; exact hn) | (rw [s_chc_f2 (fun e => c104 (hvp.trans e)) (fun e => c119 (hnvp.trans e))]; exact hn)) (by omega)
          exact hL81 _ 0 0 (by omega) ((s_chc_0 _ _ _).symm) (Nat.lt_succ_self _)
        · skip
          refine A_iconst (v := (nI (1))) hg dX11_changedBy_65 (by decide) ?_
          refine A_goto (tgt := 70) hg dX11_changedBy_66 (by decide) ?_
          refine A_bast (j := ((41 * a1) + b1)) (x := 1) hg dX11_changedBy_70 hc_47 (by omega) (by omega) (by decide) (by omega) (fun σ_102 hc_103 hf_104 => ?_)
          have hc_105 : σ_102 280 = q_an G 265 g := (hf_104 _ (by omega)).trans hc_50
          have hc_106 : σ_102 279 = o11 G (upd (upd (upd F 7 (nI (0))) 12 (nI (mc'))) 16 (nI (z'))) := (hf_104 _ (by omega)).trans hc_51
          have hc_107 : σ_102 286 = q_an G 1681 nv' := (hf_104 _ (by omega)).trans hc_52
          have hc_108 : σ_102 287 = q_an G 1681 ns' := (hf_104 _ (by omega)).trans hc_53
          have hc_109 : σ_102 288 = q_an G 2000 mk' := (hf_104 _ (by omega)).trans hc_54
          have hc_110 : σ_102 289 = q_an G 6724 va' := (hf_104 _ (by omega)).trans hc_55
          have hc_111 : σ_102 290 = q_an G 6724 sp' := (hf_104 _ (by omega)).trans hc_56
          have hc_112 : σ_102 291 = q_an G 80 lo' := (hf_104 _ (by omega)).trans hc_57
          have hA3 := s_A2_up (u := s_rule g r1) (k := a1) (l := b1) (c := true) (by rw [s_bar_yes c52, c62]; rfl) (v := 1) rfl hA2
          refine A_aload_n hg dX11_changedBy_71 rfl rfl ?_
          refine A_vV (kc2 := 0) (ks2 := 0) (As := []) (rest := []) hg lk_RX11_137 in_X11_laysValues se_X11_laysValues rfl dX11_changedBy_72 ⟨by decide, by decide⟩ rfl rfl ⟨by decide, by decide⟩ hc_106 (by omega) rfl rfl (Nat.le_of_ble_eq_true rfl) (c_X11_laysValues G ex n σ_102 (upd (upd (upd F 7 (nI (0))) 12 (nI (mc'))) 16 (nI (z'))) (s_A2 (s_rule g r1) a1 b1) (va_up f2 ((41 * a1) + b1) 1) nv' mk' mc' hc_106 hc_103 hc_107 hc_109 (by omega) rfl (by omega) hA3 (s_A2_0 hkp) hmk2) ?_
          rintro σ_117 ⟨nv2, mk2, hnv2, hmk3, hc_113, hc_114, hc_115, hf_116⟩
          have hc_113 : σ_117 279 = o11 G (upd (upd (upd F 7 (nI (0))) 12 (nI (mc' + 1681))) 16 (nI (z'))) := hc_113
          have hc_118 : σ_117 280 = q_an G 265 g := (hf_116 _ (by omega)).trans hc_105
          have hc_119 : σ_117 287 = q_an G 1681 ns' := (hf_116 _ (by omega)).trans hc_108
          have hc_120 : σ_117 289 = q_an G 6724 va' := (hf_116 _ (by omega)).trans hc_110
          have hc_121 : σ_117 290 = q_an G 6724 sp' := (hf_116 _ (by omega)).trans hc_111
          have hc_122 : σ_117 291 = q_an G 80 lo' := (hf_116 _ (by omega)).trans hc_112
          have hc_123 : σ_117 285 = q_bn G 1681 (va_up f2 ((41 * a1) + b1) 1) := (hf_116 _ (by omega)).trans hc_103
          refine A_iconst (v := (nI (0))) hg dX11_changedBy_75 (by decide) ?_
          refine A_istore hg dX11_changedBy_76 (by decide) (q_c1d rfl) ?_
          refine A_eq (ls2 := [some (.ref (q_h G + 279)), some (.int (nI (r1))), some (.int (nI (a1))), some (.int (nI (b1))), some (.int (nI (0))), none]) (st2 := []) (pc2 := 0) rfl rfl ?_
          refine A_iconst (v := (nI (0))) hg dX11_changedBy_78 (by decide) ?_
          refine A_istore hg dX11_changedBy_79 (by decide) (q_c1d rfl) ?_
          refine A_eq (ls2 := [some (.ref (q_h G + 279)), some (.int (nI (r1))), some (.int (nI (a1))), some (.int (nI (b1))), some (.int (nI (0))), some (.int (nI (0)))]) (st2 := []) (pc2 := 0) rfl rfl ?_
          have hL81 : ∀ (fu : Nat) (p : Nat) (n1 : Nat), (p ≤ 1681) → (n1 = s_chc (s_rule g r1) a1 b1 p) → (1681 - p) < fu → AJ G K Q 0 0 ex n 81 [some (.ref (q_h G + 279)), some (.int (nI (r1))), some (.int (nI (a1))), some (.int (nI (b1))), some (.int (nI (n1))), some (.int (nI (p)))] [] σ_117 := by
            intro fu
            induction fu with
            | zero => intro p n1 hp hn hm; exact absurd hm (Nat.not_lt_zero _)
            | succ fu ih81 =>
              intro p n1 hp hn hm81
              refine A_iload hg dX11_changedBy_81 rfl ?_
              refine A_sipush (v := (nI (1681))) hg dX11_changedBy_83 (by decide) ?_
              refine A_icmp_geN (tgt := 144) hg dX11_changedBy_86 (by omega) (by decide) (by decide) (fun c86 => ?_) (fun c86 => ?_)
              · skip
                refine A_iload hg dX11_changedBy_144 rfl ?_
                rw [hQ]
                exact A_ireturn hg (by decide) (by decide) rfl dX11_changedBy_146 ⟨rfl, Or.inr (Or.inr ((⟨r1, a1, b1, (va_up f2 ((41 * a1) + b1) 1), nv2, ns', mk2, va', sp', lo', (mc' + 1681), z', (by rw [hn, show p = 1681 by omega]), (by first | rfl | assumption | omega), (by first | rfl | assumption | omega), (by first | rfl | assumption | omega), (by first | rfl | assumption | omega), (by first | rfl | assumption | omega), (by first | rfl | assumption | omega), (by first | rfl | assumption | omega), hTI2, (by omega), hmk3, hlo2, hc_113, hc_123, hc_114, hc_119, hc_115, hc_120, hc_121, hc_122, (fun i hi => ((hf_116 i (by omega)).trans ((hf_104 i (by omega)).trans ((hf_48 i (by omega)).trans ((hf_44 i (by omega)).trans (hf_3 i (by omega)))))))⟩)))⟩
              · skip
                refine A_iload hg dX11_changedBy_89 rfl ?_
                refine A_aload_n hg dX11_changedBy_91 rfl rfl ?_
                refine A_getf (v := .ref (q_h G + 289)) hg fl_RX11_38 dX11_changedBy_92 hc_113 (by omega) rfl ?_
                refine A_sipush (v := (nI (1681))) hg dX11_changedBy_95 (by decide) ?_
                refine A_iload_n hg dX11_changedBy_98 rfl rfl ?_
                refine A_imulN hg dX11_changedBy_99 ?_
                refine A_iload hg dX11_changedBy_100 rfl ?_
                refine A_iaddN hg dX11_changedBy_102 ?_
                refine A_iald (j := ((1681 * r1) + p)) hg dX11_changedBy_103 hc_120 (by omega) (by omega) (by decide) ?_
                have hvp := (hCU2 p (by omega)).1
                have hvl := s_V_le (s_rule g r1) (p := p) (by omega)
                have hnvp := hnv2 p (by omega)
                have hnvl := s_val_le (s_A2_0 (u := s_rule g r1) hkp) p (by omega)
                refine A_if_neN (tgt := 111) hg dX11_changedBy_104 (by omega) (by decide) (fun c104 => ?_) (fun c104 => ?_)
                · skip
                  refine A_iconst (v := (nI (0))) hg dX11_changedBy_111 (by decide) ?_
                  refine A_aload_n hg dX11_changedBy_112 rfl rfl ?_
                  refine A_getf (v := .ref (q_h G + 286)) hg fl_RX11_29 dX11_changedBy_113 hc_113 (by omega) rfl ?_
                  refine A_iload hg dX11_changedBy_116 rfl ?_
                  refine A_iald (j := p) hg dX11_changedBy_118 hc_114 (by omega) (by omega) (by decide) ?_
                  refine A_if_neN (tgt := 126) hg dX11_changedBy_119 (by omega) (by decide) (fun c119 => ?_) (fun c119 => ?_)
                  · skip
                    refine A_iconst (v := (nI (0))) hg dX11_changedBy_126 (by decide) ?_
                    refine A_icmp_neN (tgt := 134) hg dX11_changedBy_127 (by decide) (by decide) (by decide) (fun c127 => absurd rfl c127) (fun c127 => ?_)
                    refine A_iconst (v := (nI (0))) hg dX11_changedBy_130 (by decide) ?_
                    refine A_goto (tgt := 135) hg dX11_changedBy_131 (by decide) ?_
                    refine A_iaddN hg dX11_changedBy_135 ?_
                    refine A_istore hg dX11_changedBy_136 (by decide) (q_c1d rfl) ?_
                    refine A_eq (ls2 := [some (.ref (q_h G + 279)), some (.int (nI (r1))), some (.int (nI (a1))), some (.int (nI (b1))), some (.int (nI (n1 + 0))), some (.int (nI (p)))]) (st2 := []) (pc2 := 0) rfl rfl ?_
                    refine A_iincN (k' := 1) hg dX11_changedBy_138 (by decide) rfl (by decide) (q_c1d rfl) ?_
                    refine A_eq (ls2 := [some (.ref (q_h G + 279)), some (.int (nI (r1))), some (.int (nI (a1))), some (.int (nI (b1))), some (.int (nI (n1 + 0))), some (.int (nI (p + 1)))]) (st2 := []) (pc2 := 0) rfl rfl ?_
                    refine A_goto (tgt := 81) hg dX11_changedBy_141 (by decide) ?_
                    exact ih81 (p + 1) (n1 + 0) (by omega) (by first | rw [s_chc_t1 (hvp.symm.trans c104) (fun e => c119 (hnvp.trans e)), hn] | rw [s_chc_t2 (fun e => c104 (hvp.trans e)) (hnvp.symm.trans c119), hn] | rw [s_chc_f1 (hvp.symm.trans c104) (hnvp.symm.trans c119)]; exact hn | (rw [s_chc_f1 (hvp.symm.trans c104) (hnvp.symm.trans c119)]; exact hn) | (rw [s_chc_f2 (fun e => c104 (hvp.trans e)) (fun e => c119 (hnvp.trans e))]; exact hn)) (by omega)
                  · skip
                    refine A_iconst (v := (nI (1))) hg dX11_changedBy_122 (by decide) ?_
                    refine A_goto (tgt := 127) hg dX11_changedBy_123 (by decide) ?_
                    refine A_icmp_neN (tgt := 134) hg dX11_changedBy_127 (by decide) (by decide) (by decide) (fun c127 => ?_) (fun c127 => absurd c127 (by decide))
                    refine A_iconst (v := (nI (1))) hg dX11_changedBy_134 (by decide) ?_
                    refine A_iaddN hg dX11_changedBy_135 ?_
                    refine A_istore hg dX11_changedBy_136 (by decide) (q_c1d rfl) ?_
                    refine A_eq (ls2 := [some (.ref (q_h G + 279)), some (.int (nI (r1))), some (.int (nI (a1))), some (.int (nI (b1))), some (.int (nI (n1 + 1))), some (.int (nI (p)))]) (st2 := []) (pc2 := 0) rfl rfl ?_
                    refine A_iincN (k' := 1) hg dX11_changedBy_138 (by decide) rfl (by decide) (q_c1d rfl) ?_
                    refine A_eq (ls2 := [some (.ref (q_h G + 279)), some (.int (nI (r1))), some (.int (nI (a1))), some (.int (nI (b1))), some (.int (nI (n1 + 1))), some (.int (nI (p + 1)))]) (st2 := []) (pc2 := 0) rfl rfl ?_
                    refine A_goto (tgt := 81) hg dX11_changedBy_141 (by decide) ?_
                    exact ih81 (p + 1) (n1 + 1) (by omega) (by first | rw [s_chc_t1 (hvp.symm.trans c104) (fun e => c119 (hnvp.trans e)), hn] | rw [s_chc_t2 (fun e => c104 (hvp.trans e)) (hnvp.symm.trans c119), hn] | rw [s_chc_f1 (hvp.symm.trans c104) (hnvp.symm.trans c119)]; exact hn | (rw [s_chc_f1 (hvp.symm.trans c104) (hnvp.symm.trans c119)]; exact hn) | (rw [s_chc_f2 (fun e => c104 (hvp.trans e)) (fun e => c119 (hnvp.trans e))]; exact hn)) (by omega)
                · skip
                  refine A_iconst (v := (nI (1))) hg dX11_changedBy_107 (by decide) ?_
                  refine A_goto (tgt := 112) hg dX11_changedBy_108 (by decide) ?_
                  refine A_aload_n hg dX11_changedBy_112 rfl rfl ?_
                  refine A_getf (v := .ref (q_h G + 286)) hg fl_RX11_29 dX11_changedBy_113 hc_113 (by omega) rfl ?_
                  refine A_iload hg dX11_changedBy_116 rfl ?_
                  refine A_iald (j := p) hg dX11_changedBy_118 hc_114 (by omega) (by omega) (by decide) ?_
                  refine A_if_neN (tgt := 126) hg dX11_changedBy_119 (by omega) (by decide) (fun c119 => ?_) (fun c119 => ?_)
                  · skip
                    refine A_iconst (v := (nI (0))) hg dX11_changedBy_126 (by decide) ?_
                    refine A_icmp_neN (tgt := 134) hg dX11_changedBy_127 (by decide) (by decide) (by decide) (fun c127 => ?_) (fun c127 => absurd c127 (by decide))
                    refine A_iconst (v := (nI (1))) hg dX11_changedBy_134 (by decide) ?_
                    refine A_iaddN hg dX11_changedBy_135 ?_
                    refine A_istore hg dX11_changedBy_136 (by decide) (q_c1d rfl) ?_
                    refine A_eq (ls2 := [some (.ref (q_h G + 279)), some (.int (nI (r1))), some (.int (nI (a1))), some (.int (nI (b1))), some (.int (nI (n1 + 1))), some (.int (nI (p)))]) (st2 := []) (pc2 := 0) rfl rfl ?_
                    refine A_iincN (k' := 1) hg dX11_changedBy_138 (by decide) rfl (by decide) (q_c1d rfl) ?_
                    refine A_eq (ls2 := [some (.ref (q_h G + 279)), some (.int (nI (r1))), some (.int (nI (a1))), some (.int (nI (b1))), some (.int (nI (n1 + 1))), some (.int (nI (p + 1)))]) (st2 := []) (pc2 := 0) rfl rfl ?_
                    refine A_goto (tgt := 81) hg dX11_changedBy_141 (by decide) ?_
                    exact ih81 (p + 1) (n1 + 1) (by omega) (by first | rw [s_chc_t1 (hvp.symm.trans c104) (fun e => c119 (hnvp.trans e)), hn] | rw [s_chc_t2 (fun e => c104 (hvp.trans e)) (hnvp.symm.trans c119), hn] | rw [s_chc_f1 (hvp.symm.trans c104) (hnvp.symm.trans c119)]; exact hn | (rw [s_chc_f1 (hvp.symm.trans c104) (hnvp.symm.trans c119)]; exact hn) | (rw [s_chc_f2 (fun e => c104 (hvp.trans e)) (fun e => c119 (hnvp.trans e))]; exact hn)) (by omega)
                  · skip
                    refine A_iconst (v := (nI (1))) hg dX11_changedBy_122 (by decide) ?_
                    refine A_goto (tgt := 127) hg dX11_changedBy_123 (by decide) ?_
                    refine A_icmp_neN (tgt := 134) hg dX11_changedBy_127 (by decide) (by decide) (by decide) (fun c127 => absurd rfl c127) (fun c127 => ?_)
                    refine A_iconst (v := (nI (0))) hg dX11_changedBy_130 (by decide) ?_
                    refine A_goto (tgt := 135) hg dX11_changedBy_131 (by decide) ?_
                    refine A_iaddN hg dX11_changedBy_135 ?_
                    refine A_istore hg dX11_changedBy_136 (by decide) (q_c1d rfl) ?_
                    refine A_eq (ls2 := [some (.ref (q_h G + 279)), some (.int (nI (r1))), some (.int (nI (a1))), some (.int (nI (b1))), some (.int (nI (n1 + 0))), some (.int (nI (p)))]) (st2 := []) (pc2 := 0) rfl rfl ?_
                    refine A_iincN (k' := 1) hg dX11_changedBy_138 (by decide) rfl (by decide) (q_c1d rfl) ?_
                    refine A_eq (ls2 := [some (.ref (q_h G + 279)), some (.int (nI (r1))), some (.int (nI (a1))), some (.int (nI (b1))), some (.int (nI (n1 + 0))), some (.int (nI (p + 1)))]) (st2 := []) (pc2 := 0) rfl rfl ?_
                    refine A_goto (tgt := 81) hg dX11_changedBy_141 (by decide) ?_
                    exact ih81 (p + 1) (n1 + 0) (by omega) (by first | rw [s_chc_t1 (hvp.symm.trans c104) (fun e => c119 (hnvp.trans e)), hn] | rw [s_chc_t2 (fun e => c104 (hvp.trans e)) (hnvp.symm.trans c119), hn] | rw [s_chc_f1 (hvp.symm.trans c104) (hnvp.symm.trans c119)]; exact hn | (rw [s_chc_f1 (hvp.symm.trans c104) (hnvp.symm.trans c119)]; exact hn) | (rw [s_chc_f2 (fun e => c104 (hvp.trans e)) (fun e => c119 (hnvp.trans e))]; exact hn)) (by omega)
          exact hL81 _ 0 0 (by omega) ((s_chc_0 _ _ _).symm) (Nat.lt_succ_self _)
end
