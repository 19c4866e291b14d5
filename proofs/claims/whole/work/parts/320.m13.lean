section
set_option maxRecDepth 100000 in
set_option maxHeartbeats 4000000 in
theorem c_X11_count (G : GL) (ex : Bool) (n : Nat) (σ : Nat → va_E) (F : Nat → Int32) (g : Nat → Nat) (f : Nat → Nat) (nv : Nat → Nat) (ns : Nat → Nat) (mk : Nat → Nat) (va : Nat → Nat) (sp : Nat → Nat) (lo : Nat → Nat) (mc : Nat) (z : Nat) (m : Nat) (x : Int32) (hc0 : σ 279 = o11 G F) (hc1 : σ 280 = q_an G 265 g) (hc2 : σ 285 = q_bn G 1681 f) (hc3 : σ 286 = q_an G 1681 nv) (hc4 : σ 287 = q_an G 1681 ns) (hc5 : σ 288 = q_an G 2000 mk) (hc6 : σ 289 = q_an G 6724 va) (hc7 : σ 290 = q_an G 6724 sp) (hc8 : σ 291 = q_an G 80 lo) (hn : 294 ≤ n) (hg9 : s_gwf g) (hmc : mc + 6724 < 2 ^ 31) (hF12 : F 12 = nI mc) (hF16 : F 16 = nI z) (hmk : ∀ v : Nat, v < 2000 → mk v ≤ mc) (hTI : s_TI z lo va sp) (hlo : ∀ j : Nat, j < 80 → lo j < 2 ^ 31) (hF5 : F 5 = nI m) (hm8 : m ≤ 8) : Ct G yX11_count cX11_count 2 (some .int) ⟨7, 0, 0, 160⟩ [.ref (q_h G + 279), .int (x)] ex n σ (fun v9 σ2 => (∃ (f' : Nat → Nat), ∃ (nv' : Nat → Nat), ∃ (ns' : Nat → Nat), ∃ (mk' : Nat → Nat), ∃ (va' : Nat → Nat), ∃ (sp' : Nat → Nat), ∃ (lo' : Nat → Nat), ∃ (mc' : Nat), ∃ (z' : Nat), ∃ (q1 : Int32), ∃ (q2 : Int32), ∃ (q3 : Int32), v9 = some (.int (nI (0))) ∧ (∀ j : Nat, 0 ≤ j → j ≤ 12 → x = nI j → False) ∧ (s_TI z' lo' va' sp') ∧ (mc' ≤ mc + 6724) ∧ (∀ v : Nat, v < 2000 → mk' v ≤ mc') ∧ (∀ j : Nat, j < 80 → lo' j < 2 ^ 31) ∧ σ2 279 = o11 G (upd (upd (upd (upd (upd (upd F 7 (nI (1))) 12 (nI (mc'))) 16 (nI (z'))) 17 (q1)) 18 (q2)) 19 (q3)) ∧ σ2 285 = q_bn G 1681 f' ∧ σ2 286 = q_an G 1681 nv' ∧ σ2 287 = q_an G 1681 ns' ∧ σ2 288 = q_an G 2000 mk' ∧ σ2 289 = q_an G 6724 va' ∧ σ2 290 = q_an G 6724 sp' ∧ σ2 291 = q_an G 80 lo' ∧ (∀ i : Nat, i ≠ 279 ∧ (i < 285 ∨ 291 < i) → σ2 i = σ i)) ∨ (∃ (x1 : Nat), ∃ (f' : Nat → Nat), ∃ (nv' : Nat → Nat), ∃ (ns' : Nat → Nat), ∃ (mk' : Nat → Nat), ∃ (va' : Nat → Nat), ∃ (sp' : Nat → Nat), ∃ (lo' : Nat → Nat), ∃ (mc' : Nat), ∃ (z' : Nat), ∃ (q1 : Int32), ∃ (q2 : Int32), ∃ (q3 : Int32), v9 = some (.int (nI (s_countA g m x1))) ∧ (x = nI x1) ∧ (x1 ≤ 12) ∧ (s_TI z' lo' va' sp') ∧ (mc' ≤ mc + 6724) ∧ (∀ v : Nat, v < 2000 → mk' v ≤ mc') ∧ (∀ j : Nat, j < 80 → lo' j < 2 ^ 31) ∧ σ2 279 = o11 G (upd (upd (upd (upd (upd (upd F 7 (nI (0))) 12 (nI (mc'))) 16 (nI (z'))) 17 (q1)) 18 (q2)) 19 (q3)) ∧ σ2 285 = q_bn G 1681 f' ∧ σ2 286 = q_an G 1681 nv' ∧ σ2 287 = q_an G 1681 ns' ∧ σ2 288 = q_an G 2000 mk' ∧ σ2 289 = q_an G 6724 va' ∧ σ2 290 = q_an G 6724 sp' ∧ σ2 291 = q_an G 80 lo' ∧ (∀ i : Nat, i ≠ 279 ∧ (i < 285 ∨ 291 < i) → σ2 i = σ i))) := by
  refine q_enter [some (.ref (q_h G + 279)), some (.int (x))] (by decide) (Nat.le_of_ble_eq_true rfl) rfl ?_
  intro K hg
  obtain ⟨Q, hQ⟩ : ∃ Q, Q = q_Q G K ex n 0 0 (fun v9 n' σ' => n' = n ∧ (fun v9 σ2 => (∃ (f' : Nat → Nat), ∃ (nv' : Nat → Nat), ∃ (ns' : Nat → Nat), ∃ (mk' : Nat → Nat), ∃ (va' : Nat → Nat), ∃ (sp' : Nat → Nat), ∃ (lo' : Nat → Nat), ∃ (mc' : Nat), ∃ (z' : Nat), ∃ (q1 : Int32), ∃ (q2 : Int32), ∃ (q3 : Int32), v9 = some (.int (nI (0))) ∧ (∀ j : Nat, 0 ≤ j → j ≤ 12 → x = nI j → False) ∧ (s_TI z' lo' va' sp') ∧ (mc' ≤ mc + 6724) ∧ (∀ v : Nat, v < 2000 → mk' v ≤ mc') ∧ (∀ j : Nat, j < 80 → lo' j < 2 ^ 31) ∧ σ2 279 = o11 G (upd (upd (upd (upd (upd (upd F 7 (nI (1))) 12 (nI (mc'))) 16 (nI (z'))) 17 (q1)) 18 (q2)) 19 (q3)) ∧ σ2 285 = q_bn G 1681 f' ∧ σ2 286 = q_an G 1681 nv' ∧ σ2 287 = q_an G 1681 ns' ∧ σ2 288 = q_an G 2000 mk' ∧ σ2 289 = q_an G 6724 va' ∧ σ2 290 = q_an G 6724 sp' ∧ σ2 291 = q_an G 80 lo' ∧ (∀ i : Nat, i ≠ 279 ∧ (i < 285 ∨ 291 < i) → σ2 i = σ i)) ∨ (∃ (x1 : Nat), ∃ (f' : Nat → Nat), ∃ (nv' : Nat → Nat), ∃ (ns' : Nat → Nat), ∃ (mk' : Nat → Nat), ∃ (va' : Nat → Nat), ∃ (sp' : Nat → Nat), ∃ (lo' : Nat → Nat), ∃ (mc' : Nat), ∃ (z' : Nat), ∃ (q1 : Int32), ∃ (q2 : Int32), ∃ (q3 : Int32), v9 = some (.int (nI (s_countA g m x1))) ∧ (x = nI x1) ∧ (x1 ≤ 12) ∧ (s_TI z' lo' va' sp') ∧ (mc' ≤ mc + 6724) ∧ (∀ v : Nat, v < 2000 → mk' v ≤ mc') ∧ (∀ j : Nat, j < 80 → lo' j < 2 ^ 31) ∧ σ2 279 = o11 G (upd (upd (upd (upd (upd (upd F 7 (nI (0))) 12 (nI (mc'))) 16 (nI (z'))) 17 (q1)) 18 (q2)) 19 (q3)) ∧ σ2 285 = q_bn G 1681 f' ∧ σ2 286 = q_an G 1681 nv' ∧ σ2 287 = q_an G 1681 ns' ∧ σ2 288 = q_an G 2000 mk' ∧ σ2 289 = q_an G 6724 va' ∧ σ2 290 = q_an G 6724 sp' ∧ σ2 291 = q_an G 80 lo' ∧ (∀ i : Nat, i ≠ 279 ∧ (i < 285 ∨ 291 < i) → σ2 i = σ i))) v9 σ') q_noX := ⟨_, rfl⟩
  refine (?_ : AJ G K (q_Q G K ex n 0 0 _ _) 0 0 ex n 0 _ _ σ)
  rw [← hQ]
  refine A_aload_n hg dX11_count_0 rfl rfl ?_
  refine A_iconst (v := (nI (0))) hg dX11_count_1 (by decide) ?_
  refine A_putf hg fl_RX11_67 dX11_count_2 hc0 (by omega) (Nat.le_of_ble_eq_true rfl) rfl rfl rfl (fun σ_1 hc_2 hf_3 => ?_)
  have hc_2 : σ_1 279 = o11 G (upd F 7 (nI (0))) := hc_2
  have hc_4 : σ_1 280 = q_an G 265 g := (hf_3 _ (by omega)).trans hc1
  have hc_5 : σ_1 285 = q_bn G 1681 f := (hf_3 _ (by omega)).trans hc2
  have hc_6 : σ_1 286 = q_an G 1681 nv := (hf_3 _ (by omega)).trans hc3
  have hc_7 : σ_1 287 = q_an G 1681 ns := (hf_3 _ (by omega)).trans hc4
  have hc_8 : σ_1 288 = q_an G 2000 mk := (hf_3 _ (by omega)).trans hc5
  have hc_9 : σ_1 289 = q_an G 6724 va := (hf_3 _ (by omega)).trans hc6
  have hc_10 : σ_1 290 = q_an G 6724 sp := (hf_3 _ (by omega)).trans hc7
  have hc_11 : σ_1 291 = q_an G 80 lo := (hf_3 _ (by omega)).trans hc8
  refine A_aload_n hg dX11_count_5 rfl rfl ?_
  refine A_vV (kc2 := 0) (ks2 := 0) (As := []) (rest := []) hg lk_RX11_389 in_X11_laysAll se_X11_laysAll rfl dX11_count_6 ⟨by decide, by decide⟩ rfl rfl ⟨by decide, by decide⟩ hc_2 (by omega) rfl rfl (Nat.le_of_ble_eq_true rfl) (c_X11_laysAll G ex n σ_1 (upd F 7 (nI (0))) g f nv ns mk va sp lo mc z hc_2 hc_4 hc_5 hc_6 hc_7 hc_8 hc_9 hc_10 hc_11 (by omega) hg9.1 hg9.2.2.2.2.2.1 (by omega) hF12 hF16 hmk hTI hlo) ?_
  rintro σ_21 ⟨f', nv', ns', mk', va', sp', lo', mc', z', hTI2, hCU2, hmc2, hmk2, hlo2, hc_12, hc_13, hc_14, hc_15, hc_16, hc_17, hc_18, hc_19, hf_20⟩
  have hc_12 : σ_21 279 = o11 G (upd (upd (upd F 7 (nI (0))) 12 (nI (mc'))) 16 (nI (z'))) := hc_12
  have hc_22 : σ_21 280 = q_an G 265 g := (hf_20 _ (by omega)).trans hc_4
  have hCV2 : ∀ r : Nat, r < g 0 → ∀ q : Nat, q < 1681 → va' (1681 * r + q) = s_V (s_rule g r) q := fun r hr q hq => (hCU2 r hr q hq).1
  refine A_iload_n hg dX11_count_9 rfl rfl ?_
  by_cases hd10 : (x).toInt < 0 ∨ 12 < (x).toInt
  · skip
    refine A_tableOut (tgt := 166) hg dX11_count_10 hd10 (by decide) ?_
    refine A_aload_n hg dX11_count_166 rfl rfl ?_
    refine A_iconst (v := (nI (1))) hg dX11_count_167 (by decide) ?_
    refine A_putf hg fl_RX11_67 dX11_count_168 hc_12 (by omega) (Nat.le_of_ble_eq_true rfl) rfl rfl rfl (fun σ_23 hc_24 hf_25 => ?_)
    have hc_24 : σ_23 279 = o11 G (upd (upd (upd F 7 (nI (1))) 12 (nI (mc'))) 16 (nI (z'))) := hc_24
    have hc_26 : σ_23 280 = q_an G 265 g := (hf_25 _ (by omega)).trans hc_22
    have hc_27 : σ_23 285 = q_bn G 1681 f' := (hf_25 _ (by omega)).trans hc_13
    have hc_28 : σ_23 286 = q_an G 1681 nv' := (hf_25 _ (by omega)).trans hc_14
    have hc_29 : σ_23 287 = q_an G 1681 ns' := (hf_25 _ (by omega)).trans hc_15
    have hc_30 : σ_23 288 = q_an G 2000 mk' := (hf_25 _ (by omega)).trans hc_16
    have hc_31 : σ_23 289 = q_an G 6724 va' := (hf_25 _ (by omega)).trans hc_17
    have hc_32 : σ_23 290 = q_an G 6724 sp' := (hf_25 _ (by omega)).trans hc_18
    have hc_33 : σ_23 291 = q_an G 80 lo' := (hf_25 _ (by omega)).trans hc_19
    refine A_iconst (v := (nI (0))) hg dX11_count_171 (by decide) ?_
    rw [hQ]
    exact A_ireturn hg (by decide) (by decide) rfl dX11_count_172 ⟨rfl, Or.inl (⟨f', nv', ns', mk', va', sp', lo', mc', z', (F 17), (F 18), (F 19), rfl, (fun j _ hj e => by subst e; rw [nI_toInt (by omega)] at hd10; omega), hTI2, hmc2, hmk2, hlo2, hc_24, hc_27, hc_28, hc_29, hc_30, hc_31, hc_32, hc_33, (fun i hi => ((hf_25 i (by omega)).trans ((hf_20 i (by omega)).trans (hf_3 i (by omega)))))⟩)⟩
  · skip
    obtain ⟨k10, hk10, hx10⟩ := q_sw 0 12 hd10
    match k10, hk10, hx10 with
    | 0, _, hx10 =>
      refine A_tableIn (tgt := 76) (off := 66) hg dX11_count_10 (by rw [hx10]; decide) (by rw [hx10]; decide) (by rw [hx10]; rfl) (by decide) ?_
      refine A_aload_n hg dX11_count_76 rfl rfl ?_
      refine A_getf (v := .ref (q_h G + 280)) hg fl_RX11_7 dX11_count_77 hc_12 (by omega) rfl ?_
      refine A_iconst (v := (nI (0))) hg dX11_count_80 (by decide) ?_
      refine A_iald (j := 0) hg dX11_count_81 hc_22 (by omega) (by omega) (by decide) ?_
      have hx9 : x = nI 0 := Int32.toInt_inj.mp (by rw [hx10, nI_toInt (by decide)])
      rw [hQ]
      exact A_ireturn hg (by decide) (by decide) rfl dX11_count_82 ⟨rfl, Or.inr ((⟨0, f', nv', ns', mk', va', sp', lo', mc', z', (F 17), (F 18), (F 19), rfl, hx9, (by decide), hTI2, hmc2, hmk2, hlo2, hc_12, hc_13, hc_14, hc_15, hc_16, hc_17, hc_18, hc_19, (fun i hi => ((hf_20 i (by omega)).trans (hf_3 i (by omega))))⟩))⟩
    | 1, _, hx10 =>
      refine A_tableIn (tgt := 83) (off := 73) hg dX11_count_10 (by rw [hx10]; decide) (by rw [hx10]; decide) (by rw [hx10]; rfl) (by decide) ?_
      refine A_aload_n hg dX11_count_83 rfl rfl ?_
      refine A_getf (v := .ref (q_h G + 280)) hg fl_RX11_7 dX11_count_84 hc_12 (by omega) rfl ?_
      refine A_iconst (v := (nI (1))) hg dX11_count_87 (by decide) ?_
      refine A_iald (j := 1) hg dX11_count_88 hc_22 (by omega) (by omega) (by decide) ?_
      have hx9 : x = nI 1 := Int32.toInt_inj.mp (by rw [hx10, nI_toInt (by decide)])
      rw [hQ]
      exact A_ireturn hg (by decide) (by decide) rfl dX11_count_89 ⟨rfl, Or.inr ((⟨1, f', nv', ns', mk', va', sp', lo', mc', z', (F 17), (F 18), (F 19), rfl, hx9, (by decide), hTI2, hmc2, hmk2, hlo2, hc_12, hc_13, hc_14, hc_15, hc_16, hc_17, hc_18, hc_19, (fun i hi => ((hf_20 i (by omega)).trans (hf_3 i (by omega))))⟩))⟩
    | 2, _, hx10 =>
      refine A_tableIn (tgt := 90) (off := 80) hg dX11_count_10 (by rw [hx10]; decide) (by rw [hx10]; decide) (by rw [hx10]; rfl) (by decide) ?_
      refine A_aload_n hg dX11_count_90 rfl rfl ?_
      refine A_getf (v := .ref (q_h G + 280)) hg fl_RX11_7 dX11_count_91 hc_12 (by omega) rfl ?_
      refine A_iconst (v := (nI (2))) hg dX11_count_94 (by decide) ?_
      refine A_iald (j := 2) hg dX11_count_95 hc_22 (by omega) (by omega) (by decide) ?_
      have hx9 : x = nI 2 := Int32.toInt_inj.mp (by rw [hx10, nI_toInt (by decide)])
      rw [hQ]
      exact A_ireturn hg (by decide) (by decide) rfl dX11_count_96 ⟨rfl, Or.inr ((⟨2, f', nv', ns', mk', va', sp', lo', mc', z', (F 17), (F 18), (F 19), rfl, hx9, (by decide), hTI2, hmc2, hmk2, hlo2, hc_12, hc_13, hc_14, hc_15, hc_16, hc_17, hc_18, hc_19, (fun i hi => ((hf_20 i (by omega)).trans (hf_3 i (by omega))))⟩))⟩
    | 3, _, hx10 =>
      refine A_tableIn (tgt := 97) (off := 87) hg dX11_count_10 (by rw [hx10]; decide) (by rw [hx10]; decide) (by rw [hx10]; rfl) (by decide) ?_
      refine A_aload_n hg dX11_count_97 rfl rfl ?_
      refine A_getf (v := .ref (q_h G + 280)) hg fl_RX11_7 dX11_count_98 hc_12 (by omega) rfl ?_
      refine A_iconst (v := (nI (3))) hg dX11_count_101 (by decide) ?_
      refine A_iald (j := 3) hg dX11_count_102 hc_22 (by omega) (by omega) (by decide) ?_
      have hx9 : x = nI 3 := Int32.toInt_inj.mp (by rw [hx10, nI_toInt (by decide)])
      rw [hQ]
      exact A_ireturn hg (by decide) (by decide) rfl dX11_count_103 ⟨rfl, Or.inr ((⟨3, f', nv', ns', mk', va', sp', lo', mc', z', (F 17), (F 18), (F 19), rfl, hx9, (by decide), hTI2, hmc2, hmk2, hlo2, hc_12, hc_13, hc_14, hc_15, hc_16, hc_17, hc_18, hc_19, (fun i hi => ((hf_20 i (by omega)).trans (hf_3 i (by omega))))⟩))⟩
    | 4, _, hx10 =>
      refine A_tableIn (tgt := 104) (off := 94) hg dX11_count_10 (by rw [hx10]; decide) (by rw [hx10]; decide) (by rw [hx10]; rfl) (by decide) ?_
      refine A_aload_n hg dX11_count_104 rfl rfl ?_
      refine A_getf (v := .ref (q_h G + 280)) hg fl_RX11_7 dX11_count_105 hc_12 (by omega) rfl ?_
      refine A_iconst (v := (nI (4))) hg dX11_count_108 (by decide) ?_
      refine A_iald (j := 4) hg dX11_count_109 hc_22 (by omega) (by omega) (by decide) ?_
      have hx9 : x = nI 4 := Int32.toInt_inj.mp (by rw [hx10, nI_toInt (by decide)])
      rw [hQ]
      exact A_ireturn hg (by decide) (by decide) rfl dX11_count_110 ⟨rfl, Or.inr ((⟨4, f', nv', ns', mk', va', sp', lo', mc', z', (F 17), (F 18), (F 19), rfl, hx9, (by decide), hTI2, hmc2, hmk2, hlo2, hc_12, hc_13, hc_14, hc_15, hc_16, hc_17, hc_18, hc_19, (fun i hi => ((hf_20 i (by omega)).trans (hf_3 i (by omega))))⟩))⟩
    | 5, _, hx10 =>
      refine A_tableIn (tgt := 111) (off := 101) hg dX11_count_10 (by rw [hx10]; decide) (by rw [hx10]; decide) (by rw [hx10]; rfl) (by decide) ?_
      refine A_aload_n hg dX11_count_111 rfl rfl ?_
      refine A_eV (kc2 := 0) (ks2 := 0) (As := []) (rest := []) hg lk_RX11_206 in_X11_total se_X11_total rfl dX11_count_112 ⟨by decide, by decide⟩ rfl rfl ⟨by decide, by decide⟩ hc_12 (by omega) rfl rfl (Nat.le_of_ble_eq_true rfl) (c_X11_total G ex n σ_21 (upd (upd (upd F 7 (nI (0))) 12 (nI (mc'))) 16 (nI (z'))) g va' hc_12 hc_22 hc_17 (by omega) hg9 hCV2) ?_
      have hx9 : x = nI 5 := Int32.toInt_inj.mp (by rw [hx10, nI_toInt (by decide)])
      rw [hQ]
      exact A_ireturn hg (by decide) (by decide) rfl dX11_count_115 ⟨rfl, Or.inr ((⟨5, f', nv', ns', mk', va', sp', lo', mc', z', (F 17), (F 18), (F 19), rfl, hx9, (by decide), hTI2, hmc2, hmk2, hlo2, hc_12, hc_13, hc_14, hc_15, hc_16, hc_17, hc_18, hc_19, (fun i hi => ((hf_20 i (by omega)).trans (hf_3 i (by omega))))⟩))⟩
    | 6, _, hx10 =>
      refine A_tableIn (tgt := 116) (off := 106) hg dX11_count_10 (by rw [hx10]; decide) (by rw [hx10]; decide) (by rw [hx10]; rfl) (by decide) ?_
      refine A_aload_n hg dX11_count_116 rfl rfl ?_
      refine A_iconst (v := (nI (0))) hg dX11_count_117 (by decide) ?_
      refine A_eV (kc2 := 0) (ks2 := 0) (As := [.int (nI (0))]) (rest := []) hg lk_RX11_392 in_X11_allMoves se_X11_allMoves rfl dX11_count_118 ⟨by decide, by decide⟩ rfl rfl ⟨by decide, by decide⟩ hc_12 (by omega) rfl rfl (Nat.le_of_ble_eq_true rfl) (c_X11_allMoves G ex n σ_21 (upd (upd (upd F 7 (nI (0))) 12 (nI (mc'))) 16 (nI (z'))) g va' false hc_12 hc_22 hc_17 (by omega) hg9 hCV2) ?_
      have hx9 : x = nI 6 := Int32.toInt_inj.mp (by rw [hx10, nI_toInt (by decide)])
      rw [hQ]
      exact A_ireturn hg (by decide) (by decide) rfl dX11_count_121 ⟨rfl, Or.inr ((⟨6, f', nv', ns', mk', va', sp', lo', mc', z', (F 17), (F 18), (F 19), rfl, hx9, (by decide), hTI2, hmc2, hmk2, hlo2, hc_12, hc_13, hc_14, hc_15, hc_16, hc_17, hc_18, hc_19, (fun i hi => ((hf_20 i (by omega)).trans (hf_3 i (by omega))))⟩))⟩
    | 7, _, hx10 =>
      refine A_tableIn (tgt := 122) (off := 112) hg dX11_count_10 (by rw [hx10]; decide) (by rw [hx10]; decide) (by rw [hx10]; rfl) (by decide) ?_
      refine A_aload_n hg dX11_count_122 rfl rfl ?_
      refine A_iconst (v := (nI (1))) hg dX11_count_123 (by decide) ?_
      refine A_eV (kc2 := 0) (ks2 := 0) (As := [.int (nI (1))]) (rest := []) hg lk_RX11_392 in_X11_allMoves se_X11_allMoves rfl dX11_count_124 ⟨by decide, by decide⟩ rfl rfl ⟨by decide, by decide⟩ hc_12 (by omega) rfl rfl (Nat.le_of_ble_eq_true rfl) (c_X11_allMoves G ex n σ_21 (upd (upd (upd F 7 (nI (0))) 12 (nI (mc'))) 16 (nI (z'))) g va' true hc_12 hc_22 hc_17 (by omega) hg9 hCV2) ?_
      have hx9 : x = nI 7 := Int32.toInt_inj.mp (by rw [hx10, nI_toInt (by decide)])
      rw [hQ]
      exact A_ireturn hg (by decide) (by decide) rfl dX11_count_127 ⟨rfl, Or.inr ((⟨7, f', nv', ns', mk', va', sp', lo', mc', z', (F 17), (F 18), (F 19), rfl, hx9, (by decide), hTI2, hmc2, hmk2, hlo2, hc_12, hc_13, hc_14, hc_15, hc_16, hc_17, hc_18, hc_19, (fun i hi => ((hf_20 i (by omega)).trans (hf_3 i (by omega))))⟩))⟩
    | 8, _, hx10 =>
      refine A_tableIn (tgt := 128) (off := 118) hg dX11_count_10 (by rw [hx10]; decide) (by rw [hx10]; decide) (by rw [hx10]; rfl) (by decide) ?_
      refine A_aload_n hg dX11_count_128 rfl rfl ?_
      refine A_hV (kc2 := 0) (ks2 := 0) (As := []) (rest := []) hg lk_RX11_239 in_X11_isOver se_X11_isOver rfl dX11_count_129 ⟨by decide, by decide⟩ rfl rfl ⟨by decide, by decide⟩ hc_12 (by omega) rfl rfl (Nat.le_of_ble_eq_true rfl) (c_X11_isOver G ex n σ_21 (upd (upd (upd F 7 (nI (0))) 12 (nI (mc'))) 16 (nI (z'))) g va' hc_12 hc_22 hc_17 (by omega) hg9 hCV2) ?_
      rintro _ σ_37 (⟨rfl, hov, he_34⟩ | ⟨rfl, hov, hc_35, hf_36⟩)
      · skip
        rw [he_34]
        refine (?_ : AJ G K Q 0 0 ex n 132 [some (.ref (q_h G + 279)), some (.int (x))] [.int (nI (1))] σ_21)
        refine A_if_eqN (tgt := 139) hg dX11_count_132 (by decide) (by decide) (fun c132 => absurd c132 (by decide)) (fun c132 => ?_)
        refine A_iconst (v := (nI (1))) hg dX11_count_135 (by decide) ?_
        refine A_goto (tgt := 140) hg dX11_count_136 (by decide) ?_
        have hx9 : x = nI 8 := Int32.toInt_inj.mp (by rw [hx10, nI_toInt (by decide)])
        rw [hQ]
        exact A_ireturn hg (by decide) (by decide) rfl dX11_count_140 ⟨rfl, Or.inr ((⟨8, f', nv', ns', mk', va', sp', lo', mc', z', (F 17), (F 18), (F 19), (by show _ = some (Value.int (nI (if s_over g = true then 1 else 0))); rw [hov]; rfl), hx9, (by decide), hTI2, hmc2, hmk2, hlo2, hc_12, hc_13, hc_14, hc_15, hc_16, hc_17, hc_18, hc_19, (fun i hi => ((hf_20 i (by omega)).trans (hf_3 i (by omega))))⟩))⟩
      · skip
        refine (?_ : AJ G K Q 0 0 ex n 132 [some (.ref (q_h G + 279)), some (.int (x))] [.int (nI (0))] σ_37)
        have hc_35 : σ_37 279 = o11 G (upd (upd (upd (upd (upd (upd F 7 (nI (0))) 12 (nI (mc'))) 16 (nI (z'))) 17 (nI (s_p1 g false))) 18 (nI (s_k1 g false (s_p1 g false)))) 19 (nI (s_l1 g false (s_p1 g false)))) := hc_35
        have hc_38 : σ_37 280 = q_an G 265 g := (hf_36 _ (by omega)).trans hc_22
        have hc_39 : σ_37 285 = q_bn G 1681 f' := (hf_36 _ (by omega)).trans hc_13
        have hc_40 : σ_37 286 = q_an G 1681 nv' := (hf_36 _ (by omega)).trans hc_14
        have hc_41 : σ_37 287 = q_an G 1681 ns' := (hf_36 _ (by omega)).trans hc_15
        have hc_42 : σ_37 288 = q_an G 2000 mk' := (hf_36 _ (by omega)).trans hc_16
        have hc_43 : σ_37 289 = q_an G 6724 va' := (hf_36 _ (by omega)).trans hc_17
        have hc_44 : σ_37 290 = q_an G 6724 sp' := (hf_36 _ (by omega)).trans hc_18
        have hc_45 : σ_37 291 = q_an G 80 lo' := (hf_36 _ (by omega)).trans hc_19
        refine A_if_eqN (tgt := 139) hg dX11_count_132 (by decide) (by decide) (fun c132 => ?_) (fun c132 => absurd (by decide) c132)
        refine A_iconst (v := (nI (0))) hg dX11_count_139 (by decide) ?_
        have hx9 : x = nI 8 := Int32.toInt_inj.mp (by rw [hx10, nI_toInt (by decide)])
        rw [hQ]
        exact A_ireturn hg (by decide) (by decide) rfl dX11_count_140 ⟨rfl, Or.inr ((⟨8, f', nv', ns', mk', va', sp', lo', mc', z', (nI (s_p1 g false)), (nI (s_k1 g false (s_p1 g false))), (nI (s_l1 g false (s_p1 g false))), (by show _ = some (Value.int (nI (if s_over g = true then 1 else 0))); rw [hov]; rfl), hx9, (by decide), hTI2, hmc2, hmk2, hlo2, hc_35, hc_39, hc_40, hc_41, hc_42, hc_43, hc_44, hc_45, (fun i hi => ((hf_36 i (by omega)).trans ((hf_20 i (by omega)).trans (hf_3 i (by omega)))))⟩))⟩
    | 9, _, hx10 =>
      refine A_tableIn (tgt := 141) (off := 131) hg dX11_count_10 (by rw [hx10]; decide) (by rw [hx10]; decide) (by rw [hx10]; rfl) (by decide) ?_
      refine A_aload_n hg dX11_count_141 rfl rfl ?_
      refine A_getf (v := .ref (q_h G + 280)) hg fl_RX11_7 dX11_count_142 hc_12 (by omega) rfl ?_
      refine A_iconst (v := (nI (5))) hg dX11_count_145 (by decide) ?_
      refine A_iald (j := 5) hg dX11_count_146 hc_22 (by omega) (by omega) (by decide) ?_
      have hx9 : x = nI 9 := Int32.toInt_inj.mp (by rw [hx10, nI_toInt (by decide)])
      rw [hQ]
      exact A_ireturn hg (by decide) (by decide) rfl dX11_count_147 ⟨rfl, Or.inr ((⟨9, f', nv', ns', mk', va', sp', lo', mc', z', (F 17), (F 18), (F 19), rfl, hx9, (by decide), hTI2, hmc2, hmk2, hlo2, hc_12, hc_13, hc_14, hc_15, hc_16, hc_17, hc_18, hc_19, (fun i hi => ((hf_20 i (by omega)).trans (hf_3 i (by omega))))⟩))⟩
    | 10, _, hx10 =>
      refine A_tableIn (tgt := 148) (off := 138) hg dX11_count_10 (by rw [hx10]; decide) (by rw [hx10]; decide) (by rw [hx10]; rfl) (by decide) ?_
      refine A_aload_n hg dX11_count_148 rfl rfl ?_
      refine A_getf (v := .int (nI (m))) hg fl_RX11_70 dX11_count_149 hc_12 (by omega) (congrArg (fun z => some (Value.int z)) hF5) ?_
      have hx9 : x = nI 10 := Int32.toInt_inj.mp (by rw [hx10, nI_toInt (by decide)])
      rw [hQ]
      exact A_ireturn hg (by decide) (by decide) rfl dX11_count_152 ⟨rfl, Or.inr ((⟨10, f', nv', ns', mk', va', sp', lo', mc', z', (F 17), (F 18), (F 19), rfl, hx9, (by decide), hTI2, hmc2, hmk2, hlo2, hc_12, hc_13, hc_14, hc_15, hc_16, hc_17, hc_18, hc_19, (fun i hi => ((hf_20 i (by omega)).trans (hf_3 i (by omega))))⟩))⟩
    | 11, _, hx10 =>
      refine A_tableIn (tgt := 153) (off := 143) hg dX11_count_10 (by rw [hx10]; decide) (by rw [hx10]; decide) (by rw [hx10]; rfl) (by decide) ?_
      refine A_aload_n hg dX11_count_153 rfl rfl ?_
      refine A_eV (kc2 := 0) (ks2 := 0) (As := []) (rest := []) hg lk_RX11_396 in_X11_units se_X11_units rfl dX11_count_154 ⟨by decide, by decide⟩ rfl rfl ⟨by decide, by decide⟩ hc_12 (by omega) rfl rfl (Nat.le_of_ble_eq_true rfl) (c_X11_units G ex n σ_21 (upd (upd (upd F 7 (nI (0))) 12 (nI (mc'))) 16 (nI (z'))) g hc_12 hc_22 (by omega) hg9) ?_
      have hx9 : x = nI 11 := Int32.toInt_inj.mp (by rw [hx10, nI_toInt (by decide)])
      rw [hQ]
      exact A_ireturn hg (by decide) (by decide) rfl dX11_count_157 ⟨rfl, Or.inr ((⟨11, f', nv', ns', mk', va', sp', lo', mc', z', (F 17), (F 18), (F 19), rfl, hx9, (by decide), hTI2, hmc2, hmk2, hlo2, hc_12, hc_13, hc_14, hc_15, hc_16, hc_17, hc_18, hc_19, (fun i hi => ((hf_20 i (by omega)).trans (hf_3 i (by omega))))⟩))⟩
    | 12, _, hx10 =>
      refine A_tableIn (tgt := 158) (off := 148) hg dX11_count_10 (by rw [hx10]; decide) (by rw [hx10]; decide) (by rw [hx10]; rfl) (by decide) ?_
      refine A_aload_n hg dX11_count_158 rfl rfl ?_
      refine A_getf (v := .ref (q_h G + 280)) hg fl_RX11_7 dX11_count_159 hc_12 (by omega) rfl ?_
      refine A_bipush (v := (nI (6))) hg dX11_count_162 (by decide) ?_
      refine A_iald (j := 6) hg dX11_count_164 hc_22 (by omega) (by omega) (by decide) ?_
      have hx9 : x = nI 12 := Int32.toInt_inj.mp (by rw [hx10, nI_toInt (by decide)])
      rw [hQ]
      exact A_ireturn hg (by decide) (by decide) rfl dX11_count_165 ⟨rfl, Or.inr ((⟨12, f', nv', ns', mk', va', sp', lo', mc', z', (F 17), (F 18), (F 19), rfl, hx9, (by decide), hTI2, hmc2, hmk2, hlo2, hc_12, hc_13, hc_14, hc_15, hc_16, hc_17, hc_18, hc_19, (fun i hi => ((hf_20 i (by omega)).trans (hf_3 i (by omega))))⟩))⟩
    | k + 13, h, _ => exact absurd h (by omega)
end
