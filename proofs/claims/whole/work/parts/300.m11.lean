section
set_option maxRecDepth 100000 in
set_option maxHeartbeats 4000000 in
theorem c_X11_rule (G : GL) (ex : Bool) (n : Nat) (σ : Nat → va_E) (F : Nat → Int32) (g : Nat → Nat) (f : Nat → Nat) (nv : Nat → Nat) (ns : Nat → Nat) (mk : Nat → Nat) (va : Nat → Nat) (sp : Nat → Nat) (lo : Nat → Nat) (mc : Nat) (z : Nat) (r : Int32) (x : Int32) (hc0 : σ 279 = o11 G F) (hc1 : σ 280 = q_an G 265 g) (hc2 : σ 285 = q_bn G 1681 f) (hc3 : σ 286 = q_an G 1681 nv) (hc4 : σ 287 = q_an G 1681 ns) (hc5 : σ 288 = q_an G 2000 mk) (hc6 : σ 289 = q_an G 6724 va) (hc7 : σ 290 = q_an G 6724 sp) (hc8 : σ 291 = q_an G 80 lo) (hn : 294 ≤ n) (hg9 : s_gwf g) (hmc : mc + 6724 < 2 ^ 31) (hF12 : F 12 = nI mc) (hF16 : F 16 = nI z) (hmk : ∀ v : Nat, v < 2000 → mk v ≤ mc) (hTI : s_TI z lo va sp) (hlo : ∀ j : Nat, j < 80 → lo j < 2 ^ 31) : Ct G yX11_rule cX11_rule 3 (some .int) ⟨6, 0, 0, 137⟩ [.ref (q_h G + 279), .int (r), .int (x)] ex n σ (fun v9 σ2 => (v9 = some (.int (nI (0))) ∧ (∀ j : Nat, j < g 0 → r = nI j → False) ∧ σ2 279 = o11 G (upd F 7 (nI (1))) ∧ (∀ i : Nat, i ≠ 279 → σ2 i = σ i)) ∨ (∃ (r1 : Nat), v9 = some (.int (nI (0))) ∧ (r = nI r1) ∧ (r1 < g 0) ∧ (∀ j : Nat, 0 ≤ j → j ≤ 8 → x = nI j → False) ∧ σ2 279 = o11 G (upd F 7 (nI (2))) ∧ (∀ i : Nat, i ≠ 279 → σ2 i = σ i)) ∨ (∃ (r1 : Nat), ∃ (x1 : Nat), ∃ (f' : Nat → Nat), ∃ (nv' : Nat → Nat), ∃ (ns' : Nat → Nat), ∃ (mk' : Nat → Nat), ∃ (va' : Nat → Nat), ∃ (sp' : Nat → Nat), ∃ (lo' : Nat → Nat), ∃ (mc' : Nat), ∃ (z' : Nat), v9 = some (.int (nI (s_ruleA g r1 x1))) ∧ (r = nI r1) ∧ (r1 < g 0) ∧ (x = nI x1) ∧ (x1 ≤ 8) ∧ (s_TI z' lo' va' sp') ∧ (mc' ≤ mc + 6724) ∧ (∀ v : Nat, v < 2000 → mk' v ≤ mc') ∧ (∀ j : Nat, j < 80 → lo' j < 2 ^ 31) ∧ σ2 279 = o11 G (upd (upd (upd F 7 (nI (0))) 12 (nI (mc'))) 16 (nI (z'))) ∧ σ2 285 = q_bn G 1681 f' ∧ σ2 286 = q_an G 1681 nv' ∧ σ2 287 = q_an G 1681 ns' ∧ σ2 288 = q_an G 2000 mk' ∧ σ2 289 = q_an G 6724 va' ∧ σ2 290 = q_an G 6724 sp' ∧ σ2 291 = q_an G 80 lo' ∧ (∀ i : Nat, i ≠ 279 ∧ (i < 285 ∨ 291 < i) → σ2 i = σ i))) := by
  refine q_enter [some (.ref (q_h G + 279)), some (.int (r)), some (.int (x))] (by decide) (Nat.le_of_ble_eq_true rfl) rfl ?_
  intro K hg
  obtain ⟨Q, hQ⟩ : ∃ Q, Q = q_Q G K ex n 0 0 (fun v9 n' σ' => n' = n ∧ (fun v9 σ2 => (v9 = some (.int (nI (0))) ∧ (∀ j : Nat, j < g 0 → r = nI j → False) ∧ σ2 279 = o11 G (upd F 7 (nI (1))) ∧ (∀ i : Nat, i ≠ 279 → σ2 i = σ i)) ∨ (∃ (r1 : Nat), v9 = some (.int (nI (0))) ∧ (r = nI r1) ∧ (r1 < g 0) ∧ (∀ j : Nat, 0 ≤ j → j ≤ 8 → x = nI j → False) ∧ σ2 279 = o11 G (upd F 7 (nI (2))) ∧ (∀ i : Nat, i ≠ 279 → σ2 i = σ i)) ∨ (∃ (r1 : Nat), ∃ (x1 : Nat), ∃ (f' : Nat → Nat), ∃ (nv' : Nat → Nat), ∃ (ns' : Nat → Nat), ∃ (mk' : Nat → Nat), ∃ (va' : Nat → Nat), ∃ (sp' : Nat → Nat), ∃ (lo' : Nat → Nat), ∃ (mc' : Nat), ∃ (z' : Nat), v9 = some (.int (nI (s_ruleA g r1 x1))) ∧ (r = nI r1) ∧ (r1 < g 0) ∧ (x = nI x1) ∧ (x1 ≤ 8) ∧ (s_TI z' lo' va' sp') ∧ (mc' ≤ mc + 6724) ∧ (∀ v : Nat, v < 2000 → mk' v ≤ mc') ∧ (∀ j : Nat, j < 80 → lo' j < 2 ^ 31) ∧ σ2 279 = o11 G (upd (upd (upd F 7 (nI (0))) 12 (nI (mc'))) 16 (nI (z'))) ∧ σ2 285 = q_bn G 1681 f' ∧ σ2 286 = q_an G 1681 nv' ∧ σ2 287 = q_an G 1681 ns' ∧ σ2 288 = q_an G 2000 mk' ∧ σ2 289 = q_an G 6724 va' ∧ σ2 290 = q_an G 6724 sp' ∧ σ2 291 = q_an G 80 lo' ∧ (∀ i : Nat, i ≠ 279 ∧ (i < 285 ∨ 291 < i) → σ2 i = σ i))) v9 σ') q_noX := ⟨_, rfl⟩
  refine (?_ : AJ G K (q_Q G K ex n 0 0 _ _) 0 0 ex n 0 _ _ σ)
  rw [← hQ]
  have hnr : g 0 ≤ 4 := hg9.1
  refine A_aload_n hg dX11_rule_0 rfl rfl ?_
  refine A_iconst (v := (nI (0))) hg dX11_rule_1 (by decide) ?_
  refine A_putf hg fl_RX11_67 dX11_rule_2 hc0 (by omega) (Nat.le_of_ble_eq_true rfl) rfl rfl rfl (fun σ_1 hc_2 hf_3 => ?_)
  have hc_2 : σ_1 279 = o11 G (upd F 7 (nI (0))) := hc_2
  have hc_4 : σ_1 280 = q_an G 265 g := (hf_3 _ (by omega)).trans hc1
  have hc_5 : σ_1 285 = q_bn G 1681 f := (hf_3 _ (by omega)).trans hc2
  have hc_6 : σ_1 286 = q_an G 1681 nv := (hf_3 _ (by omega)).trans hc3
  have hc_7 : σ_1 287 = q_an G 1681 ns := (hf_3 _ (by omega)).trans hc4
  have hc_8 : σ_1 288 = q_an G 2000 mk := (hf_3 _ (by omega)).trans hc5
  have hc_9 : σ_1 289 = q_an G 6724 va := (hf_3 _ (by omega)).trans hc6
  have hc_10 : σ_1 290 = q_an G 6724 sp := (hf_3 _ (by omega)).trans hc7
  have hc_11 : σ_1 291 = q_an G 80 lo := (hf_3 _ (by omega)).trans hc8
  refine A_aload_n hg dX11_rule_5 rfl rfl ?_
  refine A_iload_n hg dX11_rule_6 rfl rfl ?_
  refine A_hV (kc2 := 0) (ks2 := 0) (As := [.int (r)]) (rest := []) hg lk_RX11_402 in_X11_noRule se_X11_noRule rfl dX11_rule_7 ⟨by decide, by decide⟩ rfl rfl ⟨by decide, by decide⟩ hc_2 (by omega) rfl rfl (Nat.le_of_ble_eq_true rfl) (c_X11_noRule G ex n σ_1 (upd F 7 (nI (0))) g r hc_2 hc_4 (by omega) (by omega)) ?_
  rintro _ σ_15 (⟨rfl, hno, hc_12, hf_13⟩ | ⟨r1, rfl, hre, hrl, he_14⟩)
  · skip
    refine (?_ : AJ G K Q 0 0 ex n 10 [some (.ref (q_h G + 279)), some (.int (r)), some (.int (x))] [.int (nI (1))] σ_15)
    have hc_12 : σ_15 279 = o11 G (upd F 7 (nI (1))) := hc_12
    have hc_16 : σ_15 280 = q_an G 265 g := (hf_13 _ (by omega)).trans hc_4
    have hc_17 : σ_15 285 = q_bn G 1681 f := (hf_13 _ (by omega)).trans hc_5
    have hc_18 : σ_15 286 = q_an G 1681 nv := (hf_13 _ (by omega)).trans hc_6
    have hc_19 : σ_15 287 = q_an G 1681 ns := (hf_13 _ (by omega)).trans hc_7
    have hc_20 : σ_15 288 = q_an G 2000 mk := (hf_13 _ (by omega)).trans hc_8
    have hc_21 : σ_15 289 = q_an G 6724 va := (hf_13 _ (by omega)).trans hc_9
    have hc_22 : σ_15 290 = q_an G 6724 sp := (hf_13 _ (by omega)).trans hc_10
    have hc_23 : σ_15 291 = q_an G 80 lo := (hf_13 _ (by omega)).trans hc_11
    refine A_if_neN (tgt := 36) hg dX11_rule_10 (by decide) (by decide) (fun c10 => ?_) (fun c10 => absurd c10 (by decide))
    refine A_iconst (v := (nI (0))) hg dX11_rule_36 (by decide) ?_
    rw [hQ]
    exact A_ireturn hg (by decide) (by decide) rfl dX11_rule_37 ⟨rfl, Or.inl (⟨rfl, (by first | rfl | assumption | omega), hc_12, (fun i hi => ((hf_13 i (by omega)).trans (hf_3 i (by omega))))⟩)⟩
  · skip
    rw [he_14]
    refine (?_ : AJ G K Q 0 0 ex n 10 [some (.ref (q_h G + 279)), some (.int (r)), some (.int (x))] [.int (nI (0))] σ_1)
    refine A_if_neN (tgt := 36) hg dX11_rule_10 (by decide) (by decide) (fun c10 => absurd (by decide) c10) (fun c10 => ?_)
    subst hre
    have hw := hg9.2.2.2.2.2.1 r1 hrl
    have hu0 := hw.1
    have hu9 := hw.2.1
    have hu18 := hw.2.2.1
    have hu19 := hw.2.2.2.1
    have hu20 := hw.2.2.2.2.1
    refine A_aload_n hg dX11_rule_13 rfl rfl ?_
    refine A_iload_n hg dX11_rule_14 rfl rfl ?_
    refine A_iconst (v := (nI (0))) hg dX11_rule_15 (by decide) ?_
    refine A_bipush (v := (nI (8))) hg dX11_rule_16 (by decide) ?_
    refine A_eS (kc2 := 0) (ks2 := 0) (As := [.int (x), .int (nI (0)), .int (nI (8))]) (rest := [.ref (q_h G + 279)]) hg lk_RX11_77 st_X11_inRange dX11_rule_18 ⟨by decide, by decide⟩ rfl rfl ⟨by decide, by decide⟩ rfl rfl (Nat.le_of_ble_eq_true rfl) (c_X11_inRange G ex n σ_1 x (nI (0)) (nI (8))) ?_
    refine A_if_neB (tgt := 28) hg dX11_rule_21 (by decide) (fun c21 => ?_) (fun c21 => ?_)
    · skip
      refine A_iconst (v := (nI (0))) hg dX11_rule_28 (by decide) ?_
      refine A_iconst (v := (nI (2))) hg dX11_rule_29 (by decide) ?_
      refine A_eV (kc2 := 0) (ks2 := 0) (As := [.int (nI (0)), .int (nI (2))]) (rest := []) hg lk_RX11_81 in_X11_fails se_X11_fails rfl dX11_rule_30 ⟨by decide, by decide⟩ rfl rfl ⟨by decide, by decide⟩ hc_2 (by omega) rfl rfl (Nat.le_of_ble_eq_true rfl) (c_X11_fails0 G ex n σ_1 (upd F 7 (nI (0))) (nI (2)) hc_2 (by omega)) ?_
      refine A_if_eqN (tgt := 38) hg dX11_rule_33 (by decide) (by decide) (fun c33 => ?_) (fun c33 => absurd (by decide) c33)
      obtain ⟨x1, hxe, -, hxl⟩ := q_in_nat (by decide) c21 (by decide)
      subst hxe
      refine A_aload_n hg dX11_rule_38 rfl rfl ?_
      refine A_iload_n hg dX11_rule_39 rfl rfl ?_
      refine A_vV (kc2 := 0) (ks2 := 0) (As := [.int (nI (r1))]) (rest := []) hg lk_RX11_143 in_X11_lays se_X11_lays rfl dX11_rule_40 ⟨by decide, by decide⟩ rfl rfl ⟨by decide, by decide⟩ hc_2 (by omega) rfl rfl (Nat.le_of_ble_eq_true rfl) (c_X11_lays G ex n σ_1 (upd F 7 (nI (0))) g r1 f nv ns mk va sp lo mc z hc_2 hc_4 hc_5 hc_6 hc_7 hc_8 hc_9 hc_10 hc_11 (by omega) (by omega) hw (by omega) hF12 hF16 hmk hTI hlo) ?_
      rintro σ_33 ⟨f', nv', ns', mk', va', sp', lo', mc', z', hTI2, hCU2, hkp2, hmc2, hmk2, hlo2, hc_24, hc_25, hc_26, hc_27, hc_28, hc_29, hc_30, hc_31, hf_32⟩
      have hc_24 : σ_33 279 = o11 G (upd (upd (upd F 7 (nI (0))) 12 (nI (mc'))) 16 (nI (z'))) := hc_24
      have hc_34 : σ_33 280 = q_an G 265 g := (hf_32 _ (by omega)).trans hc_4
      refine A_iload_n hg dX11_rule_43 rfl rfl ?_
      by_cases hd44 : (nI (x1)).toInt < 0 ∨ 7 < (nI (x1)).toInt
      · skip
        refine A_tableOut (tgt := 160) hg dX11_rule_44 hd44 (by decide) ?_
        refine A_aload_n hg dX11_rule_160 rfl rfl ?_
        refine A_aload_n hg dX11_rule_161 rfl rfl ?_
        refine A_getf (v := .ref (q_h G + 290)) hg fl_RX11_41 dX11_rule_162 hc_24 (by omega) rfl ?_
        refine A_iload_n hg dX11_rule_165 rfl rfl ?_
        refine A_eV (kc2 := 0) (ks2 := 0) (As := [.ref (q_h G + 290), .int (nI (r1))]) (rest := []) hg lk_RX11_408 in_X11_greatestIn se_X11_greatestIn rfl dX11_rule_166 ⟨by decide, by decide⟩ rfl rfl ⟨by decide, by decide⟩ hc_24 (by omega) rfl rfl (Nat.le_of_ble_eq_true rfl) (c_X11_greatestIn G ex n σ_33 (upd (upd (upd F 7 (nI (0))) 12 (nI (mc'))) 16 (nI (z'))) 290 sp' r1 hc_24 hc_30 (by omega) (by omega) (by omega) (fun q hq => by have h1 := (hCU2 q hq).2; have h2 := s_S_le (s_rule g r1) q; omega)) ?_
        have hx9 : x1 = 8 := (q_swD (m := 8) hxl rfl (by decide) rfl hd44)
        subst hx9
        rw [hQ]
        exact A_ireturn hg (by decide) (by decide) rfl dX11_rule_169 ⟨rfl, Or.inr (Or.inr ((⟨r1, 8, f', nv', ns', mk', va', sp', lo', mc', z', (by show some (Value.int (nI _)) = some (Value.int (nI (s_mx (s_S (s_rule g r1)) 1681))); rw [s_mx_congr (f := fun q => sp' (1681 * r1 + q)) (h := s_S (s_rule g r1)) (fun q hq => (hCU2 q hq).2)]), (by first | rfl | assumption | omega), (by first | rfl | assumption | omega), (by first | rfl | assumption | omega), (by first | rfl | assumption | omega), hTI2, (by omega), hmk2, hlo2, hc_24, hc_25, hc_26, hc_27, hc_28, hc_29, hc_30, hc_31, (fun i hi => ((hf_32 i (by omega)).trans (hf_3 i (by omega))))⟩)))⟩
      · skip
        obtain ⟨k44, hk44, hx44⟩ := q_sw 0 7 hd44
        match k44, hk44, hx44 with
        | 0, _, hx44 =>
          refine A_tableIn (tgt := 92) (off := 48) hg dX11_rule_44 (by rw [hx44]; decide) (by rw [hx44]; decide) (by rw [hx44]; rfl) (by decide) ?_
          refine A_aload_n hg dX11_rule_92 rfl rfl ?_
          refine A_iload_n hg dX11_rule_93 rfl rfl ?_
          refine A_bipush (v := (nI (18))) hg dX11_rule_94 (by decide) ?_
          refine A_eV (kc2 := 0) (ks2 := 0) (As := [.int (nI (r1)), .int (nI (18))]) (rest := []) hg lk_RX11_85 in_X11_of se_X11_of rfl dX11_rule_96 ⟨by decide, by decide⟩ rfl rfl ⟨by decide, by decide⟩ hc_24 (by omega) rfl rfl (Nat.le_of_ble_eq_true rfl) (c_X11_of G ex n σ_33 (upd (upd (upd F 7 (nI (0))) 12 (nI (mc'))) 16 (nI (z'))) g r1 18 hc_24 hc_34 (by omega) (by omega)) ?_
          have hx9 : x1 = 0 := (q_swN (by omega) hx44)
          subst hx9
          rw [hQ]
          exact A_ireturn hg (by decide) (by decide) rfl dX11_rule_99 ⟨rfl, Or.inr (Or.inr ((⟨r1, 0, f', nv', ns', mk', va', sp', lo', mc', z', rfl, (by first | rfl | assumption | omega), (by first | rfl | assumption | omega), (by first | rfl | assumption | omega), (by first | rfl | assumption | omega), hTI2, (by omega), hmk2, hlo2, hc_24, hc_25, hc_26, hc_27, hc_28, hc_29, hc_30, hc_31, (fun i hi => ((hf_32 i (by omega)).trans (hf_3 i (by omega))))⟩)))⟩
        | 1, _, hx44 =>
          refine A_tableIn (tgt := 100) (off := 56) hg dX11_rule_44 (by rw [hx44]; decide) (by rw [hx44]; decide) (by rw [hx44]; rfl) (by decide) ?_
          refine A_aload_n hg dX11_rule_100 rfl rfl ?_
          refine A_iload_n hg dX11_rule_101 rfl rfl ?_
          refine A_bipush (v := (nI (19))) hg dX11_rule_102 (by decide) ?_
          refine A_eV (kc2 := 0) (ks2 := 0) (As := [.int (nI (r1)), .int (nI (19))]) (rest := []) hg lk_RX11_85 in_X11_of se_X11_of rfl dX11_rule_104 ⟨by decide, by decide⟩ rfl rfl ⟨by decide, by decide⟩ hc_24 (by omega) rfl rfl (Nat.le_of_ble_eq_true rfl) (c_X11_of G ex n σ_33 (upd (upd (upd F 7 (nI (0))) 12 (nI (mc'))) 16 (nI (z'))) g r1 19 hc_24 hc_34 (by omega) (by omega)) ?_
          have hx9 : x1 = 1 := (q_swN (by omega) hx44)
          subst hx9
          rw [hQ]
          exact A_ireturn hg (by decide) (by decide) rfl dX11_rule_107 ⟨rfl, Or.inr (Or.inr ((⟨r1, 1, f', nv', ns', mk', va', sp', lo', mc', z', rfl, (by first | rfl | assumption | omega), (by first | rfl | assumption | omega), (by first | rfl | assumption | omega), (by first | rfl | assumption | omega), hTI2, (by omega), hmk2, hlo2, hc_24, hc_25, hc_26, hc_27, hc_28, hc_29, hc_30, hc_31, (fun i hi => ((hf_32 i (by omega)).trans (hf_3 i (by omega))))⟩)))⟩
        | 2, _, hx44 =>
          refine A_tableIn (tgt := 108) (off := 64) hg dX11_rule_44 (by rw [hx44]; decide) (by rw [hx44]; decide) (by rw [hx44]; rfl) (by decide) ?_
          refine A_aload_n hg dX11_rule_108 rfl rfl ?_
          refine A_iload_n hg dX11_rule_109 rfl rfl ?_
          refine A_bipush (v := (nI (9))) hg dX11_rule_110 (by decide) ?_
          refine A_eV (kc2 := 0) (ks2 := 0) (As := [.int (nI (r1)), .int (nI (9))]) (rest := []) hg lk_RX11_85 in_X11_of se_X11_of rfl dX11_rule_112 ⟨by decide, by decide⟩ rfl rfl ⟨by decide, by decide⟩ hc_24 (by omega) rfl rfl (Nat.le_of_ble_eq_true rfl) (c_X11_of G ex n σ_33 (upd (upd (upd F 7 (nI (0))) 12 (nI (mc'))) 16 (nI (z'))) g r1 9 hc_24 hc_34 (by omega) (by omega)) ?_
          have hx9 : x1 = 2 := (q_swN (by omega) hx44)
          subst hx9
          rw [hQ]
          exact A_ireturn hg (by decide) (by decide) rfl dX11_rule_115 ⟨rfl, Or.inr (Or.inr ((⟨r1, 2, f', nv', ns', mk', va', sp', lo', mc', z', rfl, (by first | rfl | assumption | omega), (by first | rfl | assumption | omega), (by first | rfl | assumption | omega), (by first | rfl | assumption | omega), hTI2, (by omega), hmk2, hlo2, hc_24, hc_25, hc_26, hc_27, hc_28, hc_29, hc_30, hc_31, (fun i hi => ((hf_32 i (by omega)).trans (hf_3 i (by omega))))⟩)))⟩
        | 3, _, hx44 =>
          refine A_tableIn (tgt := 116) (off := 72) hg dX11_rule_44 (by rw [hx44]; decide) (by rw [hx44]; decide) (by rw [hx44]; rfl) (by decide) ?_
          refine A_aload_n hg dX11_rule_116 rfl rfl ?_
          refine A_iload_n hg dX11_rule_117 rfl rfl ?_
          refine A_bipush (v := (nI (20))) hg dX11_rule_118 (by decide) ?_
          refine A_eV (kc2 := 0) (ks2 := 0) (As := [.int (nI (r1)), .int (nI (20))]) (rest := []) hg lk_RX11_85 in_X11_of se_X11_of rfl dX11_rule_120 ⟨by decide, by decide⟩ rfl rfl ⟨by decide, by decide⟩ hc_24 (by omega) rfl rfl (Nat.le_of_ble_eq_true rfl) (c_X11_of G ex n σ_33 (upd (upd (upd F 7 (nI (0))) 12 (nI (mc'))) 16 (nI (z'))) g r1 20 hc_24 hc_34 (by omega) (by omega)) ?_
          have hx9 : x1 = 3 := (q_swN (by omega) hx44)
          subst hx9
          rw [hQ]
          exact A_ireturn hg (by decide) (by decide) rfl dX11_rule_123 ⟨rfl, Or.inr (Or.inr ((⟨r1, 3, f', nv', ns', mk', va', sp', lo', mc', z', rfl, (by first | rfl | assumption | omega), (by first | rfl | assumption | omega), (by first | rfl | assumption | omega), (by first | rfl | assumption | omega), hTI2, (by omega), hmk2, hlo2, hc_24, hc_25, hc_26, hc_27, hc_28, hc_29, hc_30, hc_31, (fun i hi => ((hf_32 i (by omega)).trans (hf_3 i (by omega))))⟩)))⟩
        | 4, _, hx44 =>
          refine A_tableIn (tgt := 124) (off := 80) hg dX11_rule_44 (by rw [hx44]; decide) (by rw [hx44]; decide) (by rw [hx44]; rfl) (by decide) ?_
          refine A_aload_n hg dX11_rule_124 rfl rfl ?_
          refine A_iload_n hg dX11_rule_125 rfl rfl ?_
          refine A_eV (kc2 := 0) (ks2 := 0) (As := [.int (nI (r1))]) (rest := []) hg lk_RX11_405 in_X11_isFree se_X11_isFree rfl dX11_rule_126 ⟨by decide, by decide⟩ rfl rfl ⟨by decide, by decide⟩ hc_24 (by omega) rfl rfl (Nat.le_of_ble_eq_true rfl) (c_X11_isFree G ex n σ_33 (upd (upd (upd F 7 (nI (0))) 12 (nI (mc'))) 16 (nI (z'))) g r1 hc_24 hc_34 (by omega) (by omega) (by omega)) ?_
          refine A_if_eqB (tgt := 136) hg dX11_rule_129 (by decide) (fun c129 => ?_) (fun c129 => ?_)
          · skip
            refine A_iconst (v := (nI (0))) hg dX11_rule_136 (by decide) ?_
            have hx9 : x1 = 4 := (q_swN (by omega) hx44)
            subst hx9
            rw [hQ]
            exact A_ireturn hg (by decide) (by decide) rfl dX11_rule_137 ⟨rfl, Or.inr (Or.inr ((⟨r1, 4, f', nv', ns', mk', va', sp', lo', mc', z', (by show _ = some (Value.int (nI (if s_free (s_rule g r1) = true then 1 else 0))); rw [c129]; rfl), (by first | rfl | assumption | omega), (by first | rfl | assumption | omega), (by first | rfl | assumption | omega), (by first | rfl | assumption | omega), hTI2, (by omega), hmk2, hlo2, hc_24, hc_25, hc_26, hc_27, hc_28, hc_29, hc_30, hc_31, (fun i hi => ((hf_32 i (by omega)).trans (hf_3 i (by omega))))⟩)))⟩
          · skip
            refine A_iconst (v := (nI (1))) hg dX11_rule_132 (by decide) ?_
            refine A_goto (tgt := 137) hg dX11_rule_133 (by decide) ?_
            have hx9 : x1 = 4 := (q_swN (by omega) hx44)
            subst hx9
            rw [hQ]
            exact A_ireturn hg (by decide) (by decide) rfl dX11_rule_137 ⟨rfl, Or.inr (Or.inr ((⟨r1, 4, f', nv', ns', mk', va', sp', lo', mc', z', (by show _ = some (Value.int (nI (if s_free (s_rule g r1) = true then 1 else 0))); rw [c129]; rfl), (by first | rfl | assumption | omega), (by first | rfl | assumption | omega), (by first | rfl | assumption | omega), (by first | rfl | assumption | omega), hTI2, (by omega), hmk2, hlo2, hc_24, hc_25, hc_26, hc_27, hc_28, hc_29, hc_30, hc_31, (fun i hi => ((hf_32 i (by omega)).trans (hf_3 i (by omega))))⟩)))⟩
        | 5, _, hx44 =>
          refine A_tableIn (tgt := 138) (off := 94) hg dX11_rule_44 (by rw [hx44]; decide) (by rw [hx44]; decide) (by rw [hx44]; rfl) (by decide) ?_
          refine A_aload_n hg dX11_rule_138 rfl rfl ?_
          refine A_aload_n hg dX11_rule_139 rfl rfl ?_
          refine A_getf (v := .ref (q_h G + 289)) hg fl_RX11_38 dX11_rule_140 hc_24 (by omega) rfl ?_
          refine A_iload_n hg dX11_rule_143 rfl rfl ?_
          refine A_eV (kc2 := 0) (ks2 := 0) (As := [.ref (q_h G + 289), .int (nI (r1))]) (rest := []) hg lk_RX11_408 in_X11_greatestIn se_X11_greatestIn rfl dX11_rule_144 ⟨by decide, by decide⟩ rfl rfl ⟨by decide, by decide⟩ hc_24 (by omega) rfl rfl (Nat.le_of_ble_eq_true rfl) (c_X11_greatestIn G ex n σ_33 (upd (upd (upd F 7 (nI (0))) 12 (nI (mc'))) 16 (nI (z'))) 289 va' r1 hc_24 hc_29 (by omega) (by omega) (by omega) (fun q hq => by have h1 := (hCU2 q hq).1; have h2 := s_V_le (s_rule g r1) hq; omega)) ?_
          have hx9 : x1 = 5 := (q_swN (by omega) hx44)
          subst hx9
          rw [hQ]
          exact A_ireturn hg (by decide) (by decide) rfl dX11_rule_147 ⟨rfl, Or.inr (Or.inr ((⟨r1, 5, f', nv', ns', mk', va', sp', lo', mc', z', (by show some (Value.int (nI _)) = some (Value.int (nI (s_mx (s_V (s_rule g r1)) 1681))); rw [s_mx_congr (f := fun q => va' (1681 * r1 + q)) (h := s_V (s_rule g r1)) (fun q hq => (hCU2 q hq).1)]), (by first | rfl | assumption | omega), (by first | rfl | assumption | omega), (by first | rfl | assumption | omega), (by first | rfl | assumption | omega), hTI2, (by omega), hmk2, hlo2, hc_24, hc_25, hc_26, hc_27, hc_28, hc_29, hc_30, hc_31, (fun i hi => ((hf_32 i (by omega)).trans (hf_3 i (by omega))))⟩)))⟩
        | 6, _, hx44 =>
          refine A_tableIn (tgt := 148) (off := 104) hg dX11_rule_44 (by rw [hx44]; decide) (by rw [hx44]; decide) (by rw [hx44]; rfl) (by decide) ?_
          refine A_aload_n hg dX11_rule_148 rfl rfl ?_
          refine A_iload_n hg dX11_rule_149 rfl rfl ?_
          refine A_eV (kc2 := 0) (ks2 := 0) (As := [.int (nI (r1))]) (rest := []) hg lk_RX11_412 in_X11_losingOf se_X11_losingOf rfl dX11_rule_150 ⟨by decide, by decide⟩ rfl rfl ⟨by decide, by decide⟩ hc_24 (by omega) rfl rfl (Nat.le_of_ble_eq_true rfl) (c_X11_losingOf G ex n σ_33 (upd (upd (upd F 7 (nI (0))) 12 (nI (mc'))) 16 (nI (z'))) va' r1 hc_24 hc_29 (by omega) (by omega) (fun q hq => by have h1 := (hCU2 q hq).1; have h2 := s_V_le (s_rule g r1) hq; omega)) ?_
          have hx9 : x1 = 6 := (q_swN (by omega) hx44)
          subst hx9
          rw [hQ]
          exact A_ireturn hg (by decide) (by decide) rfl dX11_rule_153 ⟨rfl, Or.inr (Or.inr ((⟨r1, 6, f', nv', ns', mk', va', sp', lo', mc', z', (by show some (Value.int (nI _)) = some (Value.int (nI (s_cnt (fun p => s_V (s_rule g r1) p == 0) 1681))); rw [s_cnt_congr (P := fun q => va' (1681 * r1 + q) == 0) (Q := fun p => s_V (s_rule g r1) p == 0) (fun q hq => by show (va' (1681 * r1 + q) == 0) = _; rw [(hCU2 q hq).1])]), (by first | rfl | assumption | omega), (by first | rfl | assumption | omega), (by first | rfl | assumption | omega), (by first | rfl | assumption | omega), hTI2, (by omega), hmk2, hlo2, hc_24, hc_25, hc_26, hc_27, hc_28, hc_29, hc_30, hc_31, (fun i hi => ((hf_32 i (by omega)).trans (hf_3 i (by omega))))⟩)))⟩
        | 7, _, hx44 =>
          refine A_tableIn (tgt := 154) (off := 110) hg dX11_rule_44 (by rw [hx44]; decide) (by rw [hx44]; decide) (by rw [hx44]; rfl) (by decide) ?_
          refine A_aload_n hg dX11_rule_154 rfl rfl ?_
          refine A_iload_n hg dX11_rule_155 rfl rfl ?_
          refine A_eV (kc2 := 0) (ks2 := 0) (As := [.int (nI (r1))]) (rest := []) hg lk_RX11_415 in_X11_boardsOf se_X11_boardsOf rfl dX11_rule_156 ⟨by decide, by decide⟩ rfl rfl ⟨by decide, by decide⟩ hc_24 (by omega) rfl rfl (Nat.le_of_ble_eq_true rfl) (c_X11_boardsOf G ex n σ_33 (upd (upd (upd F 7 (nI (0))) 12 (nI (mc'))) 16 (nI (z'))) g r1 hc_24 hc_34 (by omega) (by omega) hg9) ?_
          have hx9 : x1 = 7 := (q_swN (by omega) hx44)
          subst hx9
          rw [hQ]
          exact A_ireturn hg (by decide) (by decide) rfl dX11_rule_159 ⟨rfl, Or.inr (Or.inr ((⟨r1, 7, f', nv', ns', mk', va', sp', lo', mc', z', rfl, (by first | rfl | assumption | omega), (by first | rfl | assumption | omega), (by first | rfl | assumption | omega), (by first | rfl | assumption | omega), hTI2, (by omega), hmk2, hlo2, hc_24, hc_25, hc_26, hc_27, hc_28, hc_29, hc_30, hc_31, (fun i hi => ((hf_32 i (by omega)).trans (hf_3 i (by omega))))⟩)))⟩
        | k + 8, h, _ => exact absurd h (by omega)
    · skip
      refine A_iconst (v := (nI (1))) hg dX11_rule_24 (by decide) ?_
      refine A_goto (tgt := 29) hg dX11_rule_25 (by decide) ?_
      refine A_iconst (v := (nI (2))) hg dX11_rule_29 (by decide) ?_
      refine A_hV (kc2 := 0) (ks2 := 0) (As := [.int (nI (1)), .int (nI (2))]) (rest := []) hg lk_RX11_81 in_X11_fails se_X11_fails rfl dX11_rule_30 ⟨by decide, by decide⟩ rfl rfl ⟨by decide, by decide⟩ hc_2 (by omega) rfl rfl (Nat.le_of_ble_eq_true rfl) (c_X11_fails1 G ex n σ_1 (upd F 7 (nI (0))) 2 hc_2 (by omega)) ?_
      rintro _ σ_37 ⟨rfl, hc_35, hf_36⟩
      refine (?_ : AJ G K Q 0 0 ex n 33 [some (.ref (q_h G + 279)), some (.int (nI (r1))), some (.int (x))] [.int (nI (1))] σ_37)
      have hc_35 : σ_37 279 = o11 G (upd F 7 (nI (2))) := hc_35
      have hc_38 : σ_37 280 = q_an G 265 g := (hf_36 _ (by omega)).trans hc_4
      have hc_39 : σ_37 285 = q_bn G 1681 f := (hf_36 _ (by omega)).trans hc_5
      have hc_40 : σ_37 286 = q_an G 1681 nv := (hf_36 _ (by omega)).trans hc_6
      have hc_41 : σ_37 287 = q_an G 1681 ns := (hf_36 _ (by omega)).trans hc_7
      have hc_42 : σ_37 288 = q_an G 2000 mk := (hf_36 _ (by omega)).trans hc_8
      have hc_43 : σ_37 289 = q_an G 6724 va := (hf_36 _ (by omega)).trans hc_9
      have hc_44 : σ_37 290 = q_an G 6724 sp := (hf_36 _ (by omega)).trans hc_10
      have hc_45 : σ_37 291 = q_an G 80 lo := (hf_36 _ (by omega)).trans hc_11
      refine A_if_eqN (tgt := 38) hg dX11_rule_33 (by decide) (by decide) (fun c33 => absurd c33 (by decide)) (fun c33 => ?_)
      refine A_iconst (v := (nI (0))) hg dX11_rule_36 (by decide) ?_
      rw [hQ]
      exact A_ireturn hg (by decide) (by decide) rfl dX11_rule_37 ⟨rfl, Or.inr (Or.inl (⟨r1, rfl, (by first | rfl | assumption | omega), (by first | rfl | assumption | omega), (q_range_f (by decide) c21), hc_35, (fun i hi => ((hf_36 i (by omega)).trans (hf_3 i (by omega))))⟩))⟩
end
