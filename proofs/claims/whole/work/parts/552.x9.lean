section
set_option maxRecDepth 100000 in
set_option maxHeartbeats 4000000 in
theorem c_X8_fit (G : GL) (ex : Bool) (n : Nat) (σ : Nat → va_E) (tb : Nat) (fl : Nat) (n0 : Nat) (gv : Nat) (gs : Nat) (lm : Nat) (vs : Nat) (rb : Nat) (u : Nat → Nat) (nm : Nat) (on : Nat) (bm : Nat → Nat) (nmT : Nat) (onT : Nat) (slT : Nat) (moT : Nat) (nbT : Nat) (bmT : Nat → Nat) (skf : Nat → Nat) (slf : Nat → Nat) (va : Nat → Nat) (sp : Nat → Nat) (rf : Nat → Nat) (hc0 : σ tb = o8 G (tb) (nI (fl)) (nI (n0)) (nI (gv)) (nI (gs)) (nI (lm)) (nI (vs))) (hc1 : σ (tb + 3) = q_an G 1681 skf) (hc2 : σ (tb + 4) = q_an G 1681 slf) (hc3 : σ (tb + 5) = q_an G 1681 va) (hc4 : σ (tb + 6) = q_an G 1681 sp) (hc5 : σ (tb + 7) = q_an G 1681 rf) (hc6 : σ (tb + 1) = o7 G (tb + 1) (lN (nmT)) (lN (onT)) (nI (slT)) (nI (moT)) (nI (nbT))) (hc7 : σ (tb + 2) = q_an G 5 bmT) (hc8 : σ rb = o7 G (rb) (lN (nm)) (lN (on)) (nI (u 18)) (nI (u 19)) (nI (u 20))) (hc9 : σ (rb + 1) = q_an G 5 bm) (htb : tb + 7 < n) (hrb : rb + 1 < n) (hap : rb + 1 < tb ∨ tb + 7 < rb) (hw : x_w u) (hon : x_on u on) (hbm : x_bm u bm) (hfl : fl ≤ 1) (hsb : ∀ j : Nat, j < 1681 → sp j < 1681) (hfit : fl = 1 → ∃ u : Nat → Nat, x_w u ∧ x_tz u onT slT moT nbT bmT n0 skf slf va sp gv gs lm vs) : Ct G yX8_fit cX8_fit 4 none ⟨3, 0, 0, 74⟩ [.ref (q_h G + tb), .ref (q_h G + rb)] ex n σ (fun v9 σ2 => v9 = none ∧ ∃ (nm3 : Nat), ∃ (on3 : Nat), ∃ (sl3 : Nat), ∃ (mo3 : Nat), ∃ (nb3 : Nat), ∃ (bm3 : Nat → Nat), ∃ (n3 : Nat), ∃ (kf : Nat → Nat), ∃ (lf : Nat → Nat), ∃ (va3 : Nat → Nat), ∃ (sp3 : Nat → Nat), ∃ (rf3 : Nat → Nat), ∃ (gv3 : Nat), ∃ (gs3 : Nat), ∃ (lm3 : Nat), ∃ (vs3 : Nat), (x_tz u on3 sl3 mo3 nb3 bm3 n3 kf lf va3 sp3 gv3 gs3 lm3 vs3) ∧ (∀ j : Nat, j < 1681 → sp3 j < 1681) ∧ σ2 tb = o8 G (tb) (nI (1)) (nI (n3)) (nI (gv3)) (nI (gs3)) (nI (lm3)) (nI (vs3)) ∧ σ2 (tb + 3) = q_an G 1681 kf ∧ σ2 (tb + 4) = q_an G 1681 lf ∧ σ2 (tb + 5) = q_an G 1681 va3 ∧ σ2 (tb + 6) = q_an G 1681 sp3 ∧ σ2 (tb + 7) = q_an G 1681 rf3 ∧ σ2 (tb + 1) = o7 G (tb + 1) (lN (nm3)) (lN (on3)) (nI (sl3)) (nI (mo3)) (nI (nb3)) ∧ σ2 (tb + 2) = q_an G 5 bm3 ∧ (∀ i : Nat, i < tb ∨ tb + 7 < i → σ2 i = σ i)) := by
  refine q_enter [some (.ref (q_h G + tb)), some (.ref (q_h G + rb)), none, none] (by decide) (Nat.le_of_ble_eq_true rfl) rfl ?_
  intro K hg
  obtain ⟨Q, hQ⟩ : ∃ Q, Q = q_Q G K ex n 0 0 (fun v9 n' σ' => n' = n ∧ (fun v9 σ2 => v9 = none ∧ ∃ (nm3 : Nat), ∃ (on3 : Nat), ∃ (sl3 : Nat), ∃ (mo3 : Nat), ∃ (nb3 : Nat), ∃ (bm3 : Nat → Nat), ∃ (n3 : Nat), ∃ (kf : Nat → Nat), ∃ (lf : Nat → Nat), ∃ (va3 : Nat → Nat), ∃ (sp3 : Nat → Nat), ∃ (rf3 : Nat → Nat), ∃ (gv3 : Nat), ∃ (gs3 : Nat), ∃ (lm3 : Nat), ∃ (vs3 : Nat), (x_tz u on3 sl3 mo3 nb3 bm3 n3 kf lf va3 sp3 gv3 gs3 lm3 vs3) ∧ (∀ j : Nat, j < 1681 → sp3 j < 1681) ∧ σ2 tb = o8 G (tb) (nI (1)) (nI (n3)) (nI (gv3)) (nI (gs3)) (nI (lm3)) (nI (vs3)) ∧ σ2 (tb + 3) = q_an G 1681 kf ∧ σ2 (tb + 4) = q_an G 1681 lf ∧ σ2 (tb + 5) = q_an G 1681 va3 ∧ σ2 (tb + 6) = q_an G 1681 sp3 ∧ σ2 (tb + 7) = q_an G 1681 rf3 ∧ σ2 (tb + 1) = o7 G (tb + 1) (lN (nm3)) (lN (on3)) (nI (sl3)) (nI (mo3)) (nI (nb3)) ∧ σ2 (tb + 2) = q_an G 5 bm3 ∧ (∀ i : Nat, i < tb ∨ tb + 7 < i → σ2 i = σ i)) v9 σ') q_noX := ⟨_, rfl⟩
  refine (?_ : AJ G K (q_Q G K ex n 0 0 _ _) 0 0 ex n 0 _ _ σ)
  rw [← hQ]
  have hA0 := s_A0 u
  have hon1 := hon.1
  refine A_aload_n hg dX8_fit_0 rfl rfl ?_
  refine A_getf (v := .int (nI (fl))) hg fl_RX8_18 dX8_fit_1 hc0 (by omega) rfl ?_
  refine A_if_eqN (tgt := 19) hg dX8_fit_4 (by omega) (by decide) (fun c4 => ?_) (fun c4 => ?_)
  · skip
    refine A_aload_n hg dX8_fit_19 rfl rfl ?_
    refine A_iconst (v := (nI (1))) hg dX8_fit_20 (by decide) ?_
    refine A_putf hg fl_RX8_18 dX8_fit_21 hc0 (by omega) (Nat.le_of_ble_eq_true rfl) rfl rfl rfl (fun σ_1 hc_2 hf_3 => ?_)
    have hc_2 : σ_1 tb = o8 G (tb) (nI (1)) (nI (n0)) (nI (gv)) (nI (gs)) (nI (lm)) (nI (vs)) := hc_2
    have hc_4 : σ_1 (tb + 3) = q_an G 1681 skf := (hf_3 _ (by omega)).trans hc1
    have hc_5 : σ_1 (tb + 4) = q_an G 1681 slf := (hf_3 _ (by omega)).trans hc2
    have hc_6 : σ_1 (tb + 5) = q_an G 1681 va := (hf_3 _ (by omega)).trans hc3
    have hc_7 : σ_1 (tb + 6) = q_an G 1681 sp := (hf_3 _ (by omega)).trans hc4
    have hc_8 : σ_1 (tb + 7) = q_an G 1681 rf := (hf_3 _ (by omega)).trans hc5
    have hc_9 : σ_1 (tb + 1) = o7 G (tb + 1) (lN (nmT)) (lN (onT)) (nI (slT)) (nI (moT)) (nI (nbT)) := (hf_3 _ (by omega)).trans hc6
    have hc_10 : σ_1 (tb + 2) = q_an G 5 bmT := (hf_3 _ (by omega)).trans hc7
    have hc_11 : σ_1 rb = o7 G (rb) (lN (nm)) (lN (on)) (nI (u 18)) (nI (u 19)) (nI (u 20)) := (hf_3 _ (by omega)).trans hc8
    have hc_12 : σ_1 (rb + 1) = q_an G 5 bm := (hf_3 _ (by omega)).trans hc9
    refine A_aload_n hg dX8_fit_24 rfl rfl ?_
    refine A_aload_n hg dX8_fit_25 rfl rfl ?_
    refine A_vV (kc2 := 0) (ks2 := 0) (As := [.ref (q_h G + rb)]) (rest := []) hg lk_RX8_58 in_X8_gatherSteps se_X8_gatherSteps rfl dX8_fit_26 ⟨by decide, by decide⟩ rfl rfl ⟨by decide, by decide⟩ hc_2 (by omega) rfl rfl (Nat.le_of_ble_eq_true rfl) (c_X8_gatherSteps G ex n σ_1 tb 1 n0 gv gs lm vs rb u nm on bm nmT onT slT moT nbT bmT skf slf hc_2 hc_4 hc_5 hc_9 hc_10 hc_11 hc_12 (by omega) (by omega) (by omega) hw hon hbm) ?_
    rintro σ_21 ⟨kf_13, lf_14, hsq, hc_15, hc_16, hc_17, hc_18, hc_19, hf_20⟩
    have hc_22 : σ_21 (tb + 5) = q_an G 1681 va := (hf_20 _ (by omega)).trans hc_6
    have hc_23 : σ_21 (tb + 6) = q_an G 1681 sp := (hf_20 _ (by omega)).trans hc_7
    have hc_24 : σ_21 (tb + 7) = q_an G 1681 rf := (hf_20 _ (by omega)).trans hc_8
    have hc_25 : σ_21 rb = o7 G (rb) (lN (nm)) (lN (on)) (nI (u 18)) (nI (u 19)) (nI (u 20)) := (hf_20 _ (by omega)).trans hc_11
    have hc_26 : σ_21 (rb + 1) = q_an G 5 bm := (hf_20 _ (by omega)).trans hc_12
    refine A_aload_n hg dX8_fit_29 rfl rfl ?_
    refine A_getf (v := .ref (q_h G + (tb + 7))) hg fl_RX8_39 dX8_fit_30 hc_15 (by omega) rfl ?_
    refine A_iconst (v := (nI (0))) hg dX8_fit_33 (by decide) ?_
    refine A_vS (kc2 := 0) (ks2 := 0) (As := [.ref (q_h G + (tb + 7)), .int (nI (0))]) (rest := []) hg lk_RX8_62 st_J7_fill_53178 dX8_fit_34 ⟨by decide, by decide⟩ rfl rfl ⟨by decide, by decide⟩ rfl rfl (Nat.le_of_ble_eq_true rfl) (c_J7_fill_53178 G ex n σ_21 (tb + 7) 1681 rf 0 hc_24 (by omega) (by omega)) ?_
    rintro σ_29 ⟨hc_27, hf_28⟩
    have hc_30 : σ_29 (tb + 5) = q_an G 1681 va := (hf_28 _ (by omega)).trans hc_22
    have hc_31 : σ_29 (tb + 6) = q_an G 1681 sp := (hf_28 _ (by omega)).trans hc_23
    have hc_32 : σ_29 rb = o7 G (rb) (lN (nm)) (lN (on)) (nI (u 18)) (nI (u 19)) (nI (u 20)) := (hf_28 _ (by omega)).trans hc_25
    have hc_33 : σ_29 (rb + 1) = q_an G 5 bm := (hf_28 _ (by omega)).trans hc_26
    have hc_34 : σ_29 tb = o8 G (tb) (nI (1)) (nI (s_cnt (s_A u) 1681)) (nI (gv)) (nI (gs)) (nI (lm)) (nI (vs)) := (hf_28 _ (by omega)).trans hc_15
    have hc_35 : σ_29 (tb + 3) = q_an G 1681 kf_13 := (hf_28 _ (by omega)).trans hc_16
    have hc_36 : σ_29 (tb + 4) = q_an G 1681 lf_14 := (hf_28 _ (by omega)).trans hc_17
    have hc_37 : σ_29 (tb + 1) = o7 G (tb + 1) (lN (nm)) (lN (on)) (nI (u 18)) (nI (u 19)) (nI (u 20)) := (hf_28 _ (by omega)).trans hc_18
    have hc_38 : σ_29 (tb + 2) = q_an G 5 bm := (hf_28 _ (by omega)).trans hc_19
    refine A_iconst (v := (nI (0))) hg dX8_fit_37 (by decide) ?_
    refine A_istore_n hg dX8_fit_38 rfl (by decide) (q_c1d rfl) ?_
    refine A_eq (ls2 := [some (.ref (q_h G + tb)), some (.ref (q_h G + rb)), some (.int (nI (0))), none]) (st2 := []) (pc2 := 0) rfl rfl ?_
    have hL39 : ∀ (fu : Nat) (x : Nat) (va1 : Nat → Nat) (sp1 : Nat → Nat) (rf1 : Nat → Nat) (σ_39 : Nat → va_E), (σ_39 (tb + 5) = q_an G 1681 va1) → (σ_39 (tb + 6) = q_an G 1681 sp1) → (σ_39 rb = o7 G (rb) (lN (nm)) (lN (on)) (nI (u 18)) (nI (u 19)) (nI (u 20))) → (σ_39 (rb + 1) = q_an G 5 bm) → (σ_39 tb = o8 G (tb) (nI (1)) (nI (s_cnt (s_A u) 1681)) (nI (gv)) (nI (gs)) (nI (lm)) (nI (vs))) → (σ_39 (tb + 3) = q_an G 1681 kf_13) → (σ_39 (tb + 4) = q_an G 1681 lf_14) → (σ_39 (tb + 1) = o7 G (tb + 1) (lN (nm)) (lN (on)) (nI (u 18)) (nI (u 19)) (nI (u 20))) → (σ_39 (tb + 2) = q_an G 5 bm) → (σ_39 (tb + 7) = q_an G 1681 rf1) → (∀ i : Nat, i < tb ∨ tb + 7 < i → σ_39 i = σ i) → (x ≤ 41) → (∀ j : Nat, j < 41 * x → va1 j = s_val (s_A u) j ∧ sp1 j = s_spn (s_A u) j) → (∀ j : Nat, j < 1681 → sp1 j < 1681) → (∀ v : Nat, v < 1681 → rf1 v ≤ x * 41) → (41 - x) < fu → AJ G K Q 0 0 ex n 39 [some (.ref (q_h G + tb)), some (.ref (q_h G + rb)), some (.int (nI (x))), none] [] σ_39 := by
      intro fu
      induction fu with
      | zero => intro x va1 sp1 rf1 σ_39 hc_40 hc_41 hc_42 hc_43 hc_44 hc_45 hc_46 hc_47 hc_48 hc_49 hf_50 hx hv hsb1 hrf1 hm; exact absurd hm (Nat.not_lt_zero _)
      | succ fu ih39 =>
        intro x va1 sp1 rf1 σ_39 hc_40 hc_41 hc_42 hc_43 hc_44 hc_45 hc_46 hc_47 hc_48 hc_49 hf_50 hx hv hsb1 hrf1 hm39
        refine A_iload_n hg dX8_fit_39 rfl rfl ?_
        refine A_bipush (v := (nI (41))) hg dX8_fit_40 (by decide) ?_
        refine A_icmp_geN (tgt := 71) hg dX8_fit_42 (by omega) (by decide) (by decide) (fun c42 => ?_) (fun c42 => ?_)
        · skip
          have e1681 : 41 * x = 1681 := by omega
          rw [e1681] at hv
          have hvb : ∀ j : Nat, j < 1681 → va1 j ≤ 1681 := fun j hj => by have a := (hv j hj).1; have b := s_val_le hA0 j hj; omega
          have hsb2 : ∀ j : Nat, j < 1681 → sp1 j ≤ 1681 := fun j hj => by have a := hsb1 j hj; omega
          refine A_aload_n hg dX8_fit_71 rfl rfl ?_
          refine A_vV (kc2 := 0) (ks2 := 0) (As := []) (rest := []) hg lk_RX8_72 in_X8_tally se_X8_tally rfl dX8_fit_72 ⟨by decide, by decide⟩ rfl rfl ⟨by decide, by decide⟩ hc_44 (by omega) rfl rfl (Nat.le_of_ble_eq_true rfl) (c_X8_tally G ex n σ_39 tb 1 (s_cnt (s_A u) 1681) gv gs lm vs va1 sp1 hc_44 hc_40 hc_41 (by omega) (by omega) (by omega)) ?_
          rintro σ_53 ⟨hc_51, hf_52⟩
          have hc_54 : σ_53 (tb + 5) = q_an G 1681 va1 := (hf_52 _ (by omega)).trans hc_40
          have hc_55 : σ_53 (tb + 6) = q_an G 1681 sp1 := (hf_52 _ (by omega)).trans hc_41
          have hc_56 : σ_53 rb = o7 G (rb) (lN (nm)) (lN (on)) (nI (u 18)) (nI (u 19)) (nI (u 20)) := (hf_52 _ (by omega)).trans hc_42
          have hc_57 : σ_53 (rb + 1) = q_an G 5 bm := (hf_52 _ (by omega)).trans hc_43
          have hc_58 : σ_53 (tb + 3) = q_an G 1681 kf_13 := (hf_52 _ (by omega)).trans hc_45
          have hc_59 : σ_53 (tb + 4) = q_an G 1681 lf_14 := (hf_52 _ (by omega)).trans hc_46
          have hc_60 : σ_53 (tb + 1) = o7 G (tb + 1) (lN (nm)) (lN (on)) (nI (u 18)) (nI (u 19)) (nI (u 20)) := (hf_52 _ (by omega)).trans hc_47
          have hc_61 : σ_53 (tb + 2) = q_an G 5 bm := (hf_52 _ (by omega)).trans hc_48
          have hc_62 : σ_53 (tb + 7) = q_an G 1681 rf1 := (hf_52 _ (by omega)).trans hc_49
          have htc := x_tc_mk hsq hv
          rw [hQ]
          exact A_return hg (by decide) (by decide) rfl dX8_fit_75 ⟨rfl, ⟨rfl, nm, on, u 18, u 19, u 20, bm, _, _, _, va1, sp1, rf1, _, _, _, _, ⟨hon, rfl, rfl, rfl, hbm, htc⟩, hsb1, hc_51, hc_58, hc_59, hc_54, hc_55, hc_62, hc_60, hc_61, (fun i hi => ((hf_52 i (by omega)).trans (hf_50 i (by omega))))⟩⟩
        · skip
          refine A_iconst (v := (nI (0))) hg dX8_fit_45 (by decide) ?_
          refine A_istore_n hg dX8_fit_46 rfl (by decide) (q_c1d rfl) ?_
          refine A_eq (ls2 := [some (.ref (q_h G + tb)), some (.ref (q_h G + rb)), some (.int (nI (x))), some (.int (nI (0)))]) (st2 := []) (pc2 := 0) rfl rfl ?_
          have hL47 : ∀ (fu : Nat) (y : Nat) (va1 : Nat → Nat) (sp1 : Nat → Nat) (rf1 : Nat → Nat) (σ_63 : Nat → va_E), (σ_63 (tb + 5) = q_an G 1681 va1) → (σ_63 (tb + 6) = q_an G 1681 sp1) → (σ_63 rb = o7 G (rb) (lN (nm)) (lN (on)) (nI (u 18)) (nI (u 19)) (nI (u 20))) → (σ_63 (rb + 1) = q_an G 5 bm) → (σ_63 tb = o8 G (tb) (nI (1)) (nI (s_cnt (s_A u) 1681)) (nI (gv)) (nI (gs)) (nI (lm)) (nI (vs))) → (σ_63 (tb + 3) = q_an G 1681 kf_13) → (σ_63 (tb + 4) = q_an G 1681 lf_14) → (σ_63 (tb + 1) = o7 G (tb + 1) (lN (nm)) (lN (on)) (nI (u 18)) (nI (u 19)) (nI (u 20))) → (σ_63 (tb + 2) = q_an G 5 bm) → (σ_63 (tb + 7) = q_an G 1681 rf1) → (∀ i : Nat, i < tb ∨ tb + 7 < i → σ_63 i = σ i) → (y ≤ 41) → (∀ j : Nat, j < x * 41 + y → va1 j = s_val (s_A u) j ∧ sp1 j = s_spn (s_A u) j) → (∀ j : Nat, j < 1681 → sp1 j < 1681) → (∀ v : Nat, v < 1681 → rf1 v ≤ x * 41 + y) → (41 - y) < fu → AJ G K Q 0 0 ex n 47 [some (.ref (q_h G + tb)), some (.ref (q_h G + rb)), some (.int (nI (x))), some (.int (nI (y)))] [] σ_63 := by
            intro fu
            induction fu with
            | zero => intro y va1 sp1 rf1 σ_63 hc_64 hc_65 hc_66 hc_67 hc_68 hc_69 hc_70 hc_71 hc_72 hc_73 hf_74 hy hv hsb1 hrf1 hm; exact absurd hm (Nat.not_lt_zero _)
            | succ fu ih47 =>
              intro y va1 sp1 rf1 σ_63 hc_64 hc_65 hc_66 hc_67 hc_68 hc_69 hc_70 hc_71 hc_72 hc_73 hf_74 hy hv hsb1 hrf1 hm47
              refine A_iload_n hg dX8_fit_47 rfl rfl ?_
              refine A_bipush (v := (nI (41))) hg dX8_fit_48 (by decide) ?_
              refine A_icmp_geN (tgt := 65) hg dX8_fit_50 (by omega) (by decide) (by decide) (fun c50 => ?_) (fun c50 => ?_)
              · skip
                refine A_iincN (k' := 1) hg dX8_fit_65 (by decide) rfl (by decide) (q_c1d rfl) ?_
                refine A_eq (ls2 := [some (.ref (q_h G + tb)), some (.ref (q_h G + rb)), some (.int (nI (x + 1))), some (.int (nI (y)))]) (st2 := []) (pc2 := 0) rfl rfl ?_
                refine A_goto (tgt := 39) hg dX8_fit_68 (by decide) ?_
                refine A_drop 3 ?_
                exact ih39 (x + 1) va1 sp1 rf1 σ_63 hc_64 hc_65 hc_66 hc_67 hc_68 hc_69 hc_70 hc_71 hc_72 hc_73 (fun i hi => (hf_74 i (by omega))) (by omega) (fun j hj => hv j (by omega)) hsb1 (fun v hv => by have a := hrf1 v hv; omega) (by omega)
              · skip
                refine A_aload_n hg dX8_fit_53 rfl rfl ?_
                refine A_iload_n hg dX8_fit_54 rfl rfl ?_
                refine A_iload_n hg dX8_fit_55 rfl rfl ?_
                refine A_vV (kc2 := 0) (ks2 := 0) (As := [.int (nI (x)), .int (nI (y))]) (rest := []) hg lk_RX8_68 in_X8_settle se_X8_settle rfl dX8_fit_56 ⟨by decide, by decide⟩ rfl rfl ⟨by decide, by decide⟩ hc_68 (by omega) rfl rfl (Nat.le_of_ble_eq_true rfl) (c_X8_settle G ex n σ_63 tb 1 (s_cnt (s_A u) 1681) gv gs lm vs (s_A u) kf_13 lf_14 va1 sp1 rf1 x y hc_68 hc_69 hc_70 hc_64 hc_65 hc_73 (by omega) hA0 rfl hsq (by omega) (by omega) (by omega) hsb1 hrf1) ?_
                rintro σ_80 ⟨rf2_75, hrf9, hc_76, hc_77, hc_78, hf_79⟩
                have hc_81 : σ_80 rb = o7 G (rb) (lN (nm)) (lN (on)) (nI (u 18)) (nI (u 19)) (nI (u 20)) := (hf_79 _ (by omega)).trans hc_66
                have hc_82 : σ_80 (rb + 1) = q_an G 5 bm := (hf_79 _ (by omega)).trans hc_67
                have hc_83 : σ_80 tb = o8 G (tb) (nI (1)) (nI (s_cnt (s_A u) 1681)) (nI (gv)) (nI (gs)) (nI (lm)) (nI (vs)) := (hf_79 _ (by omega)).trans hc_68
                have hc_84 : σ_80 (tb + 3) = q_an G 1681 kf_13 := (hf_79 _ (by omega)).trans hc_69
                have hc_85 : σ_80 (tb + 4) = q_an G 1681 lf_14 := (hf_79 _ (by omega)).trans hc_70
                have hc_86 : σ_80 (tb + 1) = o7 G (tb + 1) (lN (nm)) (lN (on)) (nI (u 18)) (nI (u 19)) (nI (u 20)) := (hf_79 _ (by omega)).trans hc_71
                have hc_87 : σ_80 (tb + 2) = q_an G 5 bm := (hf_79 _ (by omega)).trans hc_72
                refine A_iincN (k' := 1) hg dX8_fit_59 (by decide) rfl (by decide) (q_c1d rfl) ?_
                refine A_eq (ls2 := [some (.ref (q_h G + tb)), some (.ref (q_h G + rb)), some (.int (nI (x))), some (.int (nI (y + 1)))]) (st2 := []) (pc2 := 0) rfl rfl ?_
                refine A_goto (tgt := 47) hg dX8_fit_62 (by decide) ?_
                exact ih47 (y + 1) (va_up va1 (x * 41 + y) (s_val (s_A u) (x * 41 + y))) (va_up sp1 (x * 41 + y) (s_spn (s_A u) (x * 41 + y))) rf2_75 σ_80 hc_76 hc_77 hc_81 hc_82 hc_83 hc_84 hc_85 hc_86 hc_87 hc_78 (fun i hi => ((hf_79 i (by omega)).trans (hf_74 i (by omega)))) (by omega) (x_fill2 hv) (va_up_ltb hsb1 (by have a := s_spn_le hA0 (x * 41 + y); omega)) hrf9 (by omega)
          exact hL47 _ 0 va1 sp1 rf1 σ_39 hc_40 hc_41 hc_42 hc_43 hc_44 hc_45 hc_46 hc_47 hc_48 hc_49 (fun i hi => (hf_50 i (by omega))) (Nat.zero_le _) (fun j hj => hv j (by omega)) hsb1 hrf1 (Nat.lt_succ_self _)
    exact hL39 _ 0 va sp (fun _ => 0) σ_29 hc_30 hc_31 hc_32 hc_33 hc_34 hc_35 hc_36 hc_37 hc_38 hc_27 (fun i hi => ((hf_28 i (by omega)).trans ((hf_20 i (by omega)).trans (hf_3 i (by omega))))) (Nat.zero_le _) (fun j h => absurd h (Nat.not_lt_zero j)) hsb (fun v _ => Nat.zero_le _) (Nat.lt_succ_self _)
  · skip
    obtain ⟨u0, hw0, htf0⟩ := hfit (by omega)
    have hq2 := hw.2.1
    have hq3 := hw.2.2.1
    have hq4 := hw.2.2.2.1
    obtain ⟨q1, q2, q3, q4⟩ := x_tf_b hw0 htf0
    refine A_aload_n hg dX8_fit_7 rfl rfl ?_
    refine A_getf (v := .ref (q_h G + (tb + 1))) hg fl_RX8_12 dX8_fit_8 hc0 (by omega) rfl ?_
    refine A_aload_n hg dX8_fit_11 rfl rfl ?_
    refine A_eV (kc2 := 0) (ks2 := 0) (As := [.ref (q_h G + rb)]) (rest := []) hg lk_RX8_54 in_X7_hasMovesOf se_X7_hasMovesOf rfl dX8_fit_12 ⟨by decide, by decide⟩ rfl rfl ⟨by decide, by decide⟩ hc6 (by omega) rfl rfl (Nat.le_of_ble_eq_true rfl) (c_X7_hasMovesOf G ex n σ (tb + 1) nmT onT slT moT nbT bmT rb nm on (u 18) (u 19) (u 20) bm hc6 hc7 hc8 hc9 (by omega) (by omega) (by omega) htf0.1.1 hon.1 q4 (by omega) (fun i hi => x_bm_lt hw0 htf0 i hi) (fun i hi => x_bm_lt2 hw hbm i hi)) ?_
    refine A_if_eqB (tgt := 19) hg dX8_fit_15 (by decide) (fun c15 => ?_) (fun c15 => ?_)
    · skip
      refine A_aload_n hg dX8_fit_19 rfl rfl ?_
      refine A_iconst (v := (nI (1))) hg dX8_fit_20 (by decide) ?_
      refine A_putf hg fl_RX8_18 dX8_fit_21 hc0 (by omega) (Nat.le_of_ble_eq_true rfl) rfl rfl rfl (fun σ_88 hc_89 hf_90 => ?_)
      have hc_89 : σ_88 tb = o8 G (tb) (nI (1)) (nI (n0)) (nI (gv)) (nI (gs)) (nI (lm)) (nI (vs)) := hc_89
      have hc_91 : σ_88 (tb + 3) = q_an G 1681 skf := (hf_90 _ (by omega)).trans hc1
      have hc_92 : σ_88 (tb + 4) = q_an G 1681 slf := (hf_90 _ (by omega)).trans hc2
      have hc_93 : σ_88 (tb + 5) = q_an G 1681 va := (hf_90 _ (by omega)).trans hc3
      have hc_94 : σ_88 (tb + 6) = q_an G 1681 sp := (hf_90 _ (by omega)).trans hc4
      have hc_95 : σ_88 (tb + 7) = q_an G 1681 rf := (hf_90 _ (by omega)).trans hc5
      have hc_96 : σ_88 (tb + 1) = o7 G (tb + 1) (lN (nmT)) (lN (onT)) (nI (slT)) (nI (moT)) (nI (nbT)) := (hf_90 _ (by omega)).trans hc6
      have hc_97 : σ_88 (tb + 2) = q_an G 5 bmT := (hf_90 _ (by omega)).trans hc7
      have hc_98 : σ_88 rb = o7 G (rb) (lN (nm)) (lN (on)) (nI (u 18)) (nI (u 19)) (nI (u 20)) := (hf_90 _ (by omega)).trans hc8
      have hc_99 : σ_88 (rb + 1) = q_an G 5 bm := (hf_90 _ (by omega)).trans hc9
      refine A_aload_n hg dX8_fit_24 rfl rfl ?_
      refine A_aload_n hg dX8_fit_25 rfl rfl ?_
      refine A_vV (kc2 := 0) (ks2 := 0) (As := [.ref (q_h G + rb)]) (rest := []) hg lk_RX8_58 in_X8_gatherSteps se_X8_gatherSteps rfl dX8_fit_26 ⟨by decide, by decide⟩ rfl rfl ⟨by decide, by decide⟩ hc_89 (by omega) rfl rfl (Nat.le_of_ble_eq_true rfl) (c_X8_gatherSteps G ex n σ_88 tb 1 n0 gv gs lm vs rb u nm on bm nmT onT slT moT nbT bmT skf slf hc_89 hc_91 hc_92 hc_96 hc_97 hc_98 hc_99 (by omega) (by omega) (by omega) hw hon hbm) ?_
      rintro σ_108 ⟨kf_100, lf_101, hsq, hc_102, hc_103, hc_104, hc_105, hc_106, hf_107⟩
      have hc_109 : σ_108 (tb + 5) = q_an G 1681 va := (hf_107 _ (by omega)).trans hc_93
      have hc_110 : σ_108 (tb + 6) = q_an G 1681 sp := (hf_107 _ (by omega)).trans hc_94
      have hc_111 : σ_108 (tb + 7) = q_an G 1681 rf := (hf_107 _ (by omega)).trans hc_95
      have hc_112 : σ_108 rb = o7 G (rb) (lN (nm)) (lN (on)) (nI (u 18)) (nI (u 19)) (nI (u 20)) := (hf_107 _ (by omega)).trans hc_98
      have hc_113 : σ_108 (rb + 1) = q_an G 5 bm := (hf_107 _ (by omega)).trans hc_99
      refine A_aload_n hg dX8_fit_29 rfl rfl ?_
      refine A_getf (v := .ref (q_h G + (tb + 7))) hg fl_RX8_39 dX8_fit_30 hc_102 (by omega) rfl ?_
      refine A_iconst (v := (nI (0))) hg dX8_fit_33 (by decide) ?_
      refine A_vS (kc2 := 0) (ks2 := 0) (As := [.ref (q_h G + (tb + 7)), .int (nI (0))]) (rest := []) hg lk_RX8_62 st_J7_fill_53178 dX8_fit_34 ⟨by decide, by decide⟩ rfl rfl ⟨by decide, by decide⟩ rfl rfl (Nat.le_of_ble_eq_true rfl) (c_J7_fill_53178 G ex n σ_108 (tb + 7) 1681 rf 0 hc_111 (by omega) (by omega)) ?_
      rintro σ_116 ⟨hc_114, hf_115⟩
      have hc_117 : σ_116 (tb + 5) = q_an G 1681 va := (hf_115 _ (by omega)).trans hc_109
      have hc_118 : σ_116 (tb + 6) = q_an G 1681 sp := (hf_115 _ (by omega)).trans hc_110
      have hc_119 : σ_116 rb = o7 G (rb) (lN (nm)) (lN (on)) (nI (u 18)) (nI (u 19)) (nI (u 20)) := (hf_115 _ (by omega)).trans hc_112
      have hc_120 : σ_116 (rb + 1) = q_an G 5 bm := (hf_115 _ (by omega)).trans hc_113
      have hc_121 : σ_116 tb = o8 G (tb) (nI (1)) (nI (s_cnt (s_A u) 1681)) (nI (gv)) (nI (gs)) (nI (lm)) (nI (vs)) := (hf_115 _ (by omega)).trans hc_102
      have hc_122 : σ_116 (tb + 3) = q_an G 1681 kf_100 := (hf_115 _ (by omega)).trans hc_103
      have hc_123 : σ_116 (tb + 4) = q_an G 1681 lf_101 := (hf_115 _ (by omega)).trans hc_104
      have hc_124 : σ_116 (tb + 1) = o7 G (tb + 1) (lN (nm)) (lN (on)) (nI (u 18)) (nI (u 19)) (nI (u 20)) := (hf_115 _ (by omega)).trans hc_105
      have hc_125 : σ_116 (tb + 2) = q_an G 5 bm := (hf_115 _ (by omega)).trans hc_106
      refine A_iconst (v := (nI (0))) hg dX8_fit_37 (by decide) ?_
      refine A_istore_n hg dX8_fit_38 rfl (by decide) (q_c1d rfl) ?_
      refine A_eq (ls2 := [some (.ref (q_h G + tb)), some (.ref (q_h G + rb)), some (.int (nI (0))), none]) (st2 := []) (pc2 := 0) rfl rfl ?_
      have hL39 : ∀ (fu : Nat) (x : Nat) (va1 : Nat → Nat) (sp1 : Nat → Nat) (rf1 : Nat → Nat) (σ_126 : Nat → va_E), (σ_126 (tb + 5) = q_an G 1681 va1) → (σ_126 (tb + 6) = q_an G 1681 sp1) → (σ_126 rb = o7 G (rb) (lN (nm)) (lN (on)) (nI (u 18)) (nI (u 19)) (nI (u 20))) → (σ_126 (rb + 1) = q_an G 5 bm) → (σ_126 tb = o8 G (tb) (nI (1)) (nI (s_cnt (s_A u) 1681)) (nI (gv)) (nI (gs)) (nI (lm)) (nI (vs))) → (σ_126 (tb + 3) = q_an G 1681 kf_100) → (σ_126 (tb + 4) = q_an G 1681 lf_101) → (σ_126 (tb + 1) = o7 G (tb + 1) (lN (nm)) (lN (on)) (nI (u 18)) (nI (u 19)) (nI (u 20))) → (σ_126 (tb + 2) = q_an G 5 bm) → (σ_126 (tb + 7) = q_an G 1681 rf1) → (∀ i : Nat, i < tb ∨ tb + 7 < i → σ_126 i = σ i) → (x ≤ 41) → (∀ j : Nat, j < 41 * x → va1 j = s_val (s_A u) j ∧ sp1 j = s_spn (s_A u) j) → (∀ j : Nat, j < 1681 → sp1 j < 1681) → (∀ v : Nat, v < 1681 → rf1 v ≤ x * 41) → (41 - x) < fu → AJ G K Q 0 0 ex n 39 [some (.ref (q_h G + tb)), some (.ref (q_h G + rb)), some (.int (nI (x))), none] [] σ_126 := by
        intro fu
        induction fu with
        | zero => intro x va1 sp1 rf1 σ_126 hc_127 hc_128 hc_129 hc_130 hc_131 hc_132 hc_133 hc_134 hc_135 hc_136 hf_137 hx hv hsb1 hrf1 hm; exact absurd hm (Nat.not_lt_zero _)
        | succ fu ih39 =>
          intro x va1 sp1 rf1 σ_126 hc_127 hc_128 hc_129 hc_130 hc_131 hc_132 hc_133 hc_134 hc_135 hc_136 hf_137 hx hv hsb1 hrf1 hm39
          refine A_iload_n hg dX8_fit_39 rfl rfl ?_
          refine A_bipush (v := (nI (41))) hg dX8_fit_40 (by decide) ?_
          refine A_icmp_geN (tgt := 71) hg dX8_fit_42 (by omega) (by decide) (by decide) (fun c42 => ?_) (fun c42 => ?_)
          · skip
            have e1681 : 41 * x = 1681 := by omega
            rw [e1681] at hv
            have hvb : ∀ j : Nat, j < 1681 → va1 j ≤ 1681 := fun j hj => by have a := (hv j hj).1; have b := s_val_le hA0 j hj; omega
            have hsb2 : ∀ j : Nat, j < 1681 → sp1 j ≤ 1681 := fun j hj => by have a := hsb1 j hj; omega
            refine A_aload_n hg dX8_fit_71 rfl rfl ?_
            refine A_vV (kc2 := 0) (ks2 := 0) (As := []) (rest := []) hg lk_RX8_72 in_X8_tally se_X8_tally rfl dX8_fit_72 ⟨by decide, by decide⟩ rfl rfl ⟨by decide, by decide⟩ hc_131 (by omega) rfl rfl (Nat.le_of_ble_eq_true rfl) (c_X8_tally G ex n σ_126 tb 1 (s_cnt (s_A u) 1681) gv gs lm vs va1 sp1 hc_131 hc_127 hc_128 (by omega) (by omega) (by omega)) ?_
            rintro σ_140 ⟨hc_138, hf_139⟩
            have hc_141 : σ_140 (tb + 5) = q_an G 1681 va1 := (hf_139 _ (by omega)).trans hc_127
            have hc_142 : σ_140 (tb + 6) = q_an G 1681 sp1 := (hf_139 _ (by omega)).trans hc_128
            have hc_143 : σ_140 rb = o7 G (rb) (lN (nm)) (lN (on)) (nI (u 18)) (nI (u 19)) (nI (u 20)) := (hf_139 _ (by omega)).trans hc_129
            have hc_144 : σ_140 (rb + 1) = q_an G 5 bm := (hf_139 _ (by omega)).trans hc_130
            have hc_145 : σ_140 (tb + 3) = q_an G 1681 kf_100 := (hf_139 _ (by omega)).trans hc_132
            have hc_146 : σ_140 (tb + 4) = q_an G 1681 lf_101 := (hf_139 _ (by omega)).trans hc_133
            have hc_147 : σ_140 (tb + 1) = o7 G (tb + 1) (lN (nm)) (lN (on)) (nI (u 18)) (nI (u 19)) (nI (u 20)) := (hf_139 _ (by omega)).trans hc_134
            have hc_148 : σ_140 (tb + 2) = q_an G 5 bm := (hf_139 _ (by omega)).trans hc_135
            have hc_149 : σ_140 (tb + 7) = q_an G 1681 rf1 := (hf_139 _ (by omega)).trans hc_136
            have htc := x_tc_mk hsq hv
            rw [hQ]
            exact A_return hg (by decide) (by decide) rfl dX8_fit_75 ⟨rfl, ⟨rfl, nm, on, u 18, u 19, u 20, bm, _, _, _, va1, sp1, rf1, _, _, _, _, ⟨hon, rfl, rfl, rfl, hbm, htc⟩, hsb1, hc_138, hc_145, hc_146, hc_141, hc_142, hc_149, hc_147, hc_148, (fun i hi => ((hf_139 i (by omega)).trans (hf_137 i (by omega))))⟩⟩
          · skip
            refine A_iconst (v := (nI (0))) hg dX8_fit_45 (by decide) ?_
            refine A_istore_n hg dX8_fit_46 rfl (by decide) (q_c1d rfl) ?_
            refine A_eq (ls2 := [some (.ref (q_h G + tb)), some (.ref (q_h G + rb)), some (.int (nI (x))), some (.int (nI (0)))]) (st2 := []) (pc2 := 0) rfl rfl ?_
            have hL47 : ∀ (fu : Nat) (y : Nat) (va1 : Nat → Nat) (sp1 : Nat → Nat) (rf1 : Nat → Nat) (σ_150 : Nat → va_E), (σ_150 (tb + 5) = q_an G 1681 va1) → (σ_150 (tb + 6) = q_an G 1681 sp1) → (σ_150 rb = o7 G (rb) (lN (nm)) (lN (on)) (nI (u 18)) (nI (u 19)) (nI (u 20))) → (σ_150 (rb + 1) = q_an G 5 bm) → (σ_150 tb = o8 G (tb) (nI (1)) (nI (s_cnt (s_A u) 1681)) (nI (gv)) (nI (gs)) (nI (lm)) (nI (vs))) → (σ_150 (tb + 3) = q_an G 1681 kf_100) → (σ_150 (tb + 4) = q_an G 1681 lf_101) → (σ_150 (tb + 1) = o7 G (tb + 1) (lN (nm)) (lN (on)) (nI (u 18)) (nI (u 19)) (nI (u 20))) → (σ_150 (tb + 2) = q_an G 5 bm) → (σ_150 (tb + 7) = q_an G 1681 rf1) → (∀ i : Nat, i < tb ∨ tb + 7 < i → σ_150 i = σ i) → (y ≤ 41) → (∀ j : Nat, j < x * 41 + y → va1 j = s_val (s_A u) j ∧ sp1 j = s_spn (s_A u) j) → (∀ j : Nat, j < 1681 → sp1 j < 1681) → (∀ v : Nat, v < 1681 → rf1 v ≤ x * 41 + y) → (41 - y) < fu → AJ G K Q 0 0 ex n 47 [some (.ref (q_h G + tb)), some (.ref (q_h G + rb)), some (.int (nI (x))), some (.int (nI (y)))] [] σ_150 := by
              intro fu
              induction fu with
              | zero => intro y va1 sp1 rf1 σ_150 hc_151 hc_152 hc_153 hc_154 hc_155 hc_156 hc_157 hc_158 hc_159 hc_160 hf_161 hy hv hsb1 hrf1 hm; exact absurd hm (Nat.not_lt_zero _)
              | succ fu ih47 =>
                intro y va1 sp1 rf1 σ_150 hc_151 hc_152 hc_153 hc_154 hc_155 hc_156 hc_157 hc_158 hc_159 hc_160 hf_161 hy hv hsb1 hrf1 hm47
                refine A_iload_n hg dX8_fit_47 rfl rfl ?_
                refine A_bipush (v := (nI (41))) hg dX8_fit_48 (by decide) ?_
                refine A_icmp_geN (tgt := 65) hg dX8_fit_50 (by omega) (by decide) (by decide) (fun c50 => ?_) (fun c50 => ?_)
                · skip
                  refine A_iincN (k' := 1) hg dX8_fit_65 (by decide) rfl (by decide) (q_c1d rfl) ?_
                  refine A_eq (ls2 := [some (.ref (q_h G + tb)), some (.ref (q_h G + rb)), some (.int (nI (x + 1))), some (.int (nI (y)))]) (st2 := []) (pc2 := 0) rfl rfl ?_
                  refine A_goto (tgt := 39) hg dX8_fit_68 (by decide) ?_
                  refine A_drop 3 ?_
                  exact ih39 (x + 1) va1 sp1 rf1 σ_150 hc_151 hc_152 hc_153 hc_154 hc_155 hc_156 hc_157 hc_158 hc_159 hc_160 (fun i hi => (hf_161 i (by omega))) (by omega) (fun j hj => hv j (by omega)) hsb1 (fun v hv => by have a := hrf1 v hv; omega) (by omega)
                · skip
                  refine A_aload_n hg dX8_fit_53 rfl rfl ?_
                  refine A_iload_n hg dX8_fit_54 rfl rfl ?_
                  refine A_iload_n hg dX8_fit_55 rfl rfl ?_
                  refine A_vV (kc2 := 0) (ks2 := 0) (As := [.int (nI (x)), .int (nI (y))]) (rest := []) hg lk_RX8_68 in_X8_settle se_X8_settle rfl dX8_fit_56 ⟨by decide, by decide⟩ rfl rfl ⟨by decide, by decide⟩ hc_155 (by omega) rfl rfl (Nat.le_of_ble_eq_true rfl) (c_X8_settle G ex n σ_150 tb 1 (s_cnt (s_A u) 1681) gv gs lm vs (s_A u) kf_100 lf_101 va1 sp1 rf1 x y hc_155 hc_156 hc_157 hc_151 hc_152 hc_160 (by omega) hA0 rfl hsq (by omega) (by omega) (by omega) hsb1 hrf1) ?_
                  rintro σ_167 ⟨rf2_162, hrf9, hc_163, hc_164, hc_165, hf_166⟩
                  have hc_168 : σ_167 rb = o7 G (rb) (lN (nm)) (lN (on)) (nI (u 18)) (nI (u 19)) (nI (u 20)) := (hf_166 _ (by omega)).trans hc_153
                  have hc_169 : σ_167 (rb + 1) = q_an G 5 bm := (hf_166 _ (by omega)).trans hc_154
                  have hc_170 : σ_167 tb = o8 G (tb) (nI (1)) (nI (s_cnt (s_A u) 1681)) (nI (gv)) (nI (gs)) (nI (lm)) (nI (vs)) := (hf_166 _ (by omega)).trans hc_155
                  have hc_171 : σ_167 (tb + 3) = q_an G 1681 kf_100 := (hf_166 _ (by omega)).trans hc_156
                  have hc_172 : σ_167 (tb + 4) = q_an G 1681 lf_101 := (hf_166 _ (by omega)).trans hc_157
                  have hc_173 : σ_167 (tb + 1) = o7 G (tb + 1) (lN (nm)) (lN (on)) (nI (u 18)) (nI (u 19)) (nI (u 20)) := (hf_166 _ (by omega)).trans hc_158
                  have hc_174 : σ_167 (tb + 2) = q_an G 5 bm := (hf_166 _ (by omega)).trans hc_159
                  refine A_iincN (k' := 1) hg dX8_fit_59 (by decide) rfl (by decide) (q_c1d rfl) ?_
                  refine A_eq (ls2 := [some (.ref (q_h G + tb)), some (.ref (q_h G + rb)), some (.int (nI (x))), some (.int (nI (y + 1)))]) (st2 := []) (pc2 := 0) rfl rfl ?_
                  refine A_goto (tgt := 47) hg dX8_fit_62 (by decide) ?_
                  exact ih47 (y + 1) (va_up va1 (x * 41 + y) (s_val (s_A u) (x * 41 + y))) (va_up sp1 (x * 41 + y) (s_spn (s_A u) (x * 41 + y))) rf2_162 σ_167 hc_163 hc_164 hc_168 hc_169 hc_170 hc_171 hc_172 hc_173 hc_174 hc_165 (fun i hi => ((hf_166 i (by omega)).trans (hf_161 i (by omega)))) (by omega) (x_fill2 hv) (va_up_ltb hsb1 (by have a := s_spn_le hA0 (x * 41 + y); omega)) hrf9 (by omega)
            exact hL47 _ 0 va1 sp1 rf1 σ_126 hc_127 hc_128 hc_129 hc_130 hc_131 hc_132 hc_133 hc_134 hc_135 hc_136 (fun i hi => (hf_137 i (by omega))) (Nat.zero_le _) (fun j hj => hv j (by omega)) hsb1 hrf1 (Nat.lt_succ_self _)
      exact hL39 _ 0 va sp (fun _ => 0) σ_116 hc_117 hc_118 hc_119 hc_120 hc_121 hc_122 hc_123 hc_124 hc_125 hc_114 (fun i hi => ((hf_115 i (by omega)).trans ((hf_107 i (by omega)).trans (hf_90 i (by omega))))) (Nat.zero_le _) (fun j h => absurd h (Nat.not_lt_zero j)) hsb (fun v _ => Nat.zero_le _) (Nat.lt_succ_self _)
    · skip
      have hc_175 : σ tb = o8 G (tb) (nI (1)) (nI (n0)) (nI (gv)) (nI (gs)) (nI (lm)) (nI (vs)) := hc0.trans (by rw [show fl = 1 by omega])
      rw [hQ]
      exact A_return hg (by decide) (by decide) rfl dX8_fit_18 ⟨rfl, ⟨rfl, nmT, onT, slT, moT, nbT, bmT, n0, skf, slf, va, sp, rf, gv, gs, lm, vs, (x_tf_eqm hw0 htf0 hw hon hbm c15), hsb, hc_175, hc1, hc2, hc3, hc4, hc5, hc6, hc7, (fun _ _ => rfl)⟩⟩
end
