section
set_option maxRecDepth 100000 in
set_option maxHeartbeats 4000000 in
theorem c_X8_fitLosing (G : GL) (ex : Bool) (n : Nat) (σ : Nat → va_E) (tb : Nat) (fl : Nat) (n0 : Nat) (gv : Nat) (gs : Nat) (lm : Nat) (vs : Nat) (rb : Nat) (u : Nat → Nat) (nm : Nat) (on : Nat) (bm : Nat → Nat) (nmT : Nat) (onT : Nat) (slT : Nat) (moT : Nat) (nbT : Nat) (bmT : Nat → Nat) (skf : Nat → Nat) (slf : Nat → Nat) (va : Nat → Nat) (sp : Nat → Nat) (rf : Nat → Nat) (hc0 : σ tb = o8 G (tb) (nI (fl)) (nI (n0)) (nI (gv)) (nI (gs)) (nI (lm)) (nI (vs))) (hc1 : σ (tb + 3) = q_an G 1681 skf) (hc2 : σ (tb + 4) = q_an G 1681 slf) (hc3 : σ (tb + 5) = q_an G 1681 va) (hc4 : σ (tb + 6) = q_an G 1681 sp) (hc5 : σ (tb + 7) = q_an G 1681 rf) (hc6 : σ (tb + 1) = o7 G (tb + 1) (lN (nmT)) (lN (onT)) (nI (slT)) (nI (moT)) (nI (nbT))) (hc7 : σ (tb + 2) = q_an G 5 bmT) (hc8 : σ rb = o7 G (rb) (lN (nm)) (lN (on)) (nI (u 18)) (nI (u 19)) (nI (u 20))) (hc9 : σ (rb + 1) = q_an G 5 bm) (htb : tb + 7 < n) (hrb : rb + 1 < n) (hap : rb + 1 < tb ∨ tb + 7 < rb) (hw : x_w u) (hon : x_on u on) (hbm : x_bm u bm) (hsb : ∀ j : Nat, j < 1681 → sp j < 1681) : Ct G yX8_fitLosing cX8_fitLosing 4 none ⟨3, 0, 0, 74⟩ [.ref (q_h G + tb), .ref (q_h G + rb)] ex n σ (fun v9 σ2 => v9 = none ∧ ∃ (kf : Nat → Nat), ∃ (lf : Nat → Nat), ∃ (va3 : Nat → Nat), ∃ (gv3 : Nat), ∃ (gs3 : Nat), ∃ (vs3 : Nat), (x_lw (s_A u) 1681 va3) ∧ σ2 tb = o8 G (tb) (nI (0)) (nI (s_cnt (s_A u) 1681)) (nI (gv3)) (nI (gs3)) (nI (s_cnt (fun q => s_val (s_A u) q == 0) 1681)) (nI (vs3)) ∧ σ2 (tb + 3) = q_an G 1681 kf ∧ σ2 (tb + 4) = q_an G 1681 lf ∧ σ2 (tb + 5) = q_an G 1681 va3 ∧ σ2 (tb + 1) = o7 G (tb + 1) (lN (nm)) (lN (on)) (nI (u 18)) (nI (u 19)) (nI (u 20)) ∧ σ2 (tb + 2) = q_an G 5 bm ∧ (∀ i : Nat, i < tb ∨ tb + 5 < i → σ2 i = σ i)) := by
  refine q_enter [some (.ref (q_h G + tb)), some (.ref (q_h G + rb)), none, none] (by decide) (Nat.le_of_ble_eq_true rfl) rfl ?_
  intro K hg
  obtain ⟨Q, hQ⟩ : ∃ Q, Q = q_Q G K ex n 0 0 (fun v9 n' σ' => n' = n ∧ (fun v9 σ2 => v9 = none ∧ ∃ (kf : Nat → Nat), ∃ (lf : Nat → Nat), ∃ (va3 : Nat → Nat), ∃ (gv3 : Nat), ∃ (gs3 : Nat), ∃ (vs3 : Nat), (x_lw (s_A u) 1681 va3) ∧ σ2 tb = o8 G (tb) (nI (0)) (nI (s_cnt (s_A u) 1681)) (nI (gv3)) (nI (gs3)) (nI (s_cnt (fun q => s_val (s_A u) q == 0) 1681)) (nI (vs3)) ∧ σ2 (tb + 3) = q_an G 1681 kf ∧ σ2 (tb + 4) = q_an G 1681 lf ∧ σ2 (tb + 5) = q_an G 1681 va3 ∧ σ2 (tb + 1) = o7 G (tb + 1) (lN (nm)) (lN (on)) (nI (u 18)) (nI (u 19)) (nI (u 20)) ∧ σ2 (tb + 2) = q_an G 5 bm ∧ (∀ i : Nat, i < tb ∨ tb + 5 < i → σ2 i = σ i)) v9 σ') q_noX := ⟨_, rfl⟩
  refine (?_ : AJ G K (q_Q G K ex n 0 0 _ _) 0 0 ex n 0 _ _ σ)
  rw [← hQ]
  have hA0 := s_A0 u
  have hon1 := hon.1
  refine A_aload_n hg dX8_fitLosing_0 rfl rfl ?_
  refine A_iconst (v := (nI (0))) hg dX8_fitLosing_1 (by decide) ?_
  refine A_putf hg fl_RX8_18 dX8_fitLosing_2 hc0 (by omega) (Nat.le_of_ble_eq_true rfl) rfl rfl rfl (fun σ_1 hc_2 hf_3 => ?_)
  have hc_2 : σ_1 tb = o8 G (tb) (nI (0)) (nI (n0)) (nI (gv)) (nI (gs)) (nI (lm)) (nI (vs)) := hc_2
  have hc_4 : σ_1 (tb + 3) = q_an G 1681 skf := (hf_3 _ (by omega)).trans hc1
  have hc_5 : σ_1 (tb + 4) = q_an G 1681 slf := (hf_3 _ (by omega)).trans hc2
  have hc_6 : σ_1 (tb + 5) = q_an G 1681 va := (hf_3 _ (by omega)).trans hc3
  have hc_7 : σ_1 (tb + 6) = q_an G 1681 sp := (hf_3 _ (by omega)).trans hc4
  have hc_8 : σ_1 (tb + 7) = q_an G 1681 rf := (hf_3 _ (by omega)).trans hc5
  have hc_9 : σ_1 (tb + 1) = o7 G (tb + 1) (lN (nmT)) (lN (onT)) (nI (slT)) (nI (moT)) (nI (nbT)) := (hf_3 _ (by omega)).trans hc6
  have hc_10 : σ_1 (tb + 2) = q_an G 5 bmT := (hf_3 _ (by omega)).trans hc7
  have hc_11 : σ_1 rb = o7 G (rb) (lN (nm)) (lN (on)) (nI (u 18)) (nI (u 19)) (nI (u 20)) := (hf_3 _ (by omega)).trans hc8
  have hc_12 : σ_1 (rb + 1) = q_an G 5 bm := (hf_3 _ (by omega)).trans hc9
  refine A_aload_n hg dX8_fitLosing_5 rfl rfl ?_
  refine A_aload_n hg dX8_fitLosing_6 rfl rfl ?_
  refine A_vV (kc2 := 0) (ks2 := 0) (As := [.ref (q_h G + rb)]) (rest := []) hg lk_RX8_58 in_X8_gatherSteps se_X8_gatherSteps rfl dX8_fitLosing_7 ⟨by decide, by decide⟩ rfl rfl ⟨by decide, by decide⟩ hc_2 (by omega) rfl rfl (Nat.le_of_ble_eq_true rfl) (c_X8_gatherSteps G ex n σ_1 tb 0 n0 gv gs lm vs rb u nm on bm nmT onT slT moT nbT bmT skf slf hc_2 hc_4 hc_5 hc_9 hc_10 hc_11 hc_12 (by omega) (by omega) (by omega) hw hon hbm) ?_
  rintro σ_21 ⟨kf_13, lf_14, hsq, hc_15, hc_16, hc_17, hc_18, hc_19, hf_20⟩
  have hc_22 : σ_21 (tb + 5) = q_an G 1681 va := (hf_20 _ (by omega)).trans hc_6
  have hc_23 : σ_21 (tb + 6) = q_an G 1681 sp := (hf_20 _ (by omega)).trans hc_7
  have hc_24 : σ_21 (tb + 7) = q_an G 1681 rf := (hf_20 _ (by omega)).trans hc_8
  have hc_25 : σ_21 rb = o7 G (rb) (lN (nm)) (lN (on)) (nI (u 18)) (nI (u 19)) (nI (u 20)) := (hf_20 _ (by omega)).trans hc_11
  have hc_26 : σ_21 (rb + 1) = q_an G 5 bm := (hf_20 _ (by omega)).trans hc_12
  refine A_aload_n hg dX8_fitLosing_10 rfl rfl ?_
  refine A_getf (v := .ref (q_h G + (tb + 5))) hg fl_RX8_33 dX8_fitLosing_11 hc_15 (by omega) rfl ?_
  refine A_iconst (v := (nI (0))) hg dX8_fitLosing_14 (by decide) ?_
  refine A_vS (kc2 := 0) (ks2 := 0) (As := [.ref (q_h G + (tb + 5)), .int (nI (0))]) (rest := []) hg lk_RX8_62 st_J7_fill_53178 dX8_fitLosing_15 ⟨by decide, by decide⟩ rfl rfl ⟨by decide, by decide⟩ rfl rfl (Nat.le_of_ble_eq_true rfl) (c_J7_fill_53178 G ex n σ_21 (tb + 5) 1681 va 0 hc_22 (by omega) (by omega)) ?_
  rintro σ_29 ⟨hc_27, hf_28⟩
  have hc_30 : σ_29 (tb + 6) = q_an G 1681 sp := (hf_28 _ (by omega)).trans hc_23
  have hc_31 : σ_29 (tb + 7) = q_an G 1681 rf := (hf_28 _ (by omega)).trans hc_24
  have hc_32 : σ_29 rb = o7 G (rb) (lN (nm)) (lN (on)) (nI (u 18)) (nI (u 19)) (nI (u 20)) := (hf_28 _ (by omega)).trans hc_25
  have hc_33 : σ_29 (rb + 1) = q_an G 5 bm := (hf_28 _ (by omega)).trans hc_26
  have hc_34 : σ_29 tb = o8 G (tb) (nI (0)) (nI (s_cnt (s_A u) 1681)) (nI (gv)) (nI (gs)) (nI (lm)) (nI (vs)) := (hf_28 _ (by omega)).trans hc_15
  have hc_35 : σ_29 (tb + 3) = q_an G 1681 kf_13 := (hf_28 _ (by omega)).trans hc_16
  have hc_36 : σ_29 (tb + 4) = q_an G 1681 lf_14 := (hf_28 _ (by omega)).trans hc_17
  have hc_37 : σ_29 (tb + 1) = o7 G (tb + 1) (lN (nm)) (lN (on)) (nI (u 18)) (nI (u 19)) (nI (u 20)) := (hf_28 _ (by omega)).trans hc_18
  have hc_38 : σ_29 (tb + 2) = q_an G 5 bm := (hf_28 _ (by omega)).trans hc_19
  refine A_iconst (v := (nI (0))) hg dX8_fitLosing_18 (by decide) ?_
  refine A_istore_n hg dX8_fitLosing_19 rfl (by decide) (q_c1d rfl) ?_
  refine A_eq (ls2 := [some (.ref (q_h G + tb)), some (.ref (q_h G + rb)), some (.int (nI (0))), none]) (st2 := []) (pc2 := 0) rfl rfl ?_
  have hL20 : ∀ (fu : Nat) (x : Nat) (va1 : Nat → Nat) (σ_39 : Nat → va_E), (σ_39 (tb + 6) = q_an G 1681 sp) → (σ_39 (tb + 7) = q_an G 1681 rf) → (σ_39 rb = o7 G (rb) (lN (nm)) (lN (on)) (nI (u 18)) (nI (u 19)) (nI (u 20))) → (σ_39 (rb + 1) = q_an G 5 bm) → (σ_39 tb = o8 G (tb) (nI (0)) (nI (s_cnt (s_A u) 1681)) (nI (gv)) (nI (gs)) (nI (lm)) (nI (vs))) → (σ_39 (tb + 3) = q_an G 1681 kf_13) → (σ_39 (tb + 4) = q_an G 1681 lf_14) → (σ_39 (tb + 1) = o7 G (tb + 1) (lN (nm)) (lN (on)) (nI (u 18)) (nI (u 19)) (nI (u 20))) → (σ_39 (tb + 2) = q_an G 5 bm) → (σ_39 (tb + 5) = q_an G 1681 va1) → (∀ i : Nat, i < tb ∨ tb + 5 < i → σ_39 i = σ i) → (x ≤ 41) → (x_lw (s_A u) (41 * x) va1) → (41 - x) < fu → AJ G K Q 0 0 ex n 20 [some (.ref (q_h G + tb)), some (.ref (q_h G + rb)), some (.int (nI (x))), none] [] σ_39 := by
    intro fu
    induction fu with
    | zero => intro x va1 σ_39 hc_40 hc_41 hc_42 hc_43 hc_44 hc_45 hc_46 hc_47 hc_48 hc_49 hf_50 hx hlw hm; exact absurd hm (Nat.not_lt_zero _)
    | succ fu ih20 =>
      intro x va1 σ_39 hc_40 hc_41 hc_42 hc_43 hc_44 hc_45 hc_46 hc_47 hc_48 hc_49 hf_50 hx hlw hm20
      refine A_iload_n hg dX8_fitLosing_20 rfl rfl ?_
      refine A_bipush (v := (nI (41))) hg dX8_fitLosing_21 (by decide) ?_
      refine A_icmp_geN (tgt := 66) hg dX8_fitLosing_23 (by omega) (by decide) (by decide) (fun c23 => ?_) (fun c23 => ?_)
      · skip
        have e1681 : 41 * x = 1681 := by omega
        rw [e1681] at hlw
        have hvb : ∀ j : Nat, j < 1681 → va1 j ≤ 1681 := fun j hj => by have a := (hlw j hj).1; omega
        have hsb2 : ∀ j : Nat, j < 1681 → sp j ≤ 1681 := fun j hj => by have a := hsb j hj; omega
        refine A_aload_n hg dX8_fitLosing_66 rfl rfl ?_
        refine A_vV (kc2 := 0) (ks2 := 0) (As := []) (rest := []) hg lk_RX8_72 in_X8_tally se_X8_tally rfl dX8_fitLosing_67 ⟨by decide, by decide⟩ rfl rfl ⟨by decide, by decide⟩ hc_44 (by omega) rfl rfl (Nat.le_of_ble_eq_true rfl) (c_X8_tally G ex n σ_39 tb 0 (s_cnt (s_A u) 1681) gv gs lm vs va1 sp hc_44 hc_49 hc_40 (by omega) (by omega) (by omega)) ?_
        rintro σ_53 ⟨hc_51, hf_52⟩
        have hc_54 : σ_53 (tb + 6) = q_an G 1681 sp := (hf_52 _ (by omega)).trans hc_40
        have hc_55 : σ_53 (tb + 7) = q_an G 1681 rf := (hf_52 _ (by omega)).trans hc_41
        have hc_56 : σ_53 rb = o7 G (rb) (lN (nm)) (lN (on)) (nI (u 18)) (nI (u 19)) (nI (u 20)) := (hf_52 _ (by omega)).trans hc_42
        have hc_57 : σ_53 (rb + 1) = q_an G 5 bm := (hf_52 _ (by omega)).trans hc_43
        have hc_58 : σ_53 (tb + 3) = q_an G 1681 kf_13 := (hf_52 _ (by omega)).trans hc_45
        have hc_59 : σ_53 (tb + 4) = q_an G 1681 lf_14 := (hf_52 _ (by omega)).trans hc_46
        have hc_60 : σ_53 (tb + 1) = o7 G (tb + 1) (lN (nm)) (lN (on)) (nI (u 18)) (nI (u 19)) (nI (u 20)) := (hf_52 _ (by omega)).trans hc_47
        have hc_61 : σ_53 (tb + 2) = q_an G 5 bm := (hf_52 _ (by omega)).trans hc_48
        have hc_62 : σ_53 (tb + 5) = q_an G 1681 va1 := (hf_52 _ (by omega)).trans hc_49
        have hc_63 : σ_53 tb = o8 G (tb) (nI (0)) (nI (s_cnt (s_A u) 1681)) (nI (s_mx va1 1681)) (nI (s_mx sp 1681)) (nI (s_cnt (fun q => s_val (s_A u) q == 0) 1681)) (nI (x_tc.x_sum va1 1681)) := hc_51.trans (by rw [x_lw_cnt hA0 hlw])
        rw [hQ]
        exact A_return hg (by decide) (by decide) rfl dX8_fitLosing_70 ⟨rfl, ⟨rfl, _, _, va1, _, _, _, by omega, hc_63, hc_58, hc_59, hc_62, hc_60, hc_61, (fun i hi => ((hf_52 i (by omega)).trans (hf_50 i (by omega))))⟩⟩
      · skip
        refine A_iconst (v := (nI (0))) hg dX8_fitLosing_26 (by decide) ?_
        refine A_istore_n hg dX8_fitLosing_27 rfl (by decide) (q_c1d rfl) ?_
        refine A_eq (ls2 := [some (.ref (q_h G + tb)), some (.ref (q_h G + rb)), some (.int (nI (x))), some (.int (nI (0)))]) (st2 := []) (pc2 := 0) rfl rfl ?_
        have hL28 : ∀ (fu : Nat) (y : Nat) (va1 : Nat → Nat) (σ_64 : Nat → va_E), (σ_64 (tb + 6) = q_an G 1681 sp) → (σ_64 (tb + 7) = q_an G 1681 rf) → (σ_64 rb = o7 G (rb) (lN (nm)) (lN (on)) (nI (u 18)) (nI (u 19)) (nI (u 20))) → (σ_64 (rb + 1) = q_an G 5 bm) → (σ_64 tb = o8 G (tb) (nI (0)) (nI (s_cnt (s_A u) 1681)) (nI (gv)) (nI (gs)) (nI (lm)) (nI (vs))) → (σ_64 (tb + 3) = q_an G 1681 kf_13) → (σ_64 (tb + 4) = q_an G 1681 lf_14) → (σ_64 (tb + 1) = o7 G (tb + 1) (lN (nm)) (lN (on)) (nI (u 18)) (nI (u 19)) (nI (u 20))) → (σ_64 (tb + 2) = q_an G 5 bm) → (σ_64 (tb + 5) = q_an G 1681 va1) → (∀ i : Nat, i < tb ∨ tb + 5 < i → σ_64 i = σ i) → (y ≤ 41) → (x_lw (s_A u) (x * 41 + y) va1) → (41 - y) < fu → AJ G K Q 0 0 ex n 28 [some (.ref (q_h G + tb)), some (.ref (q_h G + rb)), some (.int (nI (x))), some (.int (nI (y)))] [] σ_64 := by
          intro fu
          induction fu with
          | zero => intro y va1 σ_64 hc_65 hc_66 hc_67 hc_68 hc_69 hc_70 hc_71 hc_72 hc_73 hc_74 hf_75 hy hlw hm; exact absurd hm (Nat.not_lt_zero _)
          | succ fu ih28 =>
            intro y va1 σ_64 hc_65 hc_66 hc_67 hc_68 hc_69 hc_70 hc_71 hc_72 hc_73 hc_74 hf_75 hy hlw hm28
            refine A_iload_n hg dX8_fitLosing_28 rfl rfl ?_
            refine A_bipush (v := (nI (41))) hg dX8_fitLosing_29 (by decide) ?_
            refine A_icmp_geN (tgt := 60) hg dX8_fitLosing_31 (by omega) (by decide) (by decide) (fun c31 => ?_) (fun c31 => ?_)
            · skip
              refine A_iincN (k' := 1) hg dX8_fitLosing_60 (by decide) rfl (by decide) (q_c1d rfl) ?_
              refine A_eq (ls2 := [some (.ref (q_h G + tb)), some (.ref (q_h G + rb)), some (.int (nI (x + 1))), some (.int (nI (y)))]) (st2 := []) (pc2 := 0) rfl rfl ?_
              refine A_goto (tgt := 20) hg dX8_fitLosing_63 (by decide) ?_
              refine A_drop 3 ?_
              exact ih20 (x + 1) va1 σ_64 hc_65 hc_66 hc_67 hc_68 hc_69 hc_70 hc_71 hc_72 hc_73 hc_74 (fun i hi => (hf_75 i (by omega))) (by omega) (by rw [show 41 * (x + 1) = x * 41 + y by omega]; exact hlw) (by omega)
            · skip
              refine A_aload_n hg dX8_fitLosing_34 rfl rfl ?_
              refine A_getf (v := .ref (q_h G + (tb + 5))) hg fl_RX8_33 dX8_fitLosing_35 hc_69 (by omega) rfl ?_
              refine A_iload_n hg dX8_fitLosing_38 rfl rfl ?_
              refine A_bipush (v := (nI (41))) hg dX8_fitLosing_39 (by decide) ?_
              refine A_imulN hg dX8_fitLosing_41 ?_
              refine A_iload_n hg dX8_fitLosing_42 rfl rfl ?_
              refine A_iaddN hg dX8_fitLosing_43 ?_
              refine A_iald (j := ((x * 41) + y)) hg dX8_fitLosing_44 hc_74 (by omega) (by omega) (by decide) ?_
              refine A_if_neN (tgt := 54) hg dX8_fitLosing_45 (by have a := (hlw (x * 41 + y) (by omega)).1; omega) (by decide) (fun c45 => ?_) (fun c45 => ?_)
              · skip
                refine A_iincN (k' := 1) hg dX8_fitLosing_54 (by decide) rfl (by decide) (q_c1d rfl) ?_
                refine A_eq (ls2 := [some (.ref (q_h G + tb)), some (.ref (q_h G + rb)), some (.int (nI (x))), some (.int (nI (y + 1)))]) (st2 := []) (pc2 := 0) rfl rfl ?_
                refine A_goto (tgt := 28) hg dX8_fitLosing_57 (by decide) ?_
                exact ih28 (y + 1) va1 σ_64 hc_65 hc_66 hc_67 hc_68 hc_69 hc_70 hc_71 hc_72 hc_73 hc_74 (fun i hi => (hf_75 i (by omega))) (by omega) (x_lw_win (p := x * 41 + y) hA0 (by omega) hlw c45) (by omega)
              · skip
                refine A_aload_n hg dX8_fitLosing_48 rfl rfl ?_
                refine A_iload_n hg dX8_fitLosing_49 rfl rfl ?_
                refine A_iload_n hg dX8_fitLosing_50 rfl rfl ?_
                refine A_vV (kc2 := 0) (ks2 := 0) (As := [.int (nI (x)), .int (nI (y))]) (rest := []) hg lk_RX8_75 in_X8_markWinningAbove se_X8_markWinningAbove rfl dX8_fitLosing_51 ⟨by decide, by decide⟩ rfl rfl ⟨by decide, by decide⟩ hc_69 (by omega) rfl rfl (Nat.le_of_ble_eq_true rfl) (c_X8_markWinningAbove G ex n σ_64 tb 0 (s_cnt (s_A u) 1681) gv gs lm vs (s_A u) kf_13 lf_14 va1 x y hc_69 hc_70 hc_71 hc_74 (by omega) hA0 rfl hsq (by omega) (by omega)) ?_
                rintro σ_78 ⟨hc_76, hf_77⟩
                have hc_79 : σ_78 (tb + 6) = q_an G 1681 sp := (hf_77 _ (by omega)).trans hc_65
                have hc_80 : σ_78 (tb + 7) = q_an G 1681 rf := (hf_77 _ (by omega)).trans hc_66
                have hc_81 : σ_78 rb = o7 G (rb) (lN (nm)) (lN (on)) (nI (u 18)) (nI (u 19)) (nI (u 20)) := (hf_77 _ (by omega)).trans hc_67
                have hc_82 : σ_78 (rb + 1) = q_an G 5 bm := (hf_77 _ (by omega)).trans hc_68
                have hc_83 : σ_78 tb = o8 G (tb) (nI (0)) (nI (s_cnt (s_A u) 1681)) (nI (gv)) (nI (gs)) (nI (lm)) (nI (vs)) := (hf_77 _ (by omega)).trans hc_69
                have hc_84 : σ_78 (tb + 3) = q_an G 1681 kf_13 := (hf_77 _ (by omega)).trans hc_70
                have hc_85 : σ_78 (tb + 4) = q_an G 1681 lf_14 := (hf_77 _ (by omega)).trans hc_71
                have hc_86 : σ_78 (tb + 1) = o7 G (tb + 1) (lN (nm)) (lN (on)) (nI (u 18)) (nI (u 19)) (nI (u 20)) := (hf_77 _ (by omega)).trans hc_72
                have hc_87 : σ_78 (tb + 2) = q_an G 5 bm := (hf_77 _ (by omega)).trans hc_73
                refine A_iincN (k' := 1) hg dX8_fitLosing_54 (by decide) rfl (by decide) (q_c1d rfl) ?_
                refine A_eq (ls2 := [some (.ref (q_h G + tb)), some (.ref (q_h G + rb)), some (.int (nI (x))), some (.int (nI (y + 1)))]) (st2 := []) (pc2 := 0) rfl rfl ?_
                refine A_goto (tgt := 28) hg dX8_fitLosing_57 (by decide) ?_
                exact ih28 (y + 1) (x_up (s_A u) va1 (x * 41 + y) 1681) σ_78 hc_79 hc_80 hc_81 hc_82 hc_83 hc_84 hc_85 hc_86 hc_87 hc_76 (fun i hi => ((hf_77 i (by omega)).trans (hf_75 i (by omega)))) (by omega) (x_lw_lose (p := x * 41 + y) hA0 (by omega) hlw c45) (by omega)
        exact hL28 _ 0 va1 σ_39 hc_40 hc_41 hc_42 hc_43 hc_44 hc_45 hc_46 hc_47 hc_48 hc_49 (fun i hi => (hf_50 i (by omega))) (Nat.zero_le _) (by rw [show x * 41 + 0 = 41 * x by omega]; exact hlw) (Nat.lt_succ_self _)
  exact hL20 _ 0 (fun _ => 0) σ_29 hc_30 hc_31 hc_32 hc_33 hc_34 hc_35 hc_36 hc_37 hc_38 hc_27 (fun i hi => ((hf_28 i (by omega)).trans ((hf_20 i (by omega)).trans (hf_3 i (by omega))))) (Nat.zero_le _) (x_lw_0 _) (Nat.lt_succ_self _)
end
