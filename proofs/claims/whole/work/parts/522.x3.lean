section
set_option maxRecDepth 100000 in
set_option maxHeartbeats 4000000 in
theorem c_X7_copyFrom (G : GL) (ex : Bool) (n : Nat) (σ : Nat → va_E) (rb : Nat) (nm : Nat) (on : Nat) (sl : Nat) (mo : Nat) (nb : Nat) (bm : Nat → Nat) (r2 : Nat) (nm2 : Nat) (on2 : Nat) (sl2 : Nat) (mo2 : Nat) (nb2 : Nat) (bm2 : Nat → Nat) (hc0 : σ rb = o7 G (rb) (lN (nm)) (lN (on)) (nI (sl)) (nI (mo)) (nI (nb))) (hc1 : σ (rb + 1) = q_an G 5 bm) (hc2 : σ r2 = o7 G (r2) (lN (nm2)) (lN (on2)) (nI (sl2)) (nI (mo2)) (nI (nb2))) (hc3 : σ (r2 + 1) = q_an G 5 bm2) (hrb : rb + 1 < n) (hr2 : r2 + 1 < n) (hap : rb + 1 < r2 ∨ r2 + 1 < rb) : Ct G yX7_copyFrom cX7_copyFrom 2 none ⟨1, 0, 0, 30⟩ [.ref (q_h G + rb), .ref (q_h G + r2)] ex n σ (fun v9 σ2 => v9 = none ∧ σ2 rb = o7 G (rb) (lN (nm2)) (lN (on2)) (nI (sl2)) (nI (mo2)) (nI (nb2)) ∧ σ2 (rb + 1) = q_an G 5 bm2 ∧ (∀ i : Nat, i ≠ rb ∧ i ≠ rb + 1 → σ2 i = σ i)) := by
  refine q_enter [some (.ref (q_h G + rb)), some (.ref (q_h G + r2))] (by decide) (Nat.le_of_ble_eq_true rfl) rfl ?_
  intro K hg
  obtain ⟨Q, hQ⟩ : ∃ Q, Q = q_Q G K ex n 0 0 (fun v9 n' σ' => n' = n ∧ (fun v9 σ2 => v9 = none ∧ σ2 rb = o7 G (rb) (lN (nm2)) (lN (on2)) (nI (sl2)) (nI (mo2)) (nI (nb2)) ∧ σ2 (rb + 1) = q_an G 5 bm2 ∧ (∀ i : Nat, i ≠ rb ∧ i ≠ rb + 1 → σ2 i = σ i)) v9 σ') q_noX := ⟨_, rfl⟩
  refine (?_ : AJ G K (q_Q G K ex n 0 0 _ _) 0 0 ex n 0 _ _ σ)
  rw [← hQ]
  refine A_aload_n hg dX7_copyFrom_0 rfl rfl ?_
  refine A_aload_n hg dX7_copyFrom_1 rfl rfl ?_
  refine A_getf (v := .long (lN (nm2))) hg fl_RX7_9 dX7_copyFrom_2 hc2 (by omega) rfl ?_
  refine A_putf hg fl_RX7_9 dX7_copyFrom_5 hc0 (by omega) (Nat.le_of_ble_eq_true rfl) rfl rfl rfl (fun σ_1 hc_2 hf_3 => ?_)
  have hc_2 : σ_1 rb = o7 G (rb) (lN (nm2)) (lN (on)) (nI (sl)) (nI (mo)) (nI (nb)) := hc_2
  have hc_4 : σ_1 (rb + 1) = q_an G 5 bm := (hf_3 _ (by omega)).trans hc1
  have hc_5 : σ_1 r2 = o7 G (r2) (lN (nm2)) (lN (on2)) (nI (sl2)) (nI (mo2)) (nI (nb2)) := (hf_3 _ (by omega)).trans hc2
  have hc_6 : σ_1 (r2 + 1) = q_an G 5 bm2 := (hf_3 _ (by omega)).trans hc3
  refine A_aload_n hg dX7_copyFrom_8 rfl rfl ?_
  refine A_aload_n hg dX7_copyFrom_9 rfl rfl ?_
  refine A_getf (v := .long (lN (on2))) hg fl_RX7_15 dX7_copyFrom_10 hc_5 (by omega) rfl ?_
  refine A_putf hg fl_RX7_15 dX7_copyFrom_13 hc_2 (by omega) (Nat.le_of_ble_eq_true rfl) rfl rfl rfl (fun σ_7 hc_8 hf_9 => ?_)
  have hc_8 : σ_7 rb = o7 G (rb) (lN (nm2)) (lN (on2)) (nI (sl)) (nI (mo)) (nI (nb)) := hc_8
  have hc_10 : σ_7 (rb + 1) = q_an G 5 bm := (hf_9 _ (by omega)).trans hc_4
  have hc_11 : σ_7 r2 = o7 G (r2) (lN (nm2)) (lN (on2)) (nI (sl2)) (nI (mo2)) (nI (nb2)) := (hf_9 _ (by omega)).trans hc_5
  have hc_12 : σ_7 (r2 + 1) = q_an G 5 bm2 := (hf_9 _ (by omega)).trans hc_6
  refine A_aload_n hg dX7_copyFrom_16 rfl rfl ?_
  refine A_aload_n hg dX7_copyFrom_17 rfl rfl ?_
  refine A_getf (v := .int (nI (sl2))) hg fl_RX7_18 dX7_copyFrom_18 hc_11 (by omega) rfl ?_
  refine A_putf hg fl_RX7_18 dX7_copyFrom_21 hc_8 (by omega) (Nat.le_of_ble_eq_true rfl) rfl rfl rfl (fun σ_13 hc_14 hf_15 => ?_)
  have hc_14 : σ_13 rb = o7 G (rb) (lN (nm2)) (lN (on2)) (nI (sl2)) (nI (mo)) (nI (nb)) := hc_14
  have hc_16 : σ_13 (rb + 1) = q_an G 5 bm := (hf_15 _ (by omega)).trans hc_10
  have hc_17 : σ_13 r2 = o7 G (r2) (lN (nm2)) (lN (on2)) (nI (sl2)) (nI (mo2)) (nI (nb2)) := (hf_15 _ (by omega)).trans hc_11
  have hc_18 : σ_13 (r2 + 1) = q_an G 5 bm2 := (hf_15 _ (by omega)).trans hc_12
  refine A_aload_n hg dX7_copyFrom_24 rfl rfl ?_
  refine A_aload_n hg dX7_copyFrom_25 rfl rfl ?_
  refine A_getf (v := .int (nI (mo2))) hg fl_RX7_22 dX7_copyFrom_26 hc_17 (by omega) rfl ?_
  refine A_putf hg fl_RX7_22 dX7_copyFrom_29 hc_14 (by omega) (Nat.le_of_ble_eq_true rfl) rfl rfl rfl (fun σ_19 hc_20 hf_21 => ?_)
  have hc_20 : σ_19 rb = o7 G (rb) (lN (nm2)) (lN (on2)) (nI (sl2)) (nI (mo2)) (nI (nb)) := hc_20
  have hc_22 : σ_19 (rb + 1) = q_an G 5 bm := (hf_21 _ (by omega)).trans hc_16
  have hc_23 : σ_19 r2 = o7 G (r2) (lN (nm2)) (lN (on2)) (nI (sl2)) (nI (mo2)) (nI (nb2)) := (hf_21 _ (by omega)).trans hc_17
  have hc_24 : σ_19 (r2 + 1) = q_an G 5 bm2 := (hf_21 _ (by omega)).trans hc_18
  refine A_aload_n hg dX7_copyFrom_32 rfl rfl ?_
  refine A_aload_n hg dX7_copyFrom_33 rfl rfl ?_
  refine A_getf (v := .int (nI (nb2))) hg fl_RX7_25 dX7_copyFrom_34 hc_23 (by omega) rfl ?_
  refine A_putf hg fl_RX7_25 dX7_copyFrom_37 hc_20 (by omega) (Nat.le_of_ble_eq_true rfl) rfl rfl rfl (fun σ_25 hc_26 hf_27 => ?_)
  have hc_26 : σ_25 rb = o7 G (rb) (lN (nm2)) (lN (on2)) (nI (sl2)) (nI (mo2)) (nI (nb2)) := hc_26
  have hc_28 : σ_25 (rb + 1) = q_an G 5 bm := (hf_27 _ (by omega)).trans hc_22
  have hc_29 : σ_25 r2 = o7 G (r2) (lN (nm2)) (lN (on2)) (nI (sl2)) (nI (mo2)) (nI (nb2)) := (hf_27 _ (by omega)).trans hc_23
  have hc_30 : σ_25 (r2 + 1) = q_an G 5 bm2 := (hf_27 _ (by omega)).trans hc_24
  refine A_aload_n hg dX7_copyFrom_40 rfl rfl ?_
  refine A_getf (v := .ref (q_h G + (r2 + 1))) hg fl_RX7_28 dX7_copyFrom_41 hc_29 (by omega) rfl ?_
  refine A_iconst (v := (nI (0))) hg dX7_copyFrom_44 (by decide) ?_
  refine A_aload_n hg dX7_copyFrom_45 rfl rfl ?_
  refine A_getf (v := .ref (q_h G + (rb + 1))) hg fl_RX7_28 dX7_copyFrom_46 hc_26 (by omega) rfl ?_
  refine A_iconst (v := (nI (0))) hg dX7_copyFrom_49 (by decide) ?_
  refine A_aload_n hg dX7_copyFrom_50 rfl rfl ?_
  refine A_getf (v := .ref (q_h G + (rb + 1))) hg fl_RX7_28 dX7_copyFrom_51 hc_26 (by omega) rfl ?_
  refine A_alen (t := 0) (len := 5) hg dX7_copyFrom_54 hc_28 (by decide) (by omega) ?_
  refine A_copy (x := 0) (y := 0) (z := 5) hg (q_mt 631 (by decide +kernel)) (q_mt 633 (by decide +kernel)) (q_mt 632 (by decide +kernel)) (q_mt 19 (by decide +kernel)) dX7_copyFrom_55 ⟨by decide, by decide⟩ (Nat.le_of_ble_eq_true rfl) hc_30 hc_28 (by omega) (by omega) (by omega) (by omega) (by decide) (by decide) (by decide) (fun σ_31 hc_32 hf_33 => ?_)
  have hc_34 : σ_31 r2 = o7 G (r2) (lN (nm2)) (lN (on2)) (nI (sl2)) (nI (mo2)) (nI (nb2)) := (hf_33 _ (by omega)).trans hc_29
  have hc_35 : σ_31 (r2 + 1) = q_an G 5 bm2 := (hf_33 _ (by omega)).trans hc_30
  have hc_36 : σ_31 rb = o7 G (rb) (lN (nm2)) (lN (on2)) (nI (sl2)) (nI (mo2)) (nI (nb2)) := (hf_33 _ (by omega)).trans hc_26
  refine A_canon bm2 hc_32 (fun jj hj => by unfold va_cpy; rw [if_pos (by omega)]; congr 1; omega) (fun σ_37 hc_38 hf_39 => ?_)
  have hc_40 : σ_37 r2 = o7 G (r2) (lN (nm2)) (lN (on2)) (nI (sl2)) (nI (mo2)) (nI (nb2)) := (hf_39 _ (by omega)).trans hc_34
  have hc_41 : σ_37 (r2 + 1) = q_an G 5 bm2 := (hf_39 _ (by omega)).trans hc_35
  have hc_42 : σ_37 rb = o7 G (rb) (lN (nm2)) (lN (on2)) (nI (sl2)) (nI (mo2)) (nI (nb2)) := (hf_39 _ (by omega)).trans hc_36
  rw [hQ]
  exact A_return hg (by decide) (by decide) rfl dX7_copyFrom_58 ⟨rfl, ⟨rfl, hc_42, hc_38, (fun i hi => ((hf_39 i (by omega)).trans ((hf_33 i (by omega)).trans ((hf_27 i (by omega)).trans ((hf_21 i (by omega)).trans ((hf_15 i (by omega)).trans ((hf_9 i (by omega)).trans (hf_3 i (by omega)))))))))⟩⟩
set_option maxRecDepth 100000 in
set_option maxHeartbeats 4000000 in
theorem c_X7_hasMovesOf (G : GL) (ex : Bool) (n : Nat) (σ : Nat → va_E) (rb : Nat) (nm : Nat) (on : Nat) (sl : Nat) (mo : Nat) (nb : Nat) (bm : Nat → Nat) (r2 : Nat) (nm2 : Nat) (on2 : Nat) (sl2 : Nat) (mo2 : Nat) (nb2 : Nat) (bm2 : Nat → Nat) (hc0 : σ rb = o7 G (rb) (lN (nm)) (lN (on)) (nI (sl)) (nI (mo)) (nI (nb))) (hc1 : σ (rb + 1) = q_an G 5 bm) (hc2 : σ r2 = o7 G (r2) (lN (nm2)) (lN (on2)) (nI (sl2)) (nI (mo2)) (nI (nb2))) (hc3 : σ (r2 + 1) = q_an G 5 bm2) (hrb : rb + 1 < n) (hr2 : r2 + 1 < n) (hap : rb + 1 < r2 ∨ r2 + 1 < rb) (hon9 : on < 2 ^ 41) (hon2 : on2 < 2 ^ 41) (hnb : nb ≤ 5) (hsb : sl < 2 ^ 31 ∧ sl2 < 2 ^ 31 ∧ mo < 2 ^ 31 ∧ mo2 < 2 ^ 31 ∧ nb2 < 2 ^ 31) (hbb1 : ∀ i : Nat, bm i < 2 ^ 31) (hbb2 : ∀ i : Nat, bm2 i < 2 ^ 31) : Ct G yX7_hasMovesOf cX7_hasMovesOf 3 (some .boolean) ⟨0, 0, 0, 0⟩ [.ref (q_h G + rb), .ref (q_h G + r2)] ex n σ (fun v9 σ2 => σ2 = σ ∧ v9 = some (.int (q_b (x_eqm on sl mo nb bm on2 sl2 mo2 nb2 bm2)))) := by
  refine q_enter [some (.ref (q_h G + rb)), some (.ref (q_h G + r2)), none] (by decide) (Nat.le_of_ble_eq_true rfl) rfl ?_
  intro K hg
  obtain ⟨Q, hQ⟩ : ∃ Q, Q = q_Q G K ex n 0 0 (fun v9 n' σ' => n' = n ∧ (fun v9 σ2 => σ2 = σ ∧ v9 = some (.int (q_b (x_eqm on sl mo nb bm on2 sl2 mo2 nb2 bm2)))) v9 σ') q_noX := ⟨_, rfl⟩
  refine (?_ : AJ G K (q_Q G K ex n 0 0 _ _) 0 0 ex n 0 _ _ σ)
  rw [← hQ]
  refine A_aload_n hg dX7_hasMovesOf_0 rfl rfl ?_
  refine A_getf (v := .long (lN (on))) hg fl_RX7_15 dX7_hasMovesOf_1 hc0 (by omega) rfl ?_
  refine A_aload_n hg dX7_hasMovesOf_4 rfl rfl ?_
  refine A_getf (v := .long (lN (on2))) hg fl_RX7_15 dX7_hasMovesOf_5 hc2 (by omega) rfl ?_
  refine A_lcmp hg dX7_hasMovesOf_8 ?_
  refine A_lc_ne (tgt := 45) hg dX7_hasMovesOf_9 (Nat.lt_of_lt_of_le hon9 (by decide)) (Nat.lt_of_lt_of_le hon2 (by decide)) (by decide) (fun c9 => ?_) (fun c9 => ?_)
  · skip
    refine A_iconst (v := (nI (0))) hg dX7_hasMovesOf_45 (by decide) ?_
    rw [hQ]
    exact A_zreturn hg (by decide) (by decide) rfl rfl dX7_hasMovesOf_46 ⟨rfl, ⟨rfl, (q_rf (decide_eq_false (by rintro ⟨h1, h2, h3, h4, -⟩; first | exact c9 h1 | omega)))⟩⟩
  · skip
    refine A_aload_n hg dX7_hasMovesOf_12 rfl rfl ?_
    refine A_getf (v := .int (nI (sl))) hg fl_RX7_18 dX7_hasMovesOf_13 hc0 (by omega) rfl ?_
    refine A_aload_n hg dX7_hasMovesOf_16 rfl rfl ?_
    refine A_getf (v := .int (nI (sl2))) hg fl_RX7_18 dX7_hasMovesOf_17 hc2 (by omega) rfl ?_
    refine A_icmp_neN (tgt := 45) hg dX7_hasMovesOf_20 (by omega) (by omega) (by decide) (fun c20 => ?_) (fun c20 => ?_)
    · skip
      refine A_iconst (v := (nI (0))) hg dX7_hasMovesOf_45 (by decide) ?_
      rw [hQ]
      exact A_zreturn hg (by decide) (by decide) rfl rfl dX7_hasMovesOf_46 ⟨rfl, ⟨rfl, (q_rf (decide_eq_false (by rintro ⟨h1, h2, h3, h4, -⟩; first | exact c9 h1 | omega)))⟩⟩
    · skip
      refine A_aload_n hg dX7_hasMovesOf_23 rfl rfl ?_
      refine A_getf (v := .int (nI (mo))) hg fl_RX7_22 dX7_hasMovesOf_24 hc0 (by omega) rfl ?_
      refine A_aload_n hg dX7_hasMovesOf_27 rfl rfl ?_
      refine A_getf (v := .int (nI (mo2))) hg fl_RX7_22 dX7_hasMovesOf_28 hc2 (by omega) rfl ?_
      refine A_icmp_neN (tgt := 45) hg dX7_hasMovesOf_31 (by omega) (by omega) (by decide) (fun c31 => ?_) (fun c31 => ?_)
      · skip
        refine A_iconst (v := (nI (0))) hg dX7_hasMovesOf_45 (by decide) ?_
        rw [hQ]
        exact A_zreturn hg (by decide) (by decide) rfl rfl dX7_hasMovesOf_46 ⟨rfl, ⟨rfl, (q_rf (decide_eq_false (by rintro ⟨h1, h2, h3, h4, -⟩; first | exact c9 h1 | omega)))⟩⟩
      · skip
        refine A_aload_n hg dX7_hasMovesOf_34 rfl rfl ?_
        refine A_getf (v := .int (nI (nb))) hg fl_RX7_25 dX7_hasMovesOf_35 hc0 (by omega) rfl ?_
        refine A_aload_n hg dX7_hasMovesOf_38 rfl rfl ?_
        refine A_getf (v := .int (nI (nb2))) hg fl_RX7_25 dX7_hasMovesOf_39 hc2 (by omega) rfl ?_
        refine A_icmp_eqN (tgt := 47) hg dX7_hasMovesOf_42 (by omega) (by omega) (by decide) (fun c42 => ?_) (fun c42 => ?_)
        · skip
          refine A_iconst (v := (nI (0))) hg dX7_hasMovesOf_47 (by decide) ?_
          refine A_istore_n hg dX7_hasMovesOf_48 rfl (by decide) (q_c1d rfl) ?_
          refine A_eq (ls2 := [some (.ref (q_h G + rb)), some (.ref (q_h G + r2)), some (.int (nI (0)))]) (st2 := []) (pc2 := 0) rfl rfl ?_
          have hL49 : ∀ (fu : Nat) (i : Nat), (i ≤ nb) → (∀ j : Nat, j < i → bm j = bm2 j) → (nb - i) < fu → AJ G K Q 0 0 ex n 49 [some (.ref (q_h G + rb)), some (.ref (q_h G + r2)), some (.int (nI (i)))] [] σ := by
            intro fu
            induction fu with
            | zero => intro i hi hno hm; exact absurd hm (Nat.not_lt_zero _)
            | succ fu ih49 =>
              intro i hi hno hm49
              refine A_iload_n hg dX7_hasMovesOf_49 rfl rfl ?_
              refine A_aload_n hg dX7_hasMovesOf_50 rfl rfl ?_
              refine A_getf (v := .int (nI (nb))) hg fl_RX7_25 dX7_hasMovesOf_51 hc0 (by omega) rfl ?_
              refine A_icmp_geN (tgt := 89) hg dX7_hasMovesOf_54 (by omega) (by omega) (by decide) (fun c54 => ?_) (fun c54 => ?_)
              · skip
                refine A_iconst (v := (nI (1))) hg dX7_hasMovesOf_89 (by decide) ?_
                rw [hQ]
                exact A_zreturn hg (by decide) (by decide) rfl rfl dX7_hasMovesOf_90 ⟨rfl, ⟨rfl, (q_rt (decide_eq_true ⟨c9, by omega, by omega, by omega, fun j hj => hno j (by omega)⟩))⟩⟩
              · skip
                refine A_iload_n hg dX7_hasMovesOf_57 rfl rfl ?_
                refine A_aload_n hg dX7_hasMovesOf_58 rfl rfl ?_
                refine A_getf (v := .ref (q_h G + (rb + 1))) hg fl_RX7_28 dX7_hasMovesOf_59 hc0 (by omega) rfl ?_
                refine A_alen (t := 0) (len := 5) hg dX7_hasMovesOf_62 hc1 (by decide) (by omega) ?_
                refine A_icmp_geN (tgt := 89) hg dX7_hasMovesOf_63 (by omega) (by decide) (by decide) (fun c63 => ?_) (fun c63 => ?_)
                · skip
                  refine A_iconst (v := (nI (1))) hg dX7_hasMovesOf_89 (by decide) ?_
                  rw [hQ]
                  exact A_zreturn hg (by decide) (by decide) rfl rfl dX7_hasMovesOf_90 ⟨rfl, ⟨rfl, (q_rt (decide_eq_true ⟨c9, by omega, by omega, by omega, fun j hj => hno j (by omega)⟩))⟩⟩
                · skip
                  refine A_aload_n hg dX7_hasMovesOf_66 rfl rfl ?_
                  refine A_getf (v := .ref (q_h G + (rb + 1))) hg fl_RX7_28 dX7_hasMovesOf_67 hc0 (by omega) rfl ?_
                  refine A_iload_n hg dX7_hasMovesOf_70 rfl rfl ?_
                  refine A_iald (j := i) hg dX7_hasMovesOf_71 hc1 (by omega) (by omega) (by decide) ?_
                  refine A_aload_n hg dX7_hasMovesOf_72 rfl rfl ?_
                  refine A_getf (v := .ref (q_h G + (r2 + 1))) hg fl_RX7_28 dX7_hasMovesOf_73 hc2 (by omega) rfl ?_
                  refine A_iload_n hg dX7_hasMovesOf_76 rfl rfl ?_
                  refine A_iald (j := i) hg dX7_hasMovesOf_77 hc3 (by omega) (by omega) (by decide) ?_
                  refine A_icmp_eqN (tgt := 83) hg dX7_hasMovesOf_78 (by first | exact hbb1 _ | exact hbb2 _) (by first | exact hbb1 _ | exact hbb2 _) (by decide) (fun c78 => ?_) (fun c78 => ?_)
                  · skip
                    refine A_iincN (k' := 1) hg dX7_hasMovesOf_83 (by decide) rfl (by decide) (q_c1d rfl) ?_
                    refine A_eq (ls2 := [some (.ref (q_h G + rb)), some (.ref (q_h G + r2)), some (.int (nI (i + 1)))]) (st2 := []) (pc2 := 0) rfl rfl ?_
                    refine A_goto (tgt := 49) hg dX7_hasMovesOf_86 (by decide) ?_
                    exact ih49 (i + 1) (by omega) (lt_s hno c78) (by omega)
                  · skip
                    refine A_iconst (v := (nI (0))) hg dX7_hasMovesOf_81 (by decide) ?_
                    rw [hQ]
                    exact A_zreturn hg (by decide) (by decide) rfl rfl dX7_hasMovesOf_82 ⟨rfl, ⟨rfl, (q_rf (decide_eq_false (by rintro ⟨h1, h2, h3, h4, h5⟩; exact c78 (h5 i (by omega)))))⟩⟩
          exact hL49 _ 0 (Nat.zero_le _) (fun j h => absurd h (Nat.not_lt_zero j)) (Nat.lt_succ_self _)
        · skip
          refine A_iconst (v := (nI (0))) hg dX7_hasMovesOf_45 (by decide) ?_
          rw [hQ]
          exact A_zreturn hg (by decide) (by decide) rfl rfl dX7_hasMovesOf_46 ⟨rfl, ⟨rfl, (q_rf (decide_eq_false (by rintro ⟨h1, h2, h3, h4, -⟩; first | exact c9 h1 | omega)))⟩⟩
end
