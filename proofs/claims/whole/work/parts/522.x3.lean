section
set_option maxRecDepth 100000 in
set_option maxHeartbeats 4000000 in
theorem c_X7_copyFrom (G : GL) (ex : Bool) (n : Nat) (σ : Nat → va_E) (rb : Nat) (nm : Nat) (on : Nat) (sl : Nat) (mo : Nat) (nb : Nat) (bm : Nat → Nat) (r2 : Nat) (nm2 : Nat) (on2 : Nat) (sl2 : Nat) (mo2 : Nat) (nb2 : Nat) (bm2 : Nat → Nat) (hc0 : σ rb = o7 G (rb) (lN (nm)) (lN (on)) (nI (sl)) (nI (mo)) (nI (nb))) (hc1 : σ (rb + 1) = q_an G 5 bm) (hc2 : σ r2 = o7 G (r2) (lN (nm2)) (lN (on2)) (nI (sl2)) (nI (mo2)) (nI (nb2))) (hc3 : σ (r2 + 1) = q_an G 5 bm2) (hrb : rb + 1 < n) (hr2 : r2 + 1 < n) (hap : rb + 1 < r2 ∨ r2 + 1 < rb) : Ct G yX7_copyFrom cX7_copyFrom 2 none ⟨1, 0, 0, 30⟩ [.ref (q_h G + rb), .ref (q_h G + r2)] ex n σ (fun v9 σ2 => v9 = none ∧ σ2 rb = o7 G (rb) (lN (nm2)) (lN (on2)) (nI (sl2)) (nI (mo2)) (nI (nb2)) ∧ σ2 (rb + 1) = q_an G 5 bm2 ∧ (∀ i : Nat, i ≠ rb ∧ i ≠ rb + 1 → σ2 i = σ i)) := by
  refine q_enter [some (.ref (q_h G + rb)), some (.ref (q_h G + r2))] (by decide) (Nat.le_of_ble_eq_true rfl) rfl ?_
  intro K hg
  obtain ⟨Q, hQ⟩ : ∃ Q, Q = q_Q G K ex n 0 0 (fun v9 n' σ' => n' = n ∧ (fun v9 σ2 => v9 = none ∧ σ2 rb = o7 G (rb) (lN (nm2)) (lN (on2)) (nI (sl2)) (nI (mo2)) (nI (nb2)) ∧ σ2 (rb + 1) = q_an G 5 bm2 ∧ (∀ i : Nat, i ≠ rb ∧ i ≠ rb + 1 → σ2 i = σ i)) v9 σ') q_noX := ⟨_, rfl⟩
  refine (?_ : AJ G K (q_Q G K ex n 0 0 _ _) 0 0 ex n 0 _ _ σ)
  rw [← hQ]
  refine A_aload_n hg dX7_copyFrom_0 rfl rfl ?_
  refine A_aload_n hg dX7_copyFrom_1 rfl rfl ?_
  refine A_getf (v := .long (lN (nm2))) hg fl_RX7_9 dX7_copyFrom_2 hc2 (by omega) rfl ?_
  refine A_putf hg fl_RX7_9 dX7_copyFrom_5 hc0 (by omega) (Nat.le_of_ble_eq_true rfl) rfl rfl rfl (fun σ_1 hc_2 hf_3 => ?_)
  have hc_2 : σ_1 rb = o7 G (rb) (lN (nm2)) (lN (on)) (nI (sl)) (nI (mo)) (nI (nb)) := hc_2
  have hc_4 : σ_1 (rb + 1) = q_an G 5 bm := (hf_3 _ (by omega)).trans hc1
  have hc_5 : σ_1 r2 = o7 G (r2) (lN (nm2)) (lN (on2)) (nI (sl2)) (nI (mo2)) (nI (nb2)) := (hf_3 _ (by omega)).trans hc2
  have hc_6 : σ_1 (r2 + 1) = q_an G 5 bm2 := (hf_3 _ (by omega)).trans hc3
  refine A_aload_n hg dX7_copyFrom_8 rfl rfl ?_
  refine A_aload_n hg dX7_copyFrom_9 rfl rfl ?_
  refine A_getf (v := .long (lN (on2))) hg fl_RX7_15 dX7_copyFrom_10 hc_5 (by omega) rfl ?_
  refine A_putf hg fl_RX7_15 dX7_copyFrom_13 hc_2 (by omega) (Nat.le_of_ble_eq_true rfl) rfl rfl rfl (fun σ_7 hc_8 hf_9 => ?_)
  have hc_8 : σ_7 rb = o7 G (rb) (lN (nm2)) (lN (on2)) (nI (sl)) (nI (mo)) (nI (nb)) := hc_8
  have hc_10 : σ_7 (rb + 1) = q_an G 5 bm := (hf_9 _ (by omega)).trans hc_4
  have hc_11 : σ_7 r2 = o7 G (r2) (lN (nm2)) (lN (on2)) (nI (sl2)) (nI (mo2)) (nI (nb2)) := (hf_9 _ (by omega)).trans hc_5
  have hc_12 : σ_7 (r2 + 1) = q_an G 5 bm2 := (hf_9 _ (by omega)).trans hc_6
  refine A_aload_n hg dX7_copyFrom_16 rfl rfl ?_
  refine A_aload_n hg dX7_copyFrom_17 rfl rfl ?_
  refine A_getf (v := .int (nI (sl2))) hg fl_RX7_18 dX7_copyFrom_18 hc_11 (by omega) rfl ?_
  refine A_putf hg fl_RX7_18 dX7_copyFrom_21 hc_8 (by omega) (Nat.le_of_ble_eq_true rfl) rfl rfl rfl (fun σ_13 hc_14 hf_15 => ?_)
  have hc_14 : σ_13 rb = o7 G (rb) (lN (nm2)) (lN (on2)) (nI (sl2)) (nI (mo)) (nI (nb)) := hc_14
  have hc_16 : σ_13 (rb + 1) = q_an G 5 bm := (hf_15 _ (by omega)).trans hc_10
  have hc_17 : σ_13 r2 = o7 G (r2) (lN (nm2)) (lN (on2)) (nI (sl2)) (nI (mo2)) (nI (nb2)) := (hf_15 _ (by omega)).trans hc_11
  have hc_18 : σ_13 (r2 + 1) = q_an G 5 bm2 := (hf_15 _ (by omega)).trans hc_12
  refine A_aload_n hg dX7_copyFrom_24 rfl rfl ?_
  refine A_aload_n hg dX7_copyFrom_25 rfl rfl ?_
  refine A_getf (v := .int (nI (mo2))) hg fl_RX7_22 dX7_copyFrom_26 hc_17 (by omega) rfl ?_
  refine A_putf hg fl_RX7_22 dX7_copyFrom_29 hc_14 (by omega) (Nat.le_of_ble_eq_true rfl) rfl rfl rfl (fun σ_19 hc_20 hf_21 => ?_)
  have hc_20 : σ_19 rb = o7 G (rb) (lN (nm2)) (lN (on2)) (nI (sl2)) (nI (mo2)) (nI (nb)) := hc_20
  have hc_22 : σ_19 (rb + 1) = q_an G 5 bm := (hf_21 _ (by omega)).trans hc_16
  have hc_23 : σ_19 r2 = o7 G (r2) (lN (nm2)) (lN (on2)) (nI (sl2)) (nI (mo2)) (nI (nb2)) := (hf_21 _ (by omega)).trans hc_17
  have hc_24 : σ_19 (r2 + 1) = q_an G 5 bm2 := (hf_21 _ (by omega)).trans hc_18
  refine A_aload_n hg dX7_copyFrom_32 rfl rfl ?_
  refine A_aload_n hg dX7_copyFrom_33 rfl rfl ?_
  refine A_getf (v := .int (nI (nb2))) hg fl_RX7_25 dX7_copyFrom_34 hc_23 (by omega) rfl ?_
  refine A_putf hg fl_RX7_25 dX7_copyFrom_37 hc_20 (by omega) (Nat.le_of_ble_eq_true rfl) rfl rfl rfl (fun σ_25 hc_26 hf_27 => ?_)
  have hc_26 : σ_25 rb = o7 G (rb) (lN (nm2)) (lN (on2)) (nI (sl2)) (nI (mo2)) (nI (nb2)) := hc_26
  have hc_28 : σ_25 (rb + 1) = q_an G 5 bm := (hf_27 _ (by omega)).trans hc_22
  have hc_29 : σ_25 r2 = o7 G (r2) (lN (nm2)) (lN (on2)) (nI (sl2)) (nI (mo2)) (nI (nb2)) := (hf_27 _ (by omega)).trans hc_23
  have hc_30 : σ_25 (r2 + 1) = q_an G 5 bm2 := (hf_27 _ (by omega)).trans hc_24
  refine A_aload_n hg dX7_copyFrom_40 rfl rfl ?_
  refine A_getf (v := .ref (q_h G + (r2 + 1))) hg fl_RX7_28 dX7_copyFrom_41 hc_29 (by omega) rfl ?_
  refine A_iconst (v := (nI (0))) hg dX7_copyFrom_44 (by decide) ?_
  refine A_aload_n hg dX7_copyFrom_45 rfl rfl ?_
  refine A_getf (v := .ref (q_h G + (rb + 1))) hg fl_RX7_28 dX7_copyFrom_46 hc_26 (by omega) rfl ?_
  refine A_iconst (v := (nI (0))) hg dX7_copyFrom_49 (by decide) ?_
  refine A_aload_n hg dX7_copyFrom_50 rfl rfl ?_
  refine A_getf (v := .ref (q_h G + (rb + 1))) hg fl_RX7_28 dX7_copyFrom_51 hc_26 (by omega) rfl ?_
  refine A_alen (t := 0) (len := 5) hg dX7_copyFrom_54 hc_28 (by decide) (by omega) ?_
  refine A_copy (x := 0) (y := 0) (z := 5) hg (q_mt 631 (by decide +kernel)) (q_mt 633 (by decide +kernel)) (q_mt 632 (by decide +kernel)) (q_mt 19 (by decide +kernel)) dX7_copyFrom_55 ⟨by decide, by decide⟩ (Nat.le_of_ble_eq_true rfl) hc_30 hc_28 (by omega) (by omega) (by omega) (by omega) (by decide) (by decide) (by decide) (fun σ_31 hc_32 hf_33 => ?_)
  have hc_34 : σ_31 r2 = o7 G (r2) (lN (nm2)) (lN (on2)) (nI (sl2)) (nI (mo2)) (nI (nb2)) := (hf_33 _ (by omega)).trans hc_29
  have hc_35 : σ_31 (r2 + 1) = q_an G 5 bm2 := (hf_33 _ (by omega)).trans hc_30
  have hc_36 : σ_31 rb = o7 G (rb) (lN (nm2)) (lN (on2)) (nI (sl2)) (nI (mo2)) (nI (nb2)) := (hf_33 _ (by omega)).trans hc_26
  refine A_canon bm2 hc_32 (fun jj hj => by unfold va_cpy; rw [if_pos (by omega)]; congr 1; omega) (fun σ_37 hc_38 hf_39 => ?_)
  have hc_40 : σ_37 r2 = o7 G (r2) (lN (nm2)) (lN (on2)) (nI (sl2)) (nI (mo2)) (nI (nb2)) := (hf_39 _ (by omega)).trans hc_34
  have hc_41 : σ_37 (r2 + 1) = q_an G 5 bm2 := (hf_39 _ (by omega)).trans hc_35
  have hc_42 : σ_37 rb = o7 G (rb) (lN (nm2)) (lN (on2)) (nI (sl2)) (nI (mo2)) (nI (nb2)) := (hf_39 _ (by omega)).trans hc_36
  rw [hQ]
  exact A_return hg (by decide) (by decide) rfl dX7_copyFrom_58 ⟨rfl, ⟨rfl, hc_42, hc_38, (fun i hi => ((hf_39 i (by omega)).trans ((hf_33 i (by omega)).trans ((hf_27 i (by omega)).trans ((hf_21 i (by omega)).trans ((hf_15 i (by omega)).trans ((hf_9 i (by omega)).trans (hf_3 i (by omega)))))))))⟩⟩
set_option maxRecDepth 100000 in
set_option maxHeartbeats 4000000 in
theorem c_X7_hasMovesOf (G : GL) (ex : Bool) (n : Nat) (σ : Nat → va_E) (rb : Nat) (nm : Nat) (on : Nat) (sl : Nat) (mo : Nat) (nb : Nat) (bm : Nat → Nat) (r2 : Nat) (nm2 : Nat) (on2 : Nat) (sl2 : Nat) (mo2 : Nat) (nb2 : Nat) (bm2 : Nat → Nat) (hc0 : σ rb = o7 G (rb) (lN (nm)) (lN (on)) (nI (sl)) (nI (mo)) (nI (nb))) (hc1 : σ (rb + 1) = q_an G 5 bm) (hc2 : σ r2 = o7 G (r2) (lN (nm2)) (lN (on2)) (nI (sl2)) (nI (mo2)) (nI (nb2))) (hc3 : σ (r2 + 1) = q_an G 5 bm2) (hrb : rb + 1 < n) (hr2 : r2 + 1 < n) (hap : rb + 1 < r2 ∨ r2 + 1 < rb) (hon9 : on < 2 ^ 41) (hon2 : on2 < 2 ^ 41) (hnb : nb ≤ 5) (hsb : sl < 2 ^ 31 ∧ sl2 < 2 ^ 31 ∧ mo < 2 ^ 31 ∧ mo2 < 2 ^ 31 ∧ nb2 < 2 ^ 31) (hbb1 : ∀ i : Nat, i < nb → bm i < 2 ^ 31) (hbb2 : ∀ i : Nat, i < nb2 → bm2 i < 2 ^ 31) : Ct G yX7_hasMovesOf cX7_hasMovesOf 3 (some .boolean) ⟨0, 0, 0, 0⟩ [.ref (q_h G + rb), .ref (q_h G + r2)] ex n σ (fun v9 σ2 => σ2 = σ ∧ v9 = some (.int (q_b (x_eqm on sl mo nb bm on2 sl2 mo2 nb2 bm2)))) := by
  refine q_enter [some (.ref (q_h G + rb)), some (.ref (q_h G + r2)), none] (by decide) (Nat.le_of_ble_eq_true rfl) rfl ?_
  intro K hg
  obtain ⟨Q, hQ⟩ : ∃ Q, Q = q_Q G K ex n 0 0 (fun v9 n' σ' => n' = n ∧ (fun v9 σ2 => σ2 = σ ∧ v9 = some (.int (q_b (x_eqm on sl mo nb bm on2 sl2 mo2 nb2 bm2)))) v9 σ') q_noX := ⟨_, rfl⟩
  refine (?_ : AJ G K (q_Q G K ex n 0 0 _ _) 0 0 ex n 0 _ _ σ)
  rw [← hQ]
  refine A_aload_n hg dX7_hasMovesOf_0 rfl rfl ?_
  refine A_getf (v := .long (lN (on))) hg fl_RX7_15 dX7_hasMovesOf_1 hc0 (by omega) rfl ?_
  refine A_aload_n hg dX7_hasMovesOf_4 rfl rfl ?_
  refine A_getf (v := .long (lN (on2))) hg fl_RX7_15 dX7_hasMovesOf_5 hc2 (by omega) rfl ?_
  refine A_lcmp hg dX7_hasMovesOf_8 ?_
  refine A_lc_ne (tgt := 45) hg dX7_hasMovesOf_9 (Nat.lt_of_lt_of_le hon9 (by decide)) (Nat.lt_of_lt_of_le hon2 (by decide)) (by decide) (fun c9 => ?_) (fun c9 => ?_)
  · skip
    refine A_iconst (v := (nI (0))) hg dX7_hasMovesOf_45 (by decide) ?_
    rw [hQ]
    exact A_zreturn hg (by decide) (by decide) rfl rfl dX7_hasMovesOf_46 ⟨rfl, ⟨rfl, (q_rf (decide_eq_false (by rintro ⟨h1, h2, h3, h4, -⟩; first | exact c9 h1 | omega)))⟩⟩
  · skip
    refine A_aload_n hg dX7_hasMovesOf_12 rfl rfl ?_
    refine A_getf (v := .int (nI (sl))) hg fl_RX7_18 dX7_hasMovesOf_13 hc0 (by omega) rfl ?_
    refine A_aload_n hg dX7_hasMovesOf_16 rfl rfl ?_
    refine A_getf (v := .int (nI (sl2))) hg fl_RX7_18 dX7_hasMovesOf_17 hc2 (by omega) rfl ?_
    refine A_icmp_neN (tgt := 45) hg dX7_hasMovesOf_20 (by omega) (by omega) (by decide) (fun c20 => ?_) (fun c20 => ?_)
    · skip
      refine A_iconst (v := (nI (0))) hg dX7_hasMovesOf_45 (by decide) ?_
      rw [hQ]
      exact A_zreturn hg (by decide) (by decide) rfl rfl dX7_hasMovesOf_46 ⟨rfl, ⟨rfl, (q_rf (decide_eq_false (by rintro ⟨h1, h2, h3, h4, -⟩; first | exact c9 h1 | omega)))⟩⟩
    · skip
      refine A_aload_n hg dX7_hasMovesOf_23 rfl rfl ?_
      refine A_getf (v := .int (nI (mo))) hg fl_RX7_22 dX7_hasMovesOf_24 hc0 (by omega) rfl ?_
      refine A_aload_n hg dX7_hasMovesOf_27 rfl rfl ?_
      refine A_getf (v := .int (nI (mo2))) hg fl_RX7_22 dX7_hasMovesOf_28 hc2 (by omega) rfl ?_
      refine A_icmp_neN (tgt := 45) hg dX7_hasMovesOf_31 (by omega) (by omega) (by decide) (fun c31 => ?_) (fun c31 => ?_)
      · skip
        refine A_iconst (v := (nI (0))) hg dX7_hasMovesOf_45 (by decide) ?_
        rw [hQ]
        exact A_zreturn hg (by decide) (by decide) rfl rfl dX7_hasMovesOf_46 ⟨rfl, ⟨rfl, (q_rf (decide_eq_false (by rintro ⟨h1, h2, h3, h4, -⟩; first | exact c9 h1 | omega)))⟩⟩
      · skip
        refine A_aload_n hg dX7_hasMovesOf_34 rfl rfl ?_
        refine A_getf (v := .int (nI (nb))) hg fl_RX7_25 dX7_hasMovesOf_35 hc0 (by omega) rfl ?_
        refine A_aload_n hg dX7_hasMovesOf_38 rfl rfl ?_
        refine A_getf (v := .int (nI (nb2))) hg fl_RX7_25 dX7_hasMovesOf_39 hc2 (by omega) rfl ?_
        refine A_icmp_eqN (tgt := 47) hg dX7_hasMovesOf_42 (by omega) (by omega) (by decide) (fun c42 => ?_) (fun c42 => ?_)
        · skip
          refine A_iconst (v := (nI (0))) hg dX7_hasMovesOf_47 (by decide) ?_
          refine A_istore_n hg dX7_hasMovesOf_48 rfl (by decide) (q_c1d rfl) ?_
          refine A_eq (ls2 := [some (.ref (q_h G + rb)), some (.ref (q_h G + r2)), some (.int (nI (0)))]) (st2 := []) (pc2 := 0) rfl rfl ?_
          have hL49 : ∀ (fu : Nat) (i : Nat), (i ≤ nb) → (∀ j : Nat, j < i → bm j = bm2 j) → (nb - i) < fu → AJ G K Q 0 0 ex n 49 [some (.ref (q_h G + rb)), some (.ref (q_h G + r2)), some (.int (nI (i)))] [] σ := by
            intro fu
            induction fu with
            | zero => intro i hi hno hm; exact absurd hm (Nat.not_lt_zero _)
            | succ fu ih49 =>
              intro i hi hno hm49
              refine A_iload_n hg dX7_hasMovesOf_49 rfl rfl ?_
              refine A_aload_n hg dX7_hasMovesOf_50 rfl rfl ?_
              refine A_getf (v := .int (nI (nb))) hg fl_RX7_25 dX7_hasMovesOf_51 hc0 (by omega) rfl ?_
              refine A_icmp_geN (tgt := 89) hg dX7_hasMovesOf_54 (by omega) (by omega) (by decide) (fun c54 => ?_) (fun c54 => ?_)
              · skip
                refine A_iconst (v := (nI (1))) hg dX7_hasMovesOf_89 (by decide) ?_
                rw [hQ]
                exact A_zreturn hg (by decide) (by decide) rfl rfl dX7_hasMovesOf_90 ⟨rfl, ⟨rfl, (q_rt (decide_eq_true ⟨c9, by omega, by omega, by omega, fun j hj => hno j (by omega)⟩))⟩⟩
              · skip
                refine A_iload_n hg dX7_hasMovesOf_57 rfl rfl ?_
                refine A_aload_n hg dX7_hasMovesOf_58 rfl rfl ?_
                refine A_getf (v := .ref (q_h G + (rb + 1))) hg fl_RX7_28 dX7_hasMovesOf_59 hc0 (by omega) rfl ?_
                refine A_alen (t := 0) (len := 5) hg dX7_hasMovesOf_62 hc1 (by decide) (by omega) ?_
                refine A_icmp_geN (tgt := 89) hg dX7_hasMovesOf_63 (by omega) (by decide) (by decide) (fun c63 => ?_) (fun c63 => ?_)
                · skip
                  refine A_iconst (v := (nI (1))) hg dX7_hasMovesOf_89 (by decide) ?_
                  rw [hQ]
                  exact A_zreturn hg (by decide) (by decide) rfl rfl dX7_hasMovesOf_90 ⟨rfl, ⟨rfl, (q_rt (decide_eq_true ⟨c9, by omega, by omega, by omega, fun j hj => hno j (by omega)⟩))⟩⟩
                · skip
                  refine A_aload_n hg dX7_hasMovesOf_66 rfl rfl ?_
                  refine A_getf (v := .ref (q_h G + (rb + 1))) hg fl_RX7_28 dX7_hasMovesOf_67 hc0 (by omega) rfl ?_
                  refine A_iload_n hg dX7_hasMovesOf_70 rfl rfl ?_
                  refine A_iald (j := i) hg dX7_hasMovesOf_71 hc1 (by omega) (by omega) (by decide) ?_
                  refine A_aload_n hg dX7_hasMovesOf_72 rfl rfl ?_
                  refine A_getf (v := .ref (q_h G + (r2 + 1))) hg fl_RX7_28 dX7_hasMovesOf_73 hc2 (by omega) rfl ?_
                  refine A_iload_n hg dX7_hasMovesOf_76 rfl rfl ?_
                  refine A_iald (j := i) hg dX7_hasMovesOf_77 hc3 (by omega) (by omega) (by decide) ?_
                  refine A_icmp_eqN (tgt := 83) hg dX7_hasMovesOf_78 (by first | exact hbb1 _ (by omega) | exact hbb2 _ (by omega)) (by first | exact hbb1 _ (by omega) | exact hbb2 _ (by omega)) (by decide) (fun c78 => ?_) (fun c78 => ?_)
                  · skip
                    refine A_iincN (k' := 1) hg dX7_hasMovesOf_83 (by decide) rfl (by decide) (q_c1d rfl) ?_
                    refine A_eq (ls2 := [some (.ref (q_h G + rb)), some (.ref (q_h G + r2)), some (.int (nI (i + 1)))]) (st2 := []) (pc2 := 0) rfl rfl ?_
                    refine A_goto (tgt := 49) hg dX7_hasMovesOf_86 (by decide) ?_
                    exact ih49 (i + 1) (by omega) (lt_s hno c78) (by omega)
                  · skip
                    refine A_iconst (v := (nI (0))) hg dX7_hasMovesOf_81 (by decide) ?_
                    rw [hQ]
                    exact A_zreturn hg (by decide) (by decide) rfl rfl dX7_hasMovesOf_82 ⟨rfl, ⟨rfl, (q_rf (decide_eq_false (by rintro ⟨h1, h2, h3, h4, h5⟩; exact c78 (h5 i (by omega)))))⟩⟩
          exact hL49 _ 0 (Nat.zero_le _) (fun j h => absurd h (Nat.not_lt_zero j)) (Nat.lt_succ_self _)
        · skip
          refine A_iconst (v := (nI (0))) hg dX7_hasMovesOf_45 (by decide) ?_
          rw [hQ]
          exact A_zreturn hg (by decide) (by decide) rfl rfl dX7_hasMovesOf_46 ⟨rfl, ⟨rfl, (q_rf (decide_eq_false (by rintro ⟨h1, h2, h3, h4, -⟩; first | exact c9 h1 | omega)))⟩⟩
set_option maxRecDepth 100000 in
set_option maxHeartbeats 4000000 in
theorem c_X7_setBarred (G : GL) (ex : Bool) (n : Nat) (σ : Nat → va_E) (rb : Nat) (u : Nat → Nat) (nm : Nat) (on : Nat) (bm : Nat → Nat) (k : Nat) (l : Nat) (s : Bool) (hc0 : σ rb = o7 G (rb) (lN (nm)) (lN (on)) (nI (u 18)) (nI (u 19)) (nI (u 20))) (hc1 : σ (rb + 1) = q_an G 5 bm) (hrb : rb + 1 < n) (hw : x_w u) (hon : x_on u on) (hbm : x_bm u bm) (hk : k ≤ 40) (hl : l ≤ 40) : Ct G yX7_setBarred cX7_setBarred 6 none ⟨1, 0, 0, 23⟩ [.ref (q_h G + rb), .int (nI (k)), .int (nI (l)), .int (q_b (s))] ex n σ (fun v9 σ2 => (v9 = none ∧ ((s = true ∧ (s_barred u k l = true ∨ u 20 = 5)) ∨ (s = false ∧ s_barred u k l = false)) ∧ σ2 = σ) ∨ (v9 = none ∧ (s = true) ∧ (s_barred u k l = false) ∧ (u 20 < 5) ∧ σ2 rb = o7 G (rb) (lN (nm)) (lN (on)) (nI (u 18)) (nI (u 19)) (nI (u 20 + 1)) ∧ σ2 (rb + 1) = q_an G 5 (va_up bm (u 20) (k * 41 + l)) ∧ (∀ i : Nat, i ≠ rb ∧ i ≠ rb + 1 → σ2 i = σ i)) ∨ (v9 = none ∧ (s = false) ∧ (s_barred u k l = true) ∧ σ2 rb = o7 G (rb) (lN (nm)) (lN (on)) (nI (u 18)) (nI (u 19)) (nI (u 20 - 1)) ∧ σ2 (rb + 1) = q_an G 5 (x_shl bm (s_bar u k l) (u 20 - 1)) ∧ (∀ i : Nat, i ≠ rb ∧ i ≠ rb + 1 → σ2 i = σ i))) := by
  refine q_enter [some (.ref (q_h G + rb)), some (.int (nI (k))), some (.int (nI (l))), some (.int (q_b (s))), none, none] (by decide) (Nat.le_of_ble_eq_true rfl) rfl ?_
  intro K hg
  obtain ⟨Q, hQ⟩ : ∃ Q, Q = q_Q G K ex n 0 0 (fun v9 n' σ' => n' = n ∧ (fun v9 σ2 => (v9 = none ∧ ((s = true ∧ (s_barred u k l = true ∨ u 20 = 5)) ∨ (s = false ∧ s_barred u k l = false)) ∧ σ2 = σ) ∨ (v9 = none ∧ (s = true) ∧ (s_barred u k l = false) ∧ (u 20 < 5) ∧ σ2 rb = o7 G (rb) (lN (nm)) (lN (on)) (nI (u 18)) (nI (u 19)) (nI (u 20 + 1)) ∧ σ2 (rb + 1) = q_an G 5 (va_up bm (u 20) (k * 41 + l)) ∧ (∀ i : Nat, i ≠ rb ∧ i ≠ rb + 1 → σ2 i = σ i)) ∨ (v9 = none ∧ (s = false) ∧ (s_barred u k l = true) ∧ σ2 rb = o7 G (rb) (lN (nm)) (lN (on)) (nI (u 18)) (nI (u 19)) (nI (u 20 - 1)) ∧ σ2 (rb + 1) = q_an G 5 (x_shl bm (s_bar u k l) (u 20 - 1)) ∧ (∀ i : Nat, i ≠ rb ∧ i ≠ rb + 1 → σ2 i = σ i))) v9 σ') q_noX := ⟨_, rfl⟩
  refine (?_ : AJ G K (q_Q G K ex n 0 0 _ _) 0 0 ex n 0 _ _ σ)
  rw [← hQ]
  have hw9 := hw.1
  have hw18 := hw.2.1
  have hw19 := hw.2.2.1
  have hw20 := hw.2.2.2.1
  refine A_aload_n hg dX7_setBarred_0 rfl rfl ?_
  refine A_iload_n hg dX7_setBarred_1 rfl rfl ?_
  refine A_iload_n hg dX7_setBarred_2 rfl rfl ?_
  refine A_eV (kc2 := 0) (ks2 := 0) (As := [.int (nI (k)), .int (nI (l))]) (rest := []) hg lk_RX7_42 in_X7_placeOfBar se_X7_placeOfBar rfl dX7_setBarred_3 ⟨by decide, by decide⟩ rfl rfl ⟨by decide, by decide⟩ hc0 (by omega) rfl rfl (Nat.le_of_ble_eq_true rfl) (c_X7_placeOfBar G ex n σ rb u nm on bm k l hc0 hc1 (by omega) hw hon hbm (by omega) (by omega)) ?_
  refine A_istore hg dX7_setBarred_6 (by decide) (q_c1d rfl) ?_
  refine A_eq (ls2 := [some (.ref (q_h G + rb)), some (.int (nI (k))), some (.int (nI (l))), some (.int (q_b (s))), some (.int (q_d (if s_barred u k l = true then s_bar u k l + 1 else 0))), none]) (st2 := []) (pc2 := 0) rfl rfl ?_
  refine A_iload_n hg dX7_setBarred_8 rfl rfl ?_
  refine A_if_eqB (tgt := 55) hg dX7_setBarred_9 (by decide) (fun c9 => ?_) (fun c9 => ?_)
  · skip
    refine A_iload_n hg dX7_setBarred_55 rfl rfl ?_
    refine A_if_neB (tgt := 124) hg dX7_setBarred_56 (by decide) (fun c56 => absurd (c9.symm.trans c56) (by decide)) (fun c56 => ?_)
    refine A_iload hg dX7_setBarred_59 rfl ?_
    refine A_iconst (v := (q_d (0))) hg dX7_setBarred_61 (by decide) ?_
    refine A_icmp_eqM (tgt := 124) hg dX7_setBarred_62 (by have hq := s_first_le (s_barp u k l) (u 20); split <;> first | omega | (unfold s_bar; omega)) (by decide) (by decide) (fun c62 => ?_) (fun c62 => ?_)
    · skip
      rw [hQ]
      exact A_return hg (by decide) (by decide) rfl dX7_setBarred_124 ⟨rfl, Or.inl (⟨rfl, (by first | exact Or.inr ⟨c9, s_bar_no c62⟩ | exact Or.inl ⟨c9, Or.inl (s_bar_yes c62)⟩ | exact Or.inl ⟨c9, Or.inr (by omega)⟩), rfl⟩)⟩
    · skip
      refine A_iload hg dX7_setBarred_65 rfl ?_
      have hyes := s_bar_yes c62
      have hsbl : s_bar u k l < u 20 := of_decide_eq_true hyes
      have e5 : q_d (if s_barred u k l = true then s_bar u k l + 1 else 0) = nI (s_bar u k l) := by rw [if_pos hyes, q_dS]
      refine A_top (w := .int (nI (s_bar u k l))) (congrArg Value.int e5) ?_
      refine A_istore hg dX7_setBarred_67 (by decide) (q_c1d rfl) ?_
      refine A_eq (ls2 := [some (.ref (q_h G + rb)), some (.int (nI (k))), some (.int (nI (l))), some (.int (q_b (s))), some (.int (q_d (if s_barred u k l = true then s_bar u k l + 1 else 0))), some (.int (nI (s_bar u k l)))]) (st2 := []) (pc2 := 0) rfl rfl ?_
      refine A_canon (x_shl bm (s_bar u k l) (s_bar u k l)) hc1 (fun jj _ => x_shl_0 bm _ jj) (fun σ_1 hc_2 hf_3 => ?_)
      have hc_4 : σ_1 rb = o7 G (rb) (lN (nm)) (lN (on)) (nI (u 18)) (nI (u 19)) (nI (u 20)) := (hf_3 _ (by omega)).trans hc0
      have hL69 : ∀ (fu : Nat) (i : Nat) (σ_5 : Nat → va_E), (σ_5 rb = o7 G (rb) (lN (nm)) (lN (on)) (nI (u 18)) (nI (u 19)) (nI (u 20))) → (σ_5 (rb + 1) = q_an G 5 (x_shl bm (s_bar u k l) i)) → (∀ i : Nat, i ≠ rb ∧ i ≠ rb + 1 → σ_5 i = σ i) → (s_bar u k l ≤ i ∧ i + 1 ≤ u 20) → (u 20 - i) < fu → AJ G K Q 0 0 ex n 69 [some (.ref (q_h G + rb)), some (.int (nI (k))), some (.int (nI (l))), some (.int (q_b (s))), some (.int (q_d (if s_barred u k l = true then s_bar u k l + 1 else 0))), some (.int (nI (i)))] [] σ_5 := by
        intro fu
        induction fu with
        | zero => intro i σ_5 hc_6 hc_7 hf_8 hi hm; exact absurd hm (Nat.not_lt_zero _)
        | succ fu ih69 =>
          intro i σ_5 hc_6 hc_7 hf_8 hi hm69
          refine A_iload hg dX7_setBarred_69 rfl ?_
          refine A_iconst (v := (nI (1))) hg dX7_setBarred_71 (by decide) ?_
          refine A_iaddN hg dX7_setBarred_72 ?_
          refine A_aload_n hg dX7_setBarred_73 rfl rfl ?_
          refine A_getf (v := .int (nI (u 20))) hg fl_RX7_25 dX7_setBarred_74 hc_6 (by omega) rfl ?_
          refine A_icmp_geN (tgt := 114) hg dX7_setBarred_77 (by omega) (by omega) (by decide) (fun c77 => ?_) (fun c77 => ?_)
          · skip
            refine A_canon (x_shl bm (s_bar u k l) (u 20 - 1)) hc_7 (fun jj _ => by rw [show i = u 20 - 1 by omega]) (fun σ_9 hc_10 hf_11 => ?_)
            have hc_12 : σ_9 rb = o7 G (rb) (lN (nm)) (lN (on)) (nI (u 18)) (nI (u 19)) (nI (u 20)) := (hf_11 _ (by omega)).trans hc_6
            refine A_aload_n hg dX7_setBarred_114 rfl rfl ?_
            refine A_dup hg dX7_setBarred_115 rfl ?_
            refine A_getf (v := .int (nI (u 20))) hg fl_RX7_25 dX7_setBarred_116 hc_12 (by omega) rfl ?_
            refine A_iconst (v := (nI (1))) hg dX7_setBarred_119 (by decide) ?_
            refine A_isubN hg dX7_setBarred_120 (by omega) ?_
            refine A_putf hg fl_RX7_25 dX7_setBarred_121 hc_12 (by omega) (Nat.le_of_ble_eq_true rfl) rfl rfl rfl (fun σ_13 hc_14 hf_15 => ?_)
            have hc_14 : σ_13 rb = o7 G (rb) (lN (nm)) (lN (on)) (nI (u 18)) (nI (u 19)) (nI ((u 20) - 1)) := hc_14
            have hc_16 : σ_13 (rb + 1) = q_an G 5 (x_shl bm (s_bar u k l) (u 20 - 1)) := (hf_15 _ (by omega)).trans hc_10
            rw [hQ]
            exact A_return hg (by decide) (by decide) rfl dX7_setBarred_124 ⟨rfl, Or.inr (Or.inr ((⟨rfl, c9, hyes, hc_14, hc_16, (fun i hi => ((hf_15 i (by omega)).trans ((hf_11 i (by omega)).trans (hf_8 i (by omega)))))⟩)))⟩
          · skip
            refine A_iload hg dX7_setBarred_80 rfl ?_
            refine A_iconst (v := (nI (1))) hg dX7_setBarred_82 (by decide) ?_
            refine A_iaddN hg dX7_setBarred_83 ?_
            refine A_aload_n hg dX7_setBarred_84 rfl rfl ?_
            refine A_getf (v := .ref (q_h G + (rb + 1))) hg fl_RX7_28 dX7_setBarred_85 hc_6 (by omega) rfl ?_
            refine A_alen (t := 0) (len := 5) hg dX7_setBarred_88 hc_7 (by decide) (by omega) ?_
            refine A_icmp_geN (tgt := 114) hg dX7_setBarred_89 (by omega) (by decide) (by decide) (fun c89 => ?_) (fun c89 => ?_)
            · skip
              refine A_canon (x_shl bm (s_bar u k l) (u 20 - 1)) hc_7 (fun jj _ => by rw [show i = u 20 - 1 by omega]) (fun σ_17 hc_18 hf_19 => ?_)
              have hc_20 : σ_17 rb = o7 G (rb) (lN (nm)) (lN (on)) (nI (u 18)) (nI (u 19)) (nI (u 20)) := (hf_19 _ (by omega)).trans hc_6
              refine A_aload_n hg dX7_setBarred_114 rfl rfl ?_
              refine A_dup hg dX7_setBarred_115 rfl ?_
              refine A_getf (v := .int (nI (u 20))) hg fl_RX7_25 dX7_setBarred_116 hc_20 (by omega) rfl ?_
              refine A_iconst (v := (nI (1))) hg dX7_setBarred_119 (by decide) ?_
              refine A_isubN hg dX7_setBarred_120 (by omega) ?_
              refine A_putf hg fl_RX7_25 dX7_setBarred_121 hc_20 (by omega) (Nat.le_of_ble_eq_true rfl) rfl rfl rfl (fun σ_21 hc_22 hf_23 => ?_)
              have hc_22 : σ_21 rb = o7 G (rb) (lN (nm)) (lN (on)) (nI (u 18)) (nI (u 19)) (nI ((u 20) - 1)) := hc_22
              have hc_24 : σ_21 (rb + 1) = q_an G 5 (x_shl bm (s_bar u k l) (u 20 - 1)) := (hf_23 _ (by omega)).trans hc_18
              rw [hQ]
              exact A_return hg (by decide) (by decide) rfl dX7_setBarred_124 ⟨rfl, Or.inr (Or.inr ((⟨rfl, c9, hyes, hc_22, hc_24, (fun i hi => ((hf_23 i (by omega)).trans ((hf_19 i (by omega)).trans (hf_8 i (by omega)))))⟩)))⟩
            · skip
              refine A_aload_n hg dX7_setBarred_92 rfl rfl ?_
              refine A_getf (v := .ref (q_h G + (rb + 1))) hg fl_RX7_28 dX7_setBarred_93 hc_6 (by omega) rfl ?_
              refine A_iload hg dX7_setBarred_96 rfl ?_
              refine A_aload_n hg dX7_setBarred_98 rfl rfl ?_
              refine A_getf (v := .ref (q_h G + (rb + 1))) hg fl_RX7_28 dX7_setBarred_99 hc_6 (by omega) rfl ?_
              refine A_iload hg dX7_setBarred_102 rfl ?_
              refine A_iconst (v := (nI (1))) hg dX7_setBarred_104 (by decide) ?_
              refine A_iaddN hg dX7_setBarred_105 ?_
              refine A_iald (j := (i + 1)) hg dX7_setBarred_106 hc_7 (by omega) (by omega) (by decide) ?_
              refine A_iast (j := i) (x := ((x_shl bm (s_bar u k l) i) (i + 1))) hg dX7_setBarred_107 hc_7 (by omega) (by omega) (by decide) (fun σ_25 hc_26 hf_27 => ?_)
              have hc_28 : σ_25 rb = o7 G (rb) (lN (nm)) (lN (on)) (nI (u 18)) (nI (u 19)) (nI (u 20)) := (hf_27 _ (by omega)).trans hc_6
              refine A_canon (x_shl bm (s_bar u k l) (i + 1)) hc_26 (fun jj _ => x_shl_s bm _ i jj hi.1) (fun σ_29 hc_30 hf_31 => ?_)
              have hc_32 : σ_29 rb = o7 G (rb) (lN (nm)) (lN (on)) (nI (u 18)) (nI (u 19)) (nI (u 20)) := (hf_31 _ (by omega)).trans hc_28
              refine A_iincN (k' := 1) hg dX7_setBarred_108 (by decide) rfl (by decide) (q_c1d rfl) ?_
              refine A_eq (ls2 := [some (.ref (q_h G + rb)), some (.int (nI (k))), some (.int (nI (l))), some (.int (q_b (s))), some (.int (q_d (if s_barred u k l = true then s_bar u k l + 1 else 0))), some (.int (nI (i + 1)))]) (st2 := []) (pc2 := 0) rfl rfl ?_
              refine A_goto (tgt := 69) hg dX7_setBarred_111 (by decide) ?_
              exact ih69 (i + 1) σ_29 hc_32 hc_30 (fun i hi => ((hf_31 i (by omega)).trans ((hf_27 i (by omega)).trans (hf_8 i (by omega))))) (by omega) (by omega)
      exact hL69 _ (s_bar u k l) σ_1 hc_4 hc_2 (fun i hi => (hf_3 i (by omega))) (⟨Nat.le_refl _, hsbl⟩) (Nat.lt_succ_self _)
  · skip
    refine A_iload hg dX7_setBarred_12 rfl ?_
    refine A_iconst (v := (q_d (0))) hg dX7_setBarred_14 (by decide) ?_
    refine A_icmp_neM (tgt := 55) hg dX7_setBarred_15 (by have hq := s_first_le (s_barp u k l) (u 20); split <;> first | omega | (unfold s_bar; omega)) (by decide) (by decide) (fun c15 => ?_) (fun c15 => ?_)
    · skip
      refine A_iload_n hg dX7_setBarred_55 rfl rfl ?_
      refine A_if_neB (tgt := 124) hg dX7_setBarred_56 (by decide) (fun c56 => ?_) (fun c56 => absurd (c9.symm.trans c56) (by decide))
      rw [hQ]
      exact A_return hg (by decide) (by decide) rfl dX7_setBarred_124 ⟨rfl, Or.inl (⟨rfl, (by first | exact Or.inr ⟨c9, s_bar_no c15⟩ | exact Or.inl ⟨c9, Or.inl (s_bar_yes c15)⟩ | exact Or.inl ⟨c9, Or.inr (by omega)⟩), rfl⟩)⟩
    · skip
      refine A_aload_n hg dX7_setBarred_18 rfl rfl ?_
      refine A_getf (v := .int (nI (u 20))) hg fl_RX7_25 dX7_setBarred_19 hc0 (by omega) rfl ?_
      refine A_aload_n hg dX7_setBarred_22 rfl rfl ?_
      refine A_getf (v := .ref (q_h G + (rb + 1))) hg fl_RX7_28 dX7_setBarred_23 hc0 (by omega) rfl ?_
      refine A_alen (t := 0) (len := 5) hg dX7_setBarred_26 hc1 (by decide) (by omega) ?_
      refine A_icmp_geN (tgt := 55) hg dX7_setBarred_27 (by omega) (by decide) (by decide) (fun c27 => ?_) (fun c27 => ?_)
      · skip
        refine A_iload_n hg dX7_setBarred_55 rfl rfl ?_
        refine A_if_neB (tgt := 124) hg dX7_setBarred_56 (by decide) (fun c56 => ?_) (fun c56 => absurd (c9.symm.trans c56) (by decide))
        rw [hQ]
        exact A_return hg (by decide) (by decide) rfl dX7_setBarred_124 ⟨rfl, Or.inl (⟨rfl, (by first | exact Or.inr ⟨c9, s_bar_no c15⟩ | exact Or.inl ⟨c9, Or.inl (s_bar_yes c15)⟩ | exact Or.inl ⟨c9, Or.inr (by omega)⟩), rfl⟩)⟩
      · skip
        refine A_aload_n hg dX7_setBarred_30 rfl rfl ?_
        refine A_getf (v := .ref (q_h G + (rb + 1))) hg fl_RX7_28 dX7_setBarred_31 hc0 (by omega) rfl ?_
        refine A_aload_n hg dX7_setBarred_34 rfl rfl ?_
        refine A_getf (v := .int (nI (u 20))) hg fl_RX7_25 dX7_setBarred_35 hc0 (by omega) rfl ?_
        refine A_iload_n hg dX7_setBarred_38 rfl rfl ?_
        refine A_bipush (v := (nI (41))) hg dX7_setBarred_39 (by decide) ?_
        refine A_imulN hg dX7_setBarred_41 ?_
        refine A_iload_n hg dX7_setBarred_42 rfl rfl ?_
        refine A_iaddN hg dX7_setBarred_43 ?_
        refine A_iast (j := (u 20)) (x := ((k * 41) + l)) hg dX7_setBarred_44 hc1 (by omega) (by omega) (by decide) (fun σ_33 hc_34 hf_35 => ?_)
        have hc_36 : σ_33 rb = o7 G (rb) (lN (nm)) (lN (on)) (nI (u 18)) (nI (u 19)) (nI (u 20)) := (hf_35 _ (by omega)).trans hc0
        refine A_aload_n hg dX7_setBarred_45 rfl rfl ?_
        refine A_dup hg dX7_setBarred_46 rfl ?_
        refine A_getf (v := .int (nI (u 20))) hg fl_RX7_25 dX7_setBarred_47 hc_36 (by omega) rfl ?_
        refine A_iconst (v := (nI (1))) hg dX7_setBarred_50 (by decide) ?_
        refine A_iaddN hg dX7_setBarred_51 ?_
        refine A_putf hg fl_RX7_25 dX7_setBarred_52 hc_36 (by omega) (Nat.le_of_ble_eq_true rfl) rfl rfl rfl (fun σ_37 hc_38 hf_39 => ?_)
        have hc_38 : σ_37 rb = o7 G (rb) (lN (nm)) (lN (on)) (nI (u 18)) (nI (u 19)) (nI ((u 20) + 1)) := hc_38
        have hc_40 : σ_37 (rb + 1) = q_an G 5 (va_up bm (u 20) ((k * 41) + l)) := (hf_39 _ (by omega)).trans hc_34
        refine A_iload_n hg dX7_setBarred_55 rfl rfl ?_
        refine A_if_neB (tgt := 124) hg dX7_setBarred_56 (by decide) (fun c56 => ?_) (fun c56 => absurd (c9.symm.trans c56) (by decide))
        rw [hQ]
        exact A_return hg (by decide) (by decide) rfl dX7_setBarred_124 ⟨rfl, Or.inr (Or.inl (⟨rfl, c9, (s_bar_no c15), (by first | rfl | assumption | omega), hc_38, hc_40, (fun i hi => ((hf_39 i (by omega)).trans (hf_35 i (by omega))))⟩))⟩
end
