section
set_option maxRecDepth 100000 in
set_option maxHeartbeats 4000000 in
theorem c_X7_isFree (G : GL) (ex : Bool) (n : Nat) (σ : Nat → va_E) (rb : Nat) (u : Nat → Nat) (nm : Nat) (on : Nat) (bm : Nat → Nat) (hc0 : σ rb = o7 G (rb) (lN (nm)) (lN (on)) (nI (u 18)) (nI (u 19)) (nI (u 20))) (hc1 : σ (rb + 1) = q_an G 5 bm) (hrb : rb + 1 < n) (hw : x_w u) (hon : x_on u on) (hbm : x_bm u bm) : Ct G yX7_isFree cX7_isFree 1 (some .boolean) ⟨0, 0, 0, 0⟩ [.ref (q_h G + rb)] ex n σ (fun v9 σ2 => σ2 = σ ∧ v9 = some (.int (q_b (s_free u)))) := by
  refine q_enter [some (.ref (q_h G + rb))] (by decide) (Nat.le_of_ble_eq_true rfl) rfl ?_
  intro K hg
  obtain ⟨Q, hQ⟩ : ∃ Q, Q = q_Q G K ex n 0 0 (fun v9 n' σ' => n' = n ∧ (fun v9 σ2 => σ2 = σ ∧ v9 = some (.int (q_b (s_free u)))) v9 σ') q_noX := ⟨_, rfl⟩
  refine (?_ : AJ G K (q_Q G K ex n 0 0 _ _) 0 0 ex n 0 _ _ σ)
  rw [← hQ]
  have hw9 := hw.1
  have hw18 := hw.2.1
  have hw19 := hw.2.2.1
  have hw20 := hw.2.2.2.1
  have hon1 := hon.1
  refine A_aload_n hg dX7_isFree_0 rfl rfl ?_
  refine A_getf (v := .long (lN (on))) hg fl_RX7_15 dX7_isFree_1 hc0 (by omega) rfl ?_
  refine A_lconst (v := (lN (0))) hg dX7_isFree_4 (by decide) ?_
  refine A_lcmp hg dX7_isFree_5 ?_
  refine A_lc_ne (tgt := 36) hg dX7_isFree_6 (Nat.lt_of_lt_of_le hon.1 (by decide)) (by decide) (by decide) (fun c6 => ?_) (fun c6 => ?_)
  · skip
    refine A_iconst (v := (nI (0))) hg dX7_isFree_36 (by decide) ?_
    rw [hQ]
    exact A_zreturn hg (by decide) (by decide) rfl rfl dX7_isFree_37 ⟨rfl, ⟨rfl, (q_rf (decide_eq_false (by rintro ⟨h1, h2, h3, h4⟩; first | exact c6 (hon.2.2.mp h1) | omega)))⟩⟩
  · skip
    refine A_aload_n hg dX7_isFree_9 rfl rfl ?_
    refine A_getf (v := .int (nI (u 19))) hg fl_RX7_22 dX7_isFree_10 hc0 (by omega) rfl ?_
    refine A_bipush (v := (nI (40))) hg dX7_isFree_13 (by decide) ?_
    refine A_icmp_neN (tgt := 36) hg dX7_isFree_15 (by omega) (by decide) (by decide) (fun c15 => ?_) (fun c15 => ?_)
    · skip
      refine A_iconst (v := (nI (0))) hg dX7_isFree_36 (by decide) ?_
      rw [hQ]
      exact A_zreturn hg (by decide) (by decide) rfl rfl dX7_isFree_37 ⟨rfl, ⟨rfl, (q_rf (decide_eq_false (by rintro ⟨h1, h2, h3, h4⟩; first | exact c6 (hon.2.2.mp h1) | omega)))⟩⟩
    · skip
      refine A_aload_n hg dX7_isFree_18 rfl rfl ?_
      refine A_getf (v := .int (nI (u 18))) hg fl_RX7_18 dX7_isFree_19 hc0 (by omega) rfl ?_
      refine A_if_leN (tgt := 36) hg dX7_isFree_22 (by omega) (by decide) (fun c22 => ?_) (fun c22 => ?_)
      · skip
        refine A_iconst (v := (nI (0))) hg dX7_isFree_36 (by decide) ?_
        rw [hQ]
        exact A_zreturn hg (by decide) (by decide) rfl rfl dX7_isFree_37 ⟨rfl, ⟨rfl, (q_rf (decide_eq_false (by rintro ⟨h1, h2, h3, h4⟩; first | exact c6 (hon.2.2.mp h1) | omega)))⟩⟩
      · skip
        refine A_aload_n hg dX7_isFree_25 rfl rfl ?_
        refine A_getf (v := .int (nI (u 20))) hg fl_RX7_25 dX7_isFree_26 hc0 (by omega) rfl ?_
        refine A_if_neN (tgt := 36) hg dX7_isFree_29 (by omega) (by decide) (fun c29 => ?_) (fun c29 => ?_)
        · skip
          refine A_iconst (v := (nI (0))) hg dX7_isFree_36 (by decide) ?_
          rw [hQ]
          exact A_zreturn hg (by decide) (by decide) rfl rfl dX7_isFree_37 ⟨rfl, ⟨rfl, (q_rf (decide_eq_false (by rintro ⟨h1, h2, h3, h4⟩; first | exact c6 (hon.2.2.mp h1) | omega)))⟩⟩
        · skip
          refine A_iconst (v := (nI (1))) hg dX7_isFree_32 (by decide) ?_
          refine A_goto (tgt := 37) hg dX7_isFree_33 (by decide) ?_
          rw [hQ]
          exact A_zreturn hg (by decide) (by decide) rfl rfl dX7_isFree_37 ⟨rfl, ⟨rfl, (q_rt (decide_eq_true ⟨hon.2.2.mpr c6, c15, by omega, by omega⟩))⟩⟩
set_option maxRecDepth 100000 in
set_option maxHeartbeats 4000000 in
theorem c_X7_hasOnly (G : GL) (ex : Bool) (n : Nat) (σ : Nat → va_E) (rb : Nat) (u : Nat → Nat) (nm : Nat) (on : Nat) (bm : Nat → Nat) (x : Nat) (hc0 : σ rb = o7 G (rb) (lN (nm)) (lN (on)) (nI (u 18)) (nI (u 19)) (nI (u 20))) (hc1 : σ (rb + 1) = q_an G 5 bm) (hrb : rb + 1 < n) (hw : x_w u) (hon : x_on u on) (hbm : x_bm u bm) (hx : x < 2 ^ 31) : Ct G yX7_hasOnly cX7_hasOnly 2 (some .boolean) ⟨0, 0, 0, 0⟩ [.ref (q_h G + rb), .int (nI (x))] ex n σ (fun v9 σ2 => σ2 = σ ∧ v9 = some (.int (q_b (decide (x ≤ 40) && on.testBit x)))) := by
  refine q_enter [some (.ref (q_h G + rb)), some (.int (nI (x)))] (by decide) (Nat.le_of_ble_eq_true rfl) rfl ?_
  intro K hg
  obtain ⟨Q, hQ⟩ : ∃ Q, Q = q_Q G K ex n 0 0 (fun v9 n' σ' => n' = n ∧ (fun v9 σ2 => σ2 = σ ∧ v9 = some (.int (q_b (decide (x ≤ 40) && on.testBit x)))) v9 σ') q_noX := ⟨_, rfl⟩
  refine (?_ : AJ G K (q_Q G K ex n 0 0 _ _) 0 0 ex n 0 _ _ σ)
  rw [← hQ]
  refine A_iload_n hg dX7_hasOnly_0 rfl rfl ?_
  refine A_if_ltN (tgt := 27) hg dX7_hasOnly_1 (by omega) (by decide) ?_
  refine A_iload_n hg dX7_hasOnly_4 rfl rfl ?_
  refine A_bipush (v := (nI (40))) hg dX7_hasOnly_5 (by decide) ?_
  refine A_icmp_gtN (tgt := 27) hg dX7_hasOnly_7 (by omega) (by decide) (by decide) (fun c7 => ?_) (fun c7 => ?_)
  · skip
    refine A_iconst (v := (nI (0))) hg dX7_hasOnly_27 (by decide) ?_
    rw [hQ]
    exact A_zreturn hg (by decide) (by decide) rfl rfl dX7_hasOnly_28 ⟨rfl, ⟨rfl, (q_rf (by first | (rw [decide_eq_false (show ¬ x ≤ 40 by omega)]; rfl) | (rw [Bool.eq_false_iff.mpr (fun z => c20 (x_bit1.mpr z)), Bool.and_false])))⟩⟩
  · skip
    refine A_aload_n hg dX7_hasOnly_10 rfl rfl ?_
    refine A_getf (v := .long (lN (on))) hg fl_RX7_15 dX7_hasOnly_11 hc0 (by omega) rfl ?_
    refine A_iload_n hg dX7_hasOnly_14 rfl rfl ?_
    refine A_lushrP hg dX7_hasOnly_15 (Nat.lt_of_lt_of_le hon.1 (by decide)) (by omega) ?_
    refine A_lconst (v := (lN (1))) hg dX7_hasOnly_16 (by decide) ?_
    refine A_landP hg dX7_hasOnly_17 ?_
    refine A_lconst (v := (lN (1))) hg dX7_hasOnly_18 (by decide) ?_
    refine A_lcmp hg dX7_hasOnly_19 ?_
    refine A_lc_ne (tgt := 27) hg dX7_hasOnly_20 (Nat.lt_of_le_of_lt Nat.and_le_right (by decide)) (by decide) (by decide) (fun c20 => ?_) (fun c20 => ?_)
    · skip
      refine A_iconst (v := (nI (0))) hg dX7_hasOnly_27 (by decide) ?_
      rw [hQ]
      exact A_zreturn hg (by decide) (by decide) rfl rfl dX7_hasOnly_28 ⟨rfl, ⟨rfl, (q_rf (by first | (rw [decide_eq_false (show ¬ x ≤ 40 by omega)]; rfl) | (rw [Bool.eq_false_iff.mpr (fun z => c20 (x_bit1.mpr z)), Bool.and_false])))⟩⟩
    · skip
      refine A_iconst (v := (nI (1))) hg dX7_hasOnly_23 (by decide) ?_
      refine A_goto (tgt := 28) hg dX7_hasOnly_24 (by decide) ?_
      rw [hQ]
      exact A_zreturn hg (by decide) (by decide) rfl rfl dX7_hasOnly_28 ⟨rfl, ⟨rfl, (q_rt (by rw [decide_eq_true (show x ≤ 40 by omega), x_bit1.mp c20]; rfl))⟩⟩
set_option maxRecDepth 100000 in
set_option maxHeartbeats 4000000 in
theorem c_X7_placeOfBar (G : GL) (ex : Bool) (n : Nat) (σ : Nat → va_E) (rb : Nat) (u : Nat → Nat) (nm : Nat) (on : Nat) (bm : Nat → Nat) (k : Nat) (l : Nat) (hc0 : σ rb = o7 G (rb) (lN (nm)) (lN (on)) (nI (u 18)) (nI (u 19)) (nI (u 20))) (hc1 : σ (rb + 1) = q_an G 5 bm) (hrb : rb + 1 < n) (hw : x_w u) (hon : x_on u on) (hbm : x_bm u bm) (hk : k ≤ 40) (hl : l ≤ 40) : Ct G yX7_placeOfBar cX7_placeOfBar 4 (some .int) ⟨0, 0, 0, 0⟩ [.ref (q_h G + rb), .int (nI (k)), .int (nI (l))] ex n σ (fun v9 σ2 => σ2 = σ ∧ v9 = some (.int (q_d (if s_barred u k l = true then s_bar u k l + 1 else 0)))) := by
  refine q_enter [some (.ref (q_h G + rb)), some (.int (nI (k))), some (.int (nI (l))), none] (by decide) (Nat.le_of_ble_eq_true rfl) rfl ?_
  intro K hg
  obtain ⟨Q, hQ⟩ : ∃ Q, Q = q_Q G K ex n 0 0 (fun v9 n' σ' => n' = n ∧ (fun v9 σ2 => σ2 = σ ∧ v9 = some (.int (q_d (if s_barred u k l = true then s_bar u k l + 1 else 0)))) v9 σ') q_noX := ⟨_, rfl⟩
  refine (?_ : AJ G K (q_Q G K ex n 0 0 _ _) 0 0 ex n 0 _ _ σ)
  rw [← hQ]
  have hw9 := hw.1
  have hw18 := hw.2.1
  have hw19 := hw.2.2.1
  have hw20 := hw.2.2.2.1
  refine A_iconst (v := (nI (0))) hg dX7_placeOfBar_0 (by decide) ?_
  refine A_istore_n hg dX7_placeOfBar_1 rfl (by decide) (q_c1d rfl) ?_
  refine A_eq (ls2 := [some (.ref (q_h G + rb)), some (.int (nI (k))), some (.int (nI (l))), some (.int (nI (0)))]) (st2 := []) (pc2 := 0) rfl rfl ?_
  have hL2 : ∀ (fu : Nat) (i : Nat), (i ≤ u 20) → (∀ j : Nat, j < i → s_barp u k l j = false) → (u 20 - i) < fu → AJ G K Q 0 0 ex n 2 [some (.ref (q_h G + rb)), some (.int (nI (k))), some (.int (nI (l))), some (.int (nI (i)))] [] σ := by
    intro fu
    induction fu with
    | zero => intro i hi hno hm; exact absurd hm (Nat.not_lt_zero _)
    | succ fu ih2 =>
      intro i hi hno hm2
      refine A_iload_n hg dX7_placeOfBar_2 rfl rfl ?_
      refine A_aload_n hg dX7_placeOfBar_3 rfl rfl ?_
      refine A_getf (v := .int (nI (u 20))) hg fl_RX7_25 dX7_placeOfBar_4 hc0 (by omega) rfl ?_
      refine A_icmp_geN (tgt := 42) hg dX7_placeOfBar_7 (by omega) (by omega) (by decide) (fun c7 => ?_) (fun c7 => ?_)
      · skip
        refine A_iconst (v := (q_d (0))) hg dX7_placeOfBar_42 (by decide) ?_
        have hp : s_bar u k l = u 20 := s_first_none (fun j hj => hno j (by omega))
        rw [hQ]
        exact A_ireturn hg (by decide) (by decide) rfl dX7_placeOfBar_43 ⟨rfl, ⟨rfl, (by rw [if_neg (by unfold s_barred; rw [hp]; simp)])⟩⟩
      · skip
        refine A_iload_n hg dX7_placeOfBar_10 rfl rfl ?_
        refine A_aload_n hg dX7_placeOfBar_11 rfl rfl ?_
        refine A_getf (v := .ref (q_h G + (rb + 1))) hg fl_RX7_28 dX7_placeOfBar_12 hc0 (by omega) rfl ?_
        refine A_alen (t := 0) (len := 5) hg dX7_placeOfBar_15 hc1 (by decide) (by omega) ?_
        refine A_icmp_geN (tgt := 42) hg dX7_placeOfBar_16 (by omega) (by decide) (by decide) (fun c16 => ?_) (fun c16 => ?_)
        · skip
          refine A_iconst (v := (q_d (0))) hg dX7_placeOfBar_42 (by decide) ?_
          have hp : s_bar u k l = u 20 := s_first_none (fun j hj => hno j (by omega))
          rw [hQ]
          exact A_ireturn hg (by decide) (by decide) rfl dX7_placeOfBar_43 ⟨rfl, ⟨rfl, (by rw [if_neg (by unfold s_barred; rw [hp]; simp)])⟩⟩
        · skip
          refine A_aload_n hg dX7_placeOfBar_19 rfl rfl ?_
          refine A_getf (v := .ref (q_h G + (rb + 1))) hg fl_RX7_28 dX7_placeOfBar_20 hc0 (by omega) rfl ?_
          refine A_iload_n hg dX7_placeOfBar_23 rfl rfl ?_
          have hbi := hbm i (by omega)
          have hb1 := hw.2.2.2.2.2 (2 * i) (by omega)
          have hb2 := hw.2.2.2.2.2 (2 * i + 1) (by omega)
          rw [show 21 + (2 * i + 1) = 21 + 2 * i + 1 by omega] at hb2
          refine A_iald (j := i) hg dX7_placeOfBar_24 hc1 (by omega) (by omega) (by decide) ?_
          refine A_iload_n hg dX7_placeOfBar_25 rfl rfl ?_
          refine A_bipush (v := (nI (41))) hg dX7_placeOfBar_26 (by decide) ?_
          refine A_imulN hg dX7_placeOfBar_28 ?_
          refine A_iload_n hg dX7_placeOfBar_29 rfl rfl ?_
          refine A_iaddN hg dX7_placeOfBar_30 ?_
          refine A_icmp_neN (tgt := 36) hg dX7_placeOfBar_31 (by omega) (by omega) (by decide) (fun c31 => ?_) (fun c31 => ?_)
          · skip
            refine A_iincN (k' := 1) hg dX7_placeOfBar_36 (by decide) rfl (by decide) (q_c1d rfl) ?_
            refine A_eq (ls2 := [some (.ref (q_h G + rb)), some (.int (nI (k))), some (.int (nI (l))), some (.int (nI (i + 1)))]) (st2 := []) (pc2 := 0) rfl rfl ?_
            refine A_goto (tgt := 2) hg dX7_placeOfBar_39 (by decide) ?_
            exact ih2 (i + 1) (by omega) (lt_s hno (x_bar_ne hw hbm (by omega) hk hl c31)) (by omega)
          · skip
            refine A_iload_n hg dX7_placeOfBar_34 rfl rfl ?_
            have hp : s_bar u k l = i := s_first_eq (by omega) (x_bar_eq hw hbm (by omega) hk hl c31) hno
            rw [hQ]
            exact A_ireturn hg (by decide) (by decide) rfl dX7_placeOfBar_35 ⟨rfl, ⟨rfl, (by rw [if_pos (show s_barred u k l = true from decide_eq_true (by rw [hp]; omega)), hp, q_dS])⟩⟩
  exact hL2 _ 0 (Nat.zero_le _) (fun j h => absurd h (Nat.not_lt_zero j)) (Nat.lt_succ_self _)
set_option maxRecDepth 100000 in
set_option maxHeartbeats 4000000 in
theorem c_X7_isBarred (G : GL) (ex : Bool) (n : Nat) (σ : Nat → va_E) (rb : Nat) (u : Nat → Nat) (nm : Nat) (on : Nat) (bm : Nat → Nat) (k : Nat) (l : Nat) (hc0 : σ rb = o7 G (rb) (lN (nm)) (lN (on)) (nI (u 18)) (nI (u 19)) (nI (u 20))) (hc1 : σ (rb + 1) = q_an G 5 bm) (hrb : rb + 1 < n) (hw : x_w u) (hon : x_on u on) (hbm : x_bm u bm) (hk : k ≤ 40) (hl : l ≤ 40) : Ct G yX7_isBarred cX7_isBarred 3 (some .boolean) ⟨1, 0, 0, 23⟩ [.ref (q_h G + rb), .int (nI (k)), .int (nI (l))] ex n σ (fun v9 σ2 => σ2 = σ ∧ v9 = some (.int (q_b (s_barred u k l)))) := by
  refine q_enter [some (.ref (q_h G + rb)), some (.int (nI (k))), some (.int (nI (l)))] (by decide) (Nat.le_of_ble_eq_true rfl) rfl ?_
  intro K hg
  obtain ⟨Q, hQ⟩ : ∃ Q, Q = q_Q G K ex n 0 0 (fun v9 n' σ' => n' = n ∧ (fun v9 σ2 => σ2 = σ ∧ v9 = some (.int (q_b (s_barred u k l)))) v9 σ') q_noX := ⟨_, rfl⟩
  refine (?_ : AJ G K (q_Q G K ex n 0 0 _ _) 0 0 ex n 0 _ _ σ)
  rw [← hQ]
  have hw9 := hw.1
  have hw18 := hw.2.1
  have hw19 := hw.2.2.1
  have hw20 := hw.2.2.2.1
  refine A_aload_n hg dX7_isBarred_0 rfl rfl ?_
  refine A_iload_n hg dX7_isBarred_1 rfl rfl ?_
  refine A_iload_n hg dX7_isBarred_2 rfl rfl ?_
  refine A_eV (kc2 := 0) (ks2 := 0) (As := [.int (nI (k)), .int (nI (l))]) (rest := []) hg lk_RX7_42 in_X7_placeOfBar se_X7_placeOfBar rfl dX7_isBarred_3 ⟨by decide, by decide⟩ rfl rfl ⟨by decide, by decide⟩ hc0 (by omega) rfl rfl (Nat.le_of_ble_eq_true rfl) (c_X7_placeOfBar G ex n σ rb u nm on bm k l hc0 hc1 (by omega) hw hon hbm (by omega) (by omega)) ?_
  refine A_iconst (v := (q_d (0))) hg dX7_isBarred_6 (by decide) ?_
  refine A_icmp_eqM (tgt := 14) hg dX7_isBarred_7 (by have hq := s_first_le (s_barp u k l) (u 20); split <;> first | omega | (unfold s_bar; omega)) (by decide) (by decide) (fun c7 => ?_) (fun c7 => ?_)
  · skip
    refine A_iconst (v := (nI (0))) hg dX7_isBarred_14 (by decide) ?_
    rw [hQ]
    exact A_zreturn hg (by decide) (by decide) rfl rfl dX7_isBarred_15 ⟨rfl, ⟨rfl, (q_rf (s_bar_no c7))⟩⟩
  · skip
    refine A_iconst (v := (nI (1))) hg dX7_isBarred_10 (by decide) ?_
    refine A_goto (tgt := 15) hg dX7_isBarred_11 (by decide) ?_
    rw [hQ]
    exact A_zreturn hg (by decide) (by decide) rfl rfl dX7_isBarred_15 ⟨rfl, ⟨rfl, (q_rt (s_bar_yes c7))⟩⟩
set_option maxRecDepth 100000 in
set_option maxHeartbeats 4000000 in
theorem c_X7_refusal (G : GL) (ex : Bool) (n : Nat) (σ : Nat → va_E) (rb : Nat) (u : Nat → Nat) (nm : Nat) (on : Nat) (bm : Nat → Nat) (k : Nat) (l : Nat) (hc0 : σ rb = o7 G (rb) (lN (nm)) (lN (on)) (nI (u 18)) (nI (u 19)) (nI (u 20))) (hc1 : σ (rb + 1) = q_an G 5 bm) (hrb : rb + 1 < n) (hw : x_w u) (hon : x_on u on) (hbm : x_bm u bm) (hk : k < 2 ^ 31) (hl : l < 2 ^ 31) : Ct G yX7_refusal cX7_refusal 3 (some .int) ⟨1, 0, 0, 23⟩ [.ref (q_h G + rb), .int (nI (k)), .int (nI (l))] ex n σ (fun v9 σ2 => σ2 = σ ∧ v9 = some (.int (nI (s_forb u k l)))) := by
  refine q_enter [some (.ref (q_h G + rb)), some (.int (nI (k))), some (.int (nI (l)))] (by decide) (Nat.le_of_ble_eq_true rfl) rfl ?_
  intro K hg
  obtain ⟨Q, hQ⟩ : ∃ Q, Q = q_Q G K ex n 0 0 (fun v9 n' σ' => n' = n ∧ (fun v9 σ2 => σ2 = σ ∧ v9 = some (.int (nI (s_forb u k l)))) v9 σ') q_noX := ⟨_, rfl⟩
  refine (?_ : AJ G K (q_Q G K ex n 0 0 _ _) 0 0 ex n 0 _ _ σ)
  rw [← hQ]
  have hw9 := hw.1
  have hw18 := hw.2.1
  have hw19 := hw.2.2.1
  have hw20 := hw.2.2.2.1
  refine A_iload_n hg dX7_refusal_0 rfl rfl ?_
  refine A_aload_n hg dX7_refusal_1 rfl rfl ?_
  refine A_getf (v := .int (nI (u 19))) hg fl_RX7_22 dX7_refusal_2 hc0 (by omega) rfl ?_
  refine A_icmp_gtN (tgt := 16) hg dX7_refusal_5 (by omega) (by omega) (by decide) (fun c5 => ?_) (fun c5 => ?_)
  · skip
    refine A_iconst (v := (nI (4))) hg dX7_refusal_16 (by decide) ?_
    rw [hQ]
    exact A_ireturn hg (by decide) (by decide) rfl dX7_refusal_17 ⟨rfl, ⟨rfl, (by unfold s_forb; rw [if_pos (by omega)])⟩⟩
  · skip
    refine A_iload_n hg dX7_refusal_8 rfl rfl ?_
    refine A_aload_n hg dX7_refusal_9 rfl rfl ?_
    refine A_getf (v := .int (nI (u 19))) hg fl_RX7_22 dX7_refusal_10 hc0 (by omega) rfl ?_
    refine A_icmp_leN (tgt := 18) hg dX7_refusal_13 (by omega) (by omega) (by decide) (fun c13 => ?_) (fun c13 => ?_)
    · skip
      refine A_iload_n hg dX7_refusal_18 rfl rfl ?_
      refine A_if_eqN (tgt := 26) hg dX7_refusal_19 (by omega) (by decide) (fun c19 => ?_) (fun c19 => ?_)
      · skip
        refine A_aload_n hg dX7_refusal_26 rfl rfl ?_
        refine A_getf (v := .long (lN (on))) hg fl_RX7_15 dX7_refusal_27 hc0 (by omega) rfl ?_
        refine A_lconst (v := (lN (0))) hg dX7_refusal_30 (by decide) ?_
        refine A_lcmp hg dX7_refusal_31 ?_
        refine A_lc_eq (tgt := 63) hg dX7_refusal_32 (Nat.lt_of_lt_of_le hon.1 (by decide)) (by decide) (by decide) (fun c32 => ?_) (fun c32 => ?_)
        · skip
          refine A_aload_n hg dX7_refusal_63 rfl rfl ?_
          refine A_iload_n hg dX7_refusal_64 rfl rfl ?_
          refine A_iload_n hg dX7_refusal_65 rfl rfl ?_
          refine A_eV (kc2 := 0) (ks2 := 0) (As := [.int (nI (k)), .int (nI (l))]) (rest := []) hg lk_RX7_42 in_X7_placeOfBar se_X7_placeOfBar rfl dX7_refusal_66 ⟨by decide, by decide⟩ rfl rfl ⟨by decide, by decide⟩ hc0 (by omega) rfl rfl (Nat.le_of_ble_eq_true rfl) (c_X7_placeOfBar G ex n σ rb u nm on bm k l hc0 hc1 (by omega) hw hon hbm (by omega) (by omega)) ?_
          refine A_iconst (v := (q_d (0))) hg dX7_refusal_69 (by decide) ?_
          refine A_icmp_eqM (tgt := 78) hg dX7_refusal_70 (by have hq := s_first_le (s_barp u k l) (u 20); split <;> first | omega | (unfold s_bar; omega)) (by decide) (by decide) (fun c70 => ?_) (fun c70 => ?_)
          · skip
            refine A_iconst (v := (nI (0))) hg dX7_refusal_78 (by decide) ?_
            rw [hQ]
            exact A_ireturn hg (by decide) (by decide) rfl dX7_refusal_79 ⟨rfl, ⟨rfl, (x_forb_e (by omega) (by first | exact Or.inl ⟨by omega, by omega⟩ | exact Or.inr ⟨by omega, Or.inl (hon.2.2.mpr c32)⟩ | exact Or.inr ⟨by omega, Or.inr (x_only_t hon c42)⟩) (by first | exact Or.inl ⟨s_bar_yes c70, rfl⟩ | exact Or.inr ⟨s_bar_no c70, rfl⟩))⟩⟩
          · skip
            refine A_bipush (v := (nI (7))) hg dX7_refusal_73 (by decide) ?_
            refine A_goto (tgt := 79) hg dX7_refusal_75 (by decide) ?_
            rw [hQ]
            exact A_ireturn hg (by decide) (by decide) rfl dX7_refusal_79 ⟨rfl, ⟨rfl, (x_forb_e (by omega) (by first | exact Or.inl ⟨by omega, by omega⟩ | exact Or.inr ⟨by omega, Or.inl (hon.2.2.mpr c32)⟩ | exact Or.inr ⟨by omega, Or.inr (x_only_t hon c42)⟩) (by first | exact Or.inl ⟨s_bar_yes c70, rfl⟩ | exact Or.inr ⟨s_bar_no c70, rfl⟩))⟩⟩
        · skip
          refine A_aload_n hg dX7_refusal_35 rfl rfl ?_
          refine A_iload_n hg dX7_refusal_36 rfl rfl ?_
          refine A_iload_n hg dX7_refusal_37 rfl rfl ?_
          refine A_iaddN hg dX7_refusal_38 ?_
          refine A_eV (kc2 := 0) (ks2 := 0) (As := [.int (nI (k + l))]) (rest := []) hg lk_RX7_38 in_X7_hasOnly se_X7_hasOnly rfl dX7_refusal_39 ⟨by decide, by decide⟩ rfl rfl ⟨by decide, by decide⟩ hc0 (by omega) rfl rfl (Nat.le_of_ble_eq_true rfl) (c_X7_hasOnly G ex n σ rb u nm on bm (k + l) hc0 hc1 (by omega) hw hon hbm (by omega)) ?_
          refine A_if_neB (tgt := 63) hg dX7_refusal_42 (by decide) (fun c42 => ?_) (fun c42 => ?_)
          · skip
            refine A_aload_n hg dX7_refusal_63 rfl rfl ?_
            refine A_iload_n hg dX7_refusal_64 rfl rfl ?_
            refine A_iload_n hg dX7_refusal_65 rfl rfl ?_
            refine A_eV (kc2 := 0) (ks2 := 0) (As := [.int (nI (k)), .int (nI (l))]) (rest := []) hg lk_RX7_42 in_X7_placeOfBar se_X7_placeOfBar rfl dX7_refusal_66 ⟨by decide, by decide⟩ rfl rfl ⟨by decide, by decide⟩ hc0 (by omega) rfl rfl (Nat.le_of_ble_eq_true rfl) (c_X7_placeOfBar G ex n σ rb u nm on bm k l hc0 hc1 (by omega) hw hon hbm (by omega) (by omega)) ?_
            refine A_iconst (v := (q_d (0))) hg dX7_refusal_69 (by decide) ?_
            refine A_icmp_eqM (tgt := 78) hg dX7_refusal_70 (by have hq := s_first_le (s_barp u k l) (u 20); split <;> first | omega | (unfold s_bar; omega)) (by decide) (by decide) (fun c70 => ?_) (fun c70 => ?_)
            · skip
              refine A_iconst (v := (nI (0))) hg dX7_refusal_78 (by decide) ?_
              rw [hQ]
              exact A_ireturn hg (by decide) (by decide) rfl dX7_refusal_79 ⟨rfl, ⟨rfl, (x_forb_e (by omega) (by first | exact Or.inl ⟨by omega, by omega⟩ | exact Or.inr ⟨by omega, Or.inl (hon.2.2.mpr c32)⟩ | exact Or.inr ⟨by omega, Or.inr (x_only_t hon c42)⟩) (by first | exact Or.inl ⟨s_bar_yes c70, rfl⟩ | exact Or.inr ⟨s_bar_no c70, rfl⟩))⟩⟩
            · skip
              refine A_bipush (v := (nI (7))) hg dX7_refusal_73 (by decide) ?_
              refine A_goto (tgt := 79) hg dX7_refusal_75 (by decide) ?_
              rw [hQ]
              exact A_ireturn hg (by decide) (by decide) rfl dX7_refusal_79 ⟨rfl, ⟨rfl, (x_forb_e (by omega) (by first | exact Or.inl ⟨by omega, by omega⟩ | exact Or.inr ⟨by omega, Or.inl (hon.2.2.mpr c32)⟩ | exact Or.inr ⟨by omega, Or.inr (x_only_t hon c42)⟩) (by first | exact Or.inl ⟨s_bar_yes c70, rfl⟩ | exact Or.inr ⟨s_bar_no c70, rfl⟩))⟩⟩
          · skip
            refine A_iconst (v := (nI (5))) hg dX7_refusal_45 (by decide) ?_
            rw [hQ]
            exact A_ireturn hg (by decide) (by decide) rfl dX7_refusal_46 ⟨rfl, ⟨rfl, (by unfold s_forb; rw [if_neg (by omega), if_pos ⟨by omega, by have := hon.2.2; omega, x_only_f hon c42 (fun i hi => hw.2.2.2.2.1 i (by omega))⟩])⟩⟩
      · skip
        refine A_iload_n hg dX7_refusal_22 rfl rfl ?_
        refine A_if_neN (tgt := 47) hg dX7_refusal_23 (by omega) (by decide) (fun c23 => ?_) (fun c23 => ?_)
        · skip
          refine A_iload_n hg dX7_refusal_47 rfl rfl ?_
          refine A_iload_n hg dX7_refusal_48 rfl rfl ?_
          refine A_isub hg dX7_refusal_49 ?_
          refine A_abs hg ml_RX7_46 dX7_refusal_50 ⟨by decide, by decide, by decide, by decide⟩ (Nat.le_of_ble_eq_true rfl) ?_
          refine A_top (w := .int (nI (s_dist k l))) (q_abs (k := k) (l := l) (by omega) (by omega)) ?_
          refine A_aload_n hg dX7_refusal_53 rfl rfl ?_
          have hds : s_dist k l ≤ 80 := by unfold s_dist; omega
          refine A_getf (v := .int (nI (u 18))) hg fl_RX7_18 dX7_refusal_54 hc0 (by omega) rfl ?_
          refine A_icmp_ltN (tgt := 63) hg dX7_refusal_57 (by omega) (by omega) (by decide) (fun c57 => ?_) (fun c57 => ?_)
          · skip
            refine A_aload_n hg dX7_refusal_63 rfl rfl ?_
            refine A_iload_n hg dX7_refusal_64 rfl rfl ?_
            refine A_iload_n hg dX7_refusal_65 rfl rfl ?_
            refine A_eV (kc2 := 0) (ks2 := 0) (As := [.int (nI (k)), .int (nI (l))]) (rest := []) hg lk_RX7_42 in_X7_placeOfBar se_X7_placeOfBar rfl dX7_refusal_66 ⟨by decide, by decide⟩ rfl rfl ⟨by decide, by decide⟩ hc0 (by omega) rfl rfl (Nat.le_of_ble_eq_true rfl) (c_X7_placeOfBar G ex n σ rb u nm on bm k l hc0 hc1 (by omega) hw hon hbm (by omega) (by omega)) ?_
            refine A_iconst (v := (q_d (0))) hg dX7_refusal_69 (by decide) ?_
            refine A_icmp_eqM (tgt := 78) hg dX7_refusal_70 (by have hq := s_first_le (s_barp u k l) (u 20); split <;> first | omega | (unfold s_bar; omega)) (by decide) (by decide) (fun c70 => ?_) (fun c70 => ?_)
            · skip
              refine A_iconst (v := (nI (0))) hg dX7_refusal_78 (by decide) ?_
              rw [hQ]
              exact A_ireturn hg (by decide) (by decide) rfl dX7_refusal_79 ⟨rfl, ⟨rfl, (x_forb_e (by omega) (by first | exact Or.inl ⟨by omega, by omega⟩ | exact Or.inr ⟨by omega, Or.inl (hon.2.2.mpr c32)⟩ | exact Or.inr ⟨by omega, Or.inr (x_only_t hon c42)⟩) (by first | exact Or.inl ⟨s_bar_yes c70, rfl⟩ | exact Or.inr ⟨s_bar_no c70, rfl⟩))⟩⟩
            · skip
              refine A_bipush (v := (nI (7))) hg dX7_refusal_73 (by decide) ?_
              refine A_goto (tgt := 79) hg dX7_refusal_75 (by decide) ?_
              rw [hQ]
              exact A_ireturn hg (by decide) (by decide) rfl dX7_refusal_79 ⟨rfl, ⟨rfl, (x_forb_e (by omega) (by first | exact Or.inl ⟨by omega, by omega⟩ | exact Or.inr ⟨by omega, Or.inl (hon.2.2.mpr c32)⟩ | exact Or.inr ⟨by omega, Or.inr (x_only_t hon c42)⟩) (by first | exact Or.inl ⟨s_bar_yes c70, rfl⟩ | exact Or.inr ⟨s_bar_no c70, rfl⟩))⟩⟩
          · skip
            refine A_bipush (v := (nI (6))) hg dX7_refusal_60 (by decide) ?_
            rw [hQ]
            exact A_ireturn hg (by decide) (by decide) rfl dX7_refusal_62 ⟨rfl, ⟨rfl, (by unfold s_forb; rw [if_neg (by omega), if_neg (by rintro ⟨h1, h2, h3⟩; omega), if_pos ⟨by omega, by omega⟩])⟩⟩
        · skip
          refine A_aload_n hg dX7_refusal_26 rfl rfl ?_
          refine A_getf (v := .long (lN (on))) hg fl_RX7_15 dX7_refusal_27 hc0 (by omega) rfl ?_
          refine A_lconst (v := (lN (0))) hg dX7_refusal_30 (by decide) ?_
          refine A_lcmp hg dX7_refusal_31 ?_
          refine A_lc_eq (tgt := 63) hg dX7_refusal_32 (Nat.lt_of_lt_of_le hon.1 (by decide)) (by decide) (by decide) (fun c32 => ?_) (fun c32 => ?_)
          · skip
            refine A_aload_n hg dX7_refusal_63 rfl rfl ?_
            refine A_iload_n hg dX7_refusal_64 rfl rfl ?_
            refine A_iload_n hg dX7_refusal_65 rfl rfl ?_
            refine A_eV (kc2 := 0) (ks2 := 0) (As := [.int (nI (k)), .int (nI (l))]) (rest := []) hg lk_RX7_42 in_X7_placeOfBar se_X7_placeOfBar rfl dX7_refusal_66 ⟨by decide, by decide⟩ rfl rfl ⟨by decide, by decide⟩ hc0 (by omega) rfl rfl (Nat.le_of_ble_eq_true rfl) (c_X7_placeOfBar G ex n σ rb u nm on bm k l hc0 hc1 (by omega) hw hon hbm (by omega) (by omega)) ?_
            refine A_iconst (v := (q_d (0))) hg dX7_refusal_69 (by decide) ?_
            refine A_icmp_eqM (tgt := 78) hg dX7_refusal_70 (by have hq := s_first_le (s_barp u k l) (u 20); split <;> first | omega | (unfold s_bar; omega)) (by decide) (by decide) (fun c70 => ?_) (fun c70 => ?_)
            · skip
              refine A_iconst (v := (nI (0))) hg dX7_refusal_78 (by decide) ?_
              rw [hQ]
              exact A_ireturn hg (by decide) (by decide) rfl dX7_refusal_79 ⟨rfl, ⟨rfl, (x_forb_e (by omega) (by first | exact Or.inl ⟨by omega, by omega⟩ | exact Or.inr ⟨by omega, Or.inl (hon.2.2.mpr c32)⟩ | exact Or.inr ⟨by omega, Or.inr (x_only_t hon c42)⟩) (by first | exact Or.inl ⟨s_bar_yes c70, rfl⟩ | exact Or.inr ⟨s_bar_no c70, rfl⟩))⟩⟩
            · skip
              refine A_bipush (v := (nI (7))) hg dX7_refusal_73 (by decide) ?_
              refine A_goto (tgt := 79) hg dX7_refusal_75 (by decide) ?_
              rw [hQ]
              exact A_ireturn hg (by decide) (by decide) rfl dX7_refusal_79 ⟨rfl, ⟨rfl, (x_forb_e (by omega) (by first | exact Or.inl ⟨by omega, by omega⟩ | exact Or.inr ⟨by omega, Or.inl (hon.2.2.mpr c32)⟩ | exact Or.inr ⟨by omega, Or.inr (x_only_t hon c42)⟩) (by first | exact Or.inl ⟨s_bar_yes c70, rfl⟩ | exact Or.inr ⟨s_bar_no c70, rfl⟩))⟩⟩
          · skip
            refine A_aload_n hg dX7_refusal_35 rfl rfl ?_
            refine A_iload_n hg dX7_refusal_36 rfl rfl ?_
            refine A_iload_n hg dX7_refusal_37 rfl rfl ?_
            refine A_iaddN hg dX7_refusal_38 ?_
            refine A_eV (kc2 := 0) (ks2 := 0) (As := [.int (nI (k + l))]) (rest := []) hg lk_RX7_38 in_X7_hasOnly se_X7_hasOnly rfl dX7_refusal_39 ⟨by decide, by decide⟩ rfl rfl ⟨by decide, by decide⟩ hc0 (by omega) rfl rfl (Nat.le_of_ble_eq_true rfl) (c_X7_hasOnly G ex n σ rb u nm on bm (k + l) hc0 hc1 (by omega) hw hon hbm (by omega)) ?_
            refine A_if_neB (tgt := 63) hg dX7_refusal_42 (by decide) (fun c42 => ?_) (fun c42 => ?_)
            · skip
              refine A_aload_n hg dX7_refusal_63 rfl rfl ?_
              refine A_iload_n hg dX7_refusal_64 rfl rfl ?_
              refine A_iload_n hg dX7_refusal_65 rfl rfl ?_
              refine A_eV (kc2 := 0) (ks2 := 0) (As := [.int (nI (k)), .int (nI (l))]) (rest := []) hg lk_RX7_42 in_X7_placeOfBar se_X7_placeOfBar rfl dX7_refusal_66 ⟨by decide, by decide⟩ rfl rfl ⟨by decide, by decide⟩ hc0 (by omega) rfl rfl (Nat.le_of_ble_eq_true rfl) (c_X7_placeOfBar G ex n σ rb u nm on bm k l hc0 hc1 (by omega) hw hon hbm (by omega) (by omega)) ?_
              refine A_iconst (v := (q_d (0))) hg dX7_refusal_69 (by decide) ?_
              refine A_icmp_eqM (tgt := 78) hg dX7_refusal_70 (by have hq := s_first_le (s_barp u k l) (u 20); split <;> first | omega | (unfold s_bar; omega)) (by decide) (by decide) (fun c70 => ?_) (fun c70 => ?_)
              · skip
                refine A_iconst (v := (nI (0))) hg dX7_refusal_78 (by decide) ?_
                rw [hQ]
                exact A_ireturn hg (by decide) (by decide) rfl dX7_refusal_79 ⟨rfl, ⟨rfl, (x_forb_e (by omega) (by first | exact Or.inl ⟨by omega, by omega⟩ | exact Or.inr ⟨by omega, Or.inl (hon.2.2.mpr c32)⟩ | exact Or.inr ⟨by omega, Or.inr (x_only_t hon c42)⟩) (by first | exact Or.inl ⟨s_bar_yes c70, rfl⟩ | exact Or.inr ⟨s_bar_no c70, rfl⟩))⟩⟩
              · skip
                refine A_bipush (v := (nI (7))) hg dX7_refusal_73 (by decide) ?_
                refine A_goto (tgt := 79) hg dX7_refusal_75 (by decide) ?_
                rw [hQ]
                exact A_ireturn hg (by decide) (by decide) rfl dX7_refusal_79 ⟨rfl, ⟨rfl, (x_forb_e (by omega) (by first | exact Or.inl ⟨by omega, by omega⟩ | exact Or.inr ⟨by omega, Or.inl (hon.2.2.mpr c32)⟩ | exact Or.inr ⟨by omega, Or.inr (x_only_t hon c42)⟩) (by first | exact Or.inl ⟨s_bar_yes c70, rfl⟩ | exact Or.inr ⟨s_bar_no c70, rfl⟩))⟩⟩
            · skip
              refine A_iconst (v := (nI (5))) hg dX7_refusal_45 (by decide) ?_
              rw [hQ]
              exact A_ireturn hg (by decide) (by decide) rfl dX7_refusal_46 ⟨rfl, ⟨rfl, (by unfold s_forb; rw [if_neg (by omega), if_pos ⟨by omega, by have := hon.2.2; omega, x_only_f hon c42 (fun i hi => hw.2.2.2.2.1 i (by omega))⟩])⟩⟩
    · skip
      refine A_iconst (v := (nI (4))) hg dX7_refusal_16 (by decide) ?_
      rw [hQ]
      exact A_ireturn hg (by decide) (by decide) rfl dX7_refusal_17 ⟨rfl, ⟨rfl, (by unfold s_forb; rw [if_pos (by omega)])⟩⟩
end
