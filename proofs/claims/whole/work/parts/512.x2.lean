section
set_option maxRecDepth 100000 in
set_option maxHeartbeats 4000000 in
theorem c_X7_begin (G : GL) (ex : Bool) (n : Nat) (σ : Nat → va_E) (rb : Nat) (nm : Nat) (on : Nat) (sl : Nat) (mo : Nat) (nb : Nat) (nm2 : Nat) (hc0 : σ rb = o7 G (rb) (lN (nm)) (lN (on)) (nI (sl)) (nI (mo)) (nI (nb))) (hrb : rb < n) : Ct G yX7_begin cX7_begin 3 none ⟨0, 0, 0, 0⟩ [.ref (q_h G + rb), .long (lN (nm2))] ex n σ (fun v9 σ2 => v9 = none ∧ σ2 rb = o7 G (rb) (lN (nm2)) (lN (0)) (nI (1)) (nI (40)) (nI (0)) ∧ (∀ i : Nat, i ≠ rb → σ2 i = σ i)) := by
  refine q_enter [some (.ref (q_h G + rb)), some (.long (lN (nm2))), none] (by decide) (Nat.le_of_ble_eq_true rfl) rfl ?_
  intro K hg
  obtain ⟨Q, hQ⟩ : ∃ Q, Q = q_Q G K ex n 0 0 (fun v9 n' σ' => n' = n ∧ (fun v9 σ2 => v9 = none ∧ σ2 rb = o7 G (rb) (lN (nm2)) (lN (0)) (nI (1)) (nI (40)) (nI (0)) ∧ (∀ i : Nat, i ≠ rb → σ2 i = σ i)) v9 σ') q_noX := ⟨_, rfl⟩
  refine (?_ : AJ G K (q_Q G K ex n 0 0 _ _) 0 0 ex n 0 _ _ σ)
  rw [← hQ]
  refine A_aload_n hg dX7_begin_0 rfl rfl ?_
  refine A_lload_n hg dX7_begin_1 rfl rfl ?_
  refine A_putf hg fl_RX7_9 dX7_begin_2 hc0 (by omega) (Nat.le_of_ble_eq_true rfl) rfl rfl rfl (fun σ_1 hc_2 hf_3 => ?_)
  have hc_2 : σ_1 rb = o7 G (rb) (lN (nm2)) (lN (on)) (nI (sl)) (nI (mo)) (nI (nb)) := hc_2
  refine A_aload_n hg dX7_begin_5 rfl rfl ?_
  refine A_lconst (v := (lN (0))) hg dX7_begin_6 (by decide) ?_
  refine A_putf hg fl_RX7_15 dX7_begin_7 hc_2 (by omega) (Nat.le_of_ble_eq_true rfl) rfl rfl rfl (fun σ_4 hc_5 hf_6 => ?_)
  have hc_5 : σ_4 rb = o7 G (rb) (lN (nm2)) (lN (0)) (nI (sl)) (nI (mo)) (nI (nb)) := hc_5
  refine A_aload_n hg dX7_begin_10 rfl rfl ?_
  refine A_iconst (v := (nI (1))) hg dX7_begin_11 (by decide) ?_
  refine A_putf hg fl_RX7_18 dX7_begin_12 hc_5 (by omega) (Nat.le_of_ble_eq_true rfl) rfl rfl rfl (fun σ_7 hc_8 hf_9 => ?_)
  have hc_8 : σ_7 rb = o7 G (rb) (lN (nm2)) (lN (0)) (nI (1)) (nI (mo)) (nI (nb)) := hc_8
  refine A_aload_n hg dX7_begin_15 rfl rfl ?_
  refine A_bipush (v := (nI (40))) hg dX7_begin_16 (by decide) ?_
  refine A_putf hg fl_RX7_22 dX7_begin_18 hc_8 (by omega) (Nat.le_of_ble_eq_true rfl) rfl rfl rfl (fun σ_10 hc_11 hf_12 => ?_)
  have hc_11 : σ_10 rb = o7 G (rb) (lN (nm2)) (lN (0)) (nI (1)) (nI (40)) (nI (nb)) := hc_11
  refine A_aload_n hg dX7_begin_21 rfl rfl ?_
  refine A_iconst (v := (nI (0))) hg dX7_begin_22 (by decide) ?_
  refine A_putf hg fl_RX7_25 dX7_begin_23 hc_11 (by omega) (Nat.le_of_ble_eq_true rfl) rfl rfl rfl (fun σ_13 hc_14 hf_15 => ?_)
  have hc_14 : σ_13 rb = o7 G (rb) (lN (nm2)) (lN (0)) (nI (1)) (nI (40)) (nI (0)) := hc_14
  rw [hQ]
  exact A_return hg (by decide) (by decide) rfl dX7_begin_26 ⟨rfl, ⟨rfl, hc_14, (fun i hi => ((hf_15 i (by omega)).trans ((hf_12 i (by omega)).trans ((hf_9 i (by omega)).trans ((hf_6 i (by omega)).trans (hf_3 i (by omega)))))))⟩⟩
set_option maxRecDepth 100000 in
set_option maxHeartbeats 4000000 in
theorem c_X7_addOnly (G : GL) (ex : Bool) (n : Nat) (σ : Nat → va_E) (rb : Nat) (nm : Nat) (on : Nat) (sl : Nat) (mo : Nat) (nb : Nat) (x : Nat) (hc0 : σ rb = o7 G (rb) (lN (nm)) (lN (on)) (nI (sl)) (nI (mo)) (nI (nb))) (hrb : rb < n) (hx : x ≤ 40) : Ct G yX7_addOnly cX7_addOnly 2 none ⟨0, 0, 0, 0⟩ [.ref (q_h G + rb), .int (nI (x))] ex n σ (fun v9 σ2 => v9 = none ∧ σ2 rb = o7 G (rb) (lN (nm)) (lN (on ||| 2 ^ x)) (nI (sl)) (nI (mo)) (nI (nb)) ∧ (∀ i : Nat, i ≠ rb → σ2 i = σ i)) := by
  refine q_enter [some (.ref (q_h G + rb)), some (.int (nI (x)))] (by decide) (Nat.le_of_ble_eq_true rfl) rfl ?_
  intro K hg
  obtain ⟨Q, hQ⟩ : ∃ Q, Q = q_Q G K ex n 0 0 (fun v9 n' σ' => n' = n ∧ (fun v9 σ2 => v9 = none ∧ σ2 rb = o7 G (rb) (lN (nm)) (lN (on ||| 2 ^ x)) (nI (sl)) (nI (mo)) (nI (nb)) ∧ (∀ i : Nat, i ≠ rb → σ2 i = σ i)) v9 σ') q_noX := ⟨_, rfl⟩
  refine (?_ : AJ G K (q_Q G K ex n 0 0 _ _) 0 0 ex n 0 _ _ σ)
  rw [← hQ]
  refine A_iload_n hg dX7_addOnly_0 rfl rfl ?_
  refine A_if_ltN (tgt := 22) hg dX7_addOnly_1 (by omega) (by decide) ?_
  refine A_iload_n hg dX7_addOnly_4 rfl rfl ?_
  refine A_bipush (v := (nI (40))) hg dX7_addOnly_5 (by decide) ?_
  refine A_icmp_gtN (tgt := 22) hg dX7_addOnly_7 (by omega) (by decide) (by decide) (fun c7 => absurd hx (by omega)) (fun c7 => ?_)
  refine A_aload_n hg dX7_addOnly_10 rfl rfl ?_
  refine A_dup hg dX7_addOnly_11 rfl ?_
  refine A_getf (v := .long (lN (on))) hg fl_RX7_15 dX7_addOnly_12 hc0 (by omega) rfl ?_
  refine A_lconst (v := (lN (1))) hg dX7_addOnly_15 (by decide) ?_
  refine A_iload_n hg dX7_addOnly_16 rfl rfl ?_
  refine A_lshl (v := lN (2 ^ x)) hg dX7_addOnly_17 (lP_shl1' (by omega)) ?_
  refine A_lorP hg dX7_addOnly_18 ?_
  refine A_putf hg fl_RX7_15 dX7_addOnly_19 hc0 (by omega) (Nat.le_of_ble_eq_true rfl) rfl rfl rfl (fun σ_1 hc_2 hf_3 => ?_)
  have hc_2 : σ_1 rb = o7 G (rb) (lN (nm)) (lN (on ||| (2 ^ x))) (nI (sl)) (nI (mo)) (nI (nb)) := hc_2
  rw [hQ]
  exact A_return hg (by decide) (by decide) rfl dX7_addOnly_22 ⟨rfl, ⟨rfl, hc_2, (fun i hi => (hf_3 i (by omega)))⟩⟩
set_option maxRecDepth 100000 in
set_option maxHeartbeats 4000000 in
theorem c_X7_hasOnlyR (G : GL) (ex : Bool) (n : Nat) (σ : Nat → va_E) (rb : Nat) (nm : Nat) (on : Nat) (sl : Nat) (mo : Nat) (nb : Nat) (x : Nat) (hc0 : σ rb = o7 G (rb) (lN (nm)) (lN (on)) (nI (sl)) (nI (mo)) (nI (nb))) (hrb : rb < n) (hon9 : on < 2 ^ 41) (hx : x < 2 ^ 31) : Ct G yX7_hasOnly cX7_hasOnly 2 (some .boolean) ⟨0, 0, 0, 0⟩ [.ref (q_h G + rb), .int (nI (x))] ex n σ (fun v9 σ2 => σ2 = σ ∧ v9 = some (.int (q_b (decide (x ≤ 40) && on.testBit x)))) := by
  refine q_enter [some (.ref (q_h G + rb)), some (.int (nI (x)))] (by decide) (Nat.le_of_ble_eq_true rfl) rfl ?_
  intro K hg
  obtain ⟨Q, hQ⟩ : ∃ Q, Q = q_Q G K ex n 0 0 (fun v9 n' σ' => n' = n ∧ (fun v9 σ2 => σ2 = σ ∧ v9 = some (.int (q_b (decide (x ≤ 40) && on.testBit x)))) v9 σ') q_noX := ⟨_, rfl⟩
  refine (?_ : AJ G K (q_Q G K ex n 0 0 _ _) 0 0 ex n 0 _ _ σ)
  rw [← hQ]
  refine A_iload_n hg dX7_hasOnly_0 rfl rfl ?_
  refine A_if_ltN (tgt := 27) hg dX7_hasOnly_1 (by omega) (by decide) ?_
  refine A_iload_n hg dX7_hasOnly_4 rfl rfl ?_
  refine A_bipush (v := (nI (40))) hg dX7_hasOnly_5 (by decide) ?_
  refine A_icmp_gtN (tgt := 27) hg dX7_hasOnly_7 (by omega) (by decide) (by decide) (fun c7 => ?_) (fun c7 => ?_)
  · skip
    refine A_iconst (v := (nI (0))) hg dX7_hasOnly_27 (by decide) ?_
    rw [hQ]
    exact A_zreturn hg (by decide) (by decide) rfl rfl dX7_hasOnly_28 ⟨rfl, ⟨rfl, (q_rf (by first | (rw [decide_eq_false (show ¬ x ≤ 40 by omega)]; rfl) | (rw [Bool.eq_false_iff.mpr (fun z => c20 (x_bit1.mpr z)), Bool.and_false])))⟩⟩
  · skip
    refine A_aload_n hg dX7_hasOnly_10 rfl rfl ?_
    refine A_getf (v := .long (lN (on))) hg fl_RX7_15 dX7_hasOnly_11 hc0 (by omega) rfl ?_
    refine A_iload_n hg dX7_hasOnly_14 rfl rfl ?_
    refine A_lushrP hg dX7_hasOnly_15 (Nat.lt_of_lt_of_le hon9 (by decide)) (by omega) ?_
    refine A_lconst (v := (lN (1))) hg dX7_hasOnly_16 (by decide) ?_
    refine A_landP hg dX7_hasOnly_17 ?_
    refine A_lconst (v := (lN (1))) hg dX7_hasOnly_18 (by decide) ?_
    refine A_lcmp hg dX7_hasOnly_19 ?_
    refine A_lc_ne (tgt := 27) hg dX7_hasOnly_20 (Nat.lt_of_le_of_lt Nat.and_le_right (by decide)) (by decide) (by decide) (fun c20 => ?_) (fun c20 => ?_)
    · skip
      refine A_iconst (v := (nI (0))) hg dX7_hasOnly_27 (by decide) ?_
      rw [hQ]
      exact A_zreturn hg (by decide) (by decide) rfl rfl dX7_hasOnly_28 ⟨rfl, ⟨rfl, (q_rf (by first | (rw [decide_eq_false (show ¬ x ≤ 40 by omega)]; rfl) | (rw [Bool.eq_false_iff.mpr (fun z => c20 (x_bit1.mpr z)), Bool.and_false])))⟩⟩
    · skip
      refine A_iconst (v := (nI (1))) hg dX7_hasOnly_23 (by decide) ?_
      refine A_goto (tgt := 28) hg dX7_hasOnly_24 (by decide) ?_
      rw [hQ]
      exact A_zreturn hg (by decide) (by decide) rfl rfl dX7_hasOnly_28 ⟨rfl, ⟨rfl, (q_rt (by rw [decide_eq_true (show x ≤ 40 by omega), x_bit1.mp c20]; rfl))⟩⟩
set_option maxRecDepth 100000 in
set_option maxHeartbeats 4000000 in
theorem c_X7_onlyAt (G : GL) (ex : Bool) (n : Nat) (σ : Nat → va_E) (rb : Nat) (nm : Nat) (on : Nat) (sl : Nat) (mo : Nat) (nb : Nat) (x : Int32) (hc0 : σ rb = o7 G (rb) (lN (nm)) (lN (on)) (nI (sl)) (nI (mo)) (nI (nb))) (hrb : rb < n) (hon9 : on < 2 ^ 41) : Ct G yX7_onlyAt cX7_onlyAt 4 (some .int) ⟨1, 0, 0, 21⟩ [.ref (q_h G + rb), .int (x)] ex n σ (fun v9 σ2 => (∃ (r : Nat), v9 = some (.int (nI (r))) ∧ (1 ≤ r) ∧ (r ≤ 40) ∧ (on.testBit r = true) ∧ (x = nI (x_oc on r)) ∧ σ2 = σ) ∨ (v9 = some (.int (q_d (0))) ∧ (∀ j : Nat, j < x_oc on 41 → x = nI j → False) ∧ σ2 = σ)) := by
  refine q_enter [some (.ref (q_h G + rb)), some (.int (x)), none, none] (by decide) (Nat.le_of_ble_eq_true rfl) rfl ?_
  intro K hg
  obtain ⟨Q, hQ⟩ : ∃ Q, Q = q_Q G K ex n 0 0 (fun v9 n' σ' => n' = n ∧ (fun v9 σ2 => (∃ (r : Nat), v9 = some (.int (nI (r))) ∧ (1 ≤ r) ∧ (r ≤ 40) ∧ (on.testBit r = true) ∧ (x = nI (x_oc on r)) ∧ σ2 = σ) ∨ (v9 = some (.int (q_d (0))) ∧ (∀ j : Nat, j < x_oc on 41 → x = nI j → False) ∧ σ2 = σ)) v9 σ') q_noX := ⟨_, rfl⟩
  refine (?_ : AJ G K (q_Q G K ex n 0 0 _ _) 0 0 ex n 0 _ _ σ)
  rw [← hQ]
  refine A_iconst (v := (nI (0))) hg dX7_onlyAt_0 (by decide) ?_
  refine A_istore_n hg dX7_onlyAt_1 rfl (by decide) (q_c1d rfl) ?_
  refine A_eq (ls2 := [some (.ref (q_h G + rb)), some (.int (x)), some (.int (nI (0))), none]) (st2 := []) (pc2 := 0) rfl rfl ?_
  refine A_iconst (v := (nI (1))) hg dX7_onlyAt_2 (by decide) ?_
  refine A_istore_n hg dX7_onlyAt_3 rfl (by decide) (q_c1d rfl) ?_
  refine A_eq (ls2 := [some (.ref (q_h G + rb)), some (.int (x)), some (.int (nI (0))), some (.int (nI (1)))]) (st2 := []) (pc2 := 0) rfl rfl ?_
  have hL4 : ∀ (fu : Nat) (q : Nat) (a : Nat), (1 ≤ q ∧ q ≤ 41) → (a = x_oc on q) → (∀ j : Nat, j < a → x = nI j → False) → (41 - q) < fu → AJ G K Q 0 0 ex n 4 [some (.ref (q_h G + rb)), some (.int (x)), some (.int (nI (a))), some (.int (nI (q)))] [] σ := by
    intro fu
    induction fu with
    | zero => intro q a hq ha hnx hm; exact absurd hm (Nat.not_lt_zero _)
    | succ fu ih4 =>
      intro q a hq ha hnx hm4
      have hal := x_oc_le on q
      refine A_iload_n hg dX7_onlyAt_4 rfl rfl ?_
      refine A_bipush (v := (nI (40))) hg dX7_onlyAt_5 (by decide) ?_
      refine A_icmp_gtN (tgt := 34) hg dX7_onlyAt_7 (by omega) (by decide) (by decide) (fun c7 => ?_) (fun c7 => ?_)
      · skip
        refine A_iconst (v := (q_d (0))) hg dX7_onlyAt_34 (by decide) ?_
        rw [hQ]
        exact A_ireturn hg (by decide) (by decide) rfl dX7_onlyAt_35 ⟨rfl, Or.inr ((⟨rfl, (fun j hj e => hnx j (by rw [ha, show q = 41 by omega]; exact hj) e), rfl⟩))⟩
      · skip
        refine A_aload_n hg dX7_onlyAt_10 rfl rfl ?_
        refine A_iload_n hg dX7_onlyAt_11 rfl rfl ?_
        refine A_eV (kc2 := 0) (ks2 := 0) (As := [.int (nI (q))]) (rest := []) hg lk_RX7_38 in_X7_hasOnly se_X7_hasOnly rfl dX7_onlyAt_12 ⟨by decide, by decide⟩ rfl rfl ⟨by decide, by decide⟩ hc0 (by omega) rfl rfl (Nat.le_of_ble_eq_true rfl) (c_X7_hasOnlyR G ex n σ rb nm on sl mo nb q hc0 (by omega) hon9 (by omega)) ?_
        refine A_if_eqB (tgt := 28) hg dX7_onlyAt_15 (by decide) (fun c15 => ?_) (fun c15 => ?_)
        · skip
          refine A_iincN (k' := 1) hg dX7_onlyAt_28 (by decide) rfl (by decide) (q_c1d rfl) ?_
          refine A_eq (ls2 := [some (.ref (q_h G + rb)), some (.int (x)), some (.int (nI (a))), some (.int (nI (q + 1)))]) (st2 := []) (pc2 := 0) rfl rfl ?_
          refine A_goto (tgt := 4) hg dX7_onlyAt_31 (by decide) ?_
          exact ih4 (q + 1) a (by omega) (by rw [x_oc_f (x_tf (by omega) c15)]; exact ha) hnx (by omega)
        · skip
          refine A_iload_n hg dX7_onlyAt_18 rfl rfl ?_
          refine A_iload_n hg dX7_onlyAt_19 rfl rfl ?_
          refine A_icmp_ne (tgt := 25) hg dX7_onlyAt_20 (by decide) (fun c20 => ?_) (fun c20 => ?_)
          · skip
            refine A_iincN (k' := 1) hg dX7_onlyAt_25 (by decide) rfl (by decide) (q_c1d rfl) ?_
            refine A_eq (ls2 := [some (.ref (q_h G + rb)), some (.int (x)), some (.int (nI (a + 1))), some (.int (nI (q)))]) (st2 := []) (pc2 := 0) rfl rfl ?_
            refine A_iincN (k' := 1) hg dX7_onlyAt_28 (by decide) rfl (by decide) (q_c1d rfl) ?_
            refine A_eq (ls2 := [some (.ref (q_h G + rb)), some (.int (x)), some (.int (nI (a + 1))), some (.int (nI (q + 1)))]) (st2 := []) (pc2 := 0) rfl rfl ?_
            refine A_goto (tgt := 4) hg dX7_onlyAt_31 (by decide) ?_
            exact ih4 (q + 1) (a + 1) (by omega) (by rw [x_oc_t hq.1 (x_tb c15), ha]) (fun j hj e => by by_cases z : j = a; (exact c20 (by rw [e, z])); exact hnx j (by omega) e) (by omega)
          · skip
            refine A_iload_n hg dX7_onlyAt_23 rfl rfl ?_
            rw [hQ]
            exact A_ireturn hg (by decide) (by decide) rfl dX7_onlyAt_24 ⟨rfl, Or.inl (⟨q, rfl, hq.1, (by omega), (x_tb c15), (by rw [← ha]; exact c20.symm), rfl⟩)⟩
  exact hL4 _ 1 0 (⟨Nat.le_refl _, by decide⟩) ((x_oc_1 on).symm) (fun j h => absurd h (Nat.not_lt_zero j)) (Nat.lt_succ_self _)
set_option maxRecDepth 100000 in
set_option maxHeartbeats 4000000 in
theorem c_X7_barAt (G : GL) (ex : Bool) (n : Nat) (σ : Nat → va_E) (rb : Nat) (nm : Nat) (on : Nat) (sl : Nat) (mo : Nat) (nb : Nat) (bm : Nat → Nat) (x : Int32) (hc0 : σ rb = o7 G (rb) (lN (nm)) (lN (on)) (nI (sl)) (nI (mo)) (nI (nb))) (hc1 : σ (rb + 1) = q_an G 5 bm) (hrb : rb + 1 < n) (hnb : nb ≤ 5) : Ct G yX7_barAt cX7_barAt 2 (some .int) ⟨0, 0, 0, 0⟩ [.ref (q_h G + rb), .int (x)] ex n σ (fun v9 σ2 => (∃ (j : Nat), v9 = some (.int (nI (bm j))) ∧ (x = nI j) ∧ (j < nb) ∧ σ2 = σ) ∨ (v9 = some (.int (q_d (0))) ∧ (∀ j : Nat, j < nb → x = nI j → False) ∧ σ2 = σ)) := by
  refine q_enter [some (.ref (q_h G + rb)), some (.int (x))] (by decide) (Nat.le_of_ble_eq_true rfl) rfl ?_
  intro K hg
  obtain ⟨Q, hQ⟩ : ∃ Q, Q = q_Q G K ex n 0 0 (fun v9 n' σ' => n' = n ∧ (fun v9 σ2 => (∃ (j : Nat), v9 = some (.int (nI (bm j))) ∧ (x = nI j) ∧ (j < nb) ∧ σ2 = σ) ∨ (v9 = some (.int (q_d (0))) ∧ (∀ j : Nat, j < nb → x = nI j → False) ∧ σ2 = σ)) v9 σ') q_noX := ⟨_, rfl⟩
  refine (?_ : AJ G K (q_Q G K ex n 0 0 _ _) 0 0 ex n 0 _ _ σ)
  rw [← hQ]
  refine A_iload_n hg dX7_barAt_0 rfl rfl ?_
  refine A_if_lt (tgt := 30) hg dX7_barAt_1 (by decide) (fun c1 => ?_) (fun c1 => ?_)
  · skip
    refine A_iconst (v := (q_d (0))) hg dX7_barAt_30 (by decide) ?_
    rw [hQ]
    exact A_ireturn hg (by decide) (by decide) rfl dX7_barAt_31 ⟨rfl, Or.inr ((⟨rfl, (fun i hi e => nI_pos (show i < 2 ^ 31 by omega) (e ▸ c1)), rfl⟩))⟩
  · skip
    obtain ⟨j, hj31, hxe⟩ := nI_of c1
    subst hxe
    refine A_iload_n hg dX7_barAt_4 rfl rfl ?_
    refine A_aload_n hg dX7_barAt_5 rfl rfl ?_
    refine A_getf (v := .int (nI (nb))) hg fl_RX7_25 dX7_barAt_6 hc0 (by omega) rfl ?_
    refine A_icmp_geN (tgt := 30) hg dX7_barAt_9 (by omega) (by omega) (by decide) (fun c9 => ?_) (fun c9 => ?_)
    · skip
      refine A_iconst (v := (q_d (0))) hg dX7_barAt_30 (by decide) ?_
      rw [hQ]
      exact A_ireturn hg (by decide) (by decide) rfl dX7_barAt_31 ⟨rfl, Or.inr ((⟨rfl, (fun i hi e => by have := q_nI_inj hj31 (by omega) e; omega), rfl⟩))⟩
    · skip
      refine A_iload_n hg dX7_barAt_12 rfl rfl ?_
      refine A_aload_n hg dX7_barAt_13 rfl rfl ?_
      refine A_getf (v := .ref (q_h G + (rb + 1))) hg fl_RX7_28 dX7_barAt_14 hc0 (by omega) rfl ?_
      refine A_alen (t := 0) (len := 5) hg dX7_barAt_17 hc1 (by decide) (by omega) ?_
      refine A_icmp_geN (tgt := 30) hg dX7_barAt_18 (by omega) (by decide) (by decide) (fun c18 => ?_) (fun c18 => ?_)
      · skip
        refine A_iconst (v := (q_d (0))) hg dX7_barAt_30 (by decide) ?_
        rw [hQ]
        exact A_ireturn hg (by decide) (by decide) rfl dX7_barAt_31 ⟨rfl, Or.inr ((⟨rfl, (fun i hi e => by have := q_nI_inj hj31 (by omega) e; omega), rfl⟩))⟩
      · skip
        refine A_aload_n hg dX7_barAt_21 rfl rfl ?_
        refine A_getf (v := .ref (q_h G + (rb + 1))) hg fl_RX7_28 dX7_barAt_22 hc0 (by omega) rfl ?_
        refine A_iload_n hg dX7_barAt_25 rfl rfl ?_
        refine A_iald (j := j) hg dX7_barAt_26 hc1 (by omega) (by omega) (by decide) ?_
        refine A_goto (tgt := 31) hg dX7_barAt_27 (by decide) ?_
        rw [hQ]
        exact A_ireturn hg (by decide) (by decide) rfl dX7_barAt_31 ⟨rfl, Or.inl (⟨j, rfl, (by first | rfl | assumption | omega), (by omega), rfl⟩)⟩
end
