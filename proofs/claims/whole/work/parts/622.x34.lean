section
set_option maxRecDepth 100000 in
set_option maxHeartbeats 4000000 in
theorem c_X10_appendFour (G : GL) (ex : Bool) (n : Nat) (σ : Nat → va_E) (z2 : Int32) (z3 : Int32) (f : Nat → Nat) (m : Nat) (a : Int32) (hc0 : σ 0 = o10 G (nI (m)) (z2) (z3)) (hc1 : σ 1 = q_an G 600 f) (hn9 : 279 ≤ n) (hm : m + 4 ≤ 600) : Ct G yX10_appendFour cX10_appendFour 3 none ⟨0, 0, 0, 0⟩ [.ref (q_h G + 0), .int (a)] ex n σ (fun v9 σ2 => v9 = none ∧ σ2 0 = o10 G (nI (m + 4)) (z2) (z3) ∧ σ2 1 = q_an G 600 (s_apw f m a) ∧ (∀ i : Nat, i ≠ 0 ∧ i ≠ 1 → σ2 i = σ i)) := by
  refine q_enter [some (.ref (q_h G + 0)), some (.int (a)), none] (by decide) (Nat.le_of_ble_eq_true rfl) rfl ?_
  intro K hg
  obtain ⟨Q, hQ⟩ : ∃ Q, Q = q_Q G K ex n 0 0 (fun v9 n' σ' => n' = n ∧ (fun v9 σ2 => v9 = none ∧ σ2 0 = o10 G (nI (m + 4)) (z2) (z3) ∧ σ2 1 = q_an G 600 (s_apw f m a) ∧ (∀ i : Nat, i ≠ 0 ∧ i ≠ 1 → σ2 i = σ i)) v9 σ') q_noX := ⟨_, rfl⟩
  refine (?_ : AJ G K (q_Q G K ex n 0 0 _ _) 0 0 ex n 0 _ _ σ)
  rw [← hQ]
  refine A_bipush (v := (nI (24))) hg dX10_appendFour_0 (by decide) ?_
  refine A_istore_n hg dX10_appendFour_2 rfl (by decide) (q_c1d rfl) ?_
  refine A_eq (ls2 := [some (.ref (q_h G + 0)), some (.int (a)), some (.int (nI (24)))]) (st2 := []) (pc2 := 0) rfl rfl ?_
  refine A_iload_n hg dX10_appendFour_3 rfl rfl ?_
  refine A_if_ltN (tgt := 49) hg dX10_appendFour_4 (by decide) (by decide) ?_
  refine A_aload_n hg dX10_appendFour_7 rfl rfl ?_
  refine A_getf (v := .int (nI (m))) hg fl_RX10_13 dX10_appendFour_8 hc0 (by omega) rfl ?_
  refine A_sipush (v := (nI (600))) hg dX10_appendFour_11 (by decide) ?_
  refine A_icmp_geN (tgt := 43) hg dX10_appendFour_14 (by omega) (by decide) (by decide) (fun c14 => absurd c14 (by omega)) (fun c14 => ?_)
  refine A_aload_n hg dX10_appendFour_17 rfl rfl ?_
  refine A_getf (v := .ref (q_h G + 1)) hg fl_RX10_9 dX10_appendFour_18 hc0 (by omega) rfl ?_
  refine A_aload_n hg dX10_appendFour_21 rfl rfl ?_
  refine A_getf (v := .int (nI (m))) hg fl_RX10_13 dX10_appendFour_22 hc0 (by omega) rfl ?_
  refine A_iload_n hg dX10_appendFour_25 rfl rfl ?_
  refine A_iload_n hg dX10_appendFour_26 rfl rfl ?_
  refine A_iushr (v := ((a).toUInt32 >>> ((nI (24)).toUInt32 &&& Int32.toUInt32 31)).toInt32) hg dX10_appendFour_27 rfl ?_
  refine A_sipush (v := (nI (255))) hg dX10_appendFour_28 (by decide) ?_
  refine A_iand hg dX10_appendFour_31 ?_
  refine A_top (w := .int (nI (s_by a 24))) (congrArg Value.int (x_by a 24 (by decide))) ?_
  refine A_iast (j := m) (x := (s_by a 24)) hg dX10_appendFour_32 hc1 (by omega) (by omega) (by decide) (fun σ_1 hc_2 hf_3 => ?_)
  have hc_4 : σ_1 0 = o10 G (nI (m)) (z2) (z3) := (hf_3 _ (by omega)).trans hc0
  refine A_aload_n hg dX10_appendFour_33 rfl rfl ?_
  refine A_dup hg dX10_appendFour_34 rfl ?_
  refine A_getf (v := .int (nI (m))) hg fl_RX10_13 dX10_appendFour_35 hc_4 (by omega) rfl ?_
  refine A_iconst (v := (nI (1))) hg dX10_appendFour_38 (by decide) ?_
  refine A_iaddN hg dX10_appendFour_39 ?_
  refine A_putf hg fl_RX10_13 dX10_appendFour_40 hc_4 (by omega) (Nat.le_of_ble_eq_true rfl) rfl rfl rfl (fun σ_5 hc_6 hf_7 => ?_)
  have hc_6 : σ_5 0 = o10 G (nI (m + 1)) (z2) (z3) := hc_6
  have hc_8 : σ_5 1 = q_an G 600 (va_up f m (s_by a 24)) := (hf_7 _ (by omega)).trans hc_2
  refine A_iinc (v := (nI (16))) hg dX10_appendFour_43 rfl (by decide) (by decide) (q_c1d rfl) ?_
  refine A_eq (ls2 := [some (.ref (q_h G + 0)), some (.int (a)), some (.int (nI (16)))]) (st2 := []) (pc2 := 0) rfl rfl ?_
  refine A_goto (tgt := 3) hg dX10_appendFour_46 (by decide) ?_
  refine A_iload_n hg dX10_appendFour_3 rfl rfl ?_
  refine A_if_ltN (tgt := 49) hg dX10_appendFour_4 (by decide) (by decide) ?_
  refine A_aload_n hg dX10_appendFour_7 rfl rfl ?_
  refine A_getf (v := .int (nI (m + 1))) hg fl_RX10_13 dX10_appendFour_8 hc_6 (by omega) rfl ?_
  refine A_sipush (v := (nI (600))) hg dX10_appendFour_11 (by decide) ?_
  refine A_icmp_geN (tgt := 43) hg dX10_appendFour_14 (by omega) (by decide) (by decide) (fun c14 => absurd c14 (by omega)) (fun c14 => ?_)
  refine A_aload_n hg dX10_appendFour_17 rfl rfl ?_
  refine A_getf (v := .ref (q_h G + 1)) hg fl_RX10_9 dX10_appendFour_18 hc_6 (by omega) rfl ?_
  refine A_aload_n hg dX10_appendFour_21 rfl rfl ?_
  refine A_getf (v := .int (nI (m + 1))) hg fl_RX10_13 dX10_appendFour_22 hc_6 (by omega) rfl ?_
  refine A_iload_n hg dX10_appendFour_25 rfl rfl ?_
  refine A_iload_n hg dX10_appendFour_26 rfl rfl ?_
  refine A_iushr (v := ((a).toUInt32 >>> ((nI (16)).toUInt32 &&& Int32.toUInt32 31)).toInt32) hg dX10_appendFour_27 rfl ?_
  refine A_sipush (v := (nI (255))) hg dX10_appendFour_28 (by decide) ?_
  refine A_iand hg dX10_appendFour_31 ?_
  refine A_top (w := .int (nI (s_by a 16))) (congrArg Value.int (x_by a 16 (by decide))) ?_
  refine A_iast (j := (m + 1)) (x := (s_by a 16)) hg dX10_appendFour_32 hc_8 (by omega) (by omega) (by decide) (fun σ_9 hc_10 hf_11 => ?_)
  have hc_12 : σ_9 0 = o10 G (nI (m + 1)) (z2) (z3) := (hf_11 _ (by omega)).trans hc_6
  refine A_aload_n hg dX10_appendFour_33 rfl rfl ?_
  refine A_dup hg dX10_appendFour_34 rfl ?_
  refine A_getf (v := .int (nI (m + 1))) hg fl_RX10_13 dX10_appendFour_35 hc_12 (by omega) rfl ?_
  refine A_iconst (v := (nI (1))) hg dX10_appendFour_38 (by decide) ?_
  refine A_iaddN hg dX10_appendFour_39 ?_
  refine A_putf hg fl_RX10_13 dX10_appendFour_40 hc_12 (by omega) (Nat.le_of_ble_eq_true rfl) rfl rfl rfl (fun σ_13 hc_14 hf_15 => ?_)
  have hc_14 : σ_13 0 = o10 G (nI ((m + 1) + 1)) (z2) (z3) := hc_14
  have hc_16 : σ_13 1 = q_an G 600 (va_up (va_up f m (s_by a 24)) (m + 1) (s_by a 16)) := (hf_15 _ (by omega)).trans hc_10
  refine A_iinc (v := (nI (8))) hg dX10_appendFour_43 rfl (by decide) (by decide) (q_c1d rfl) ?_
  refine A_eq (ls2 := [some (.ref (q_h G + 0)), some (.int (a)), some (.int (nI (8)))]) (st2 := []) (pc2 := 0) rfl rfl ?_
  refine A_goto (tgt := 3) hg dX10_appendFour_46 (by decide) ?_
  refine A_iload_n hg dX10_appendFour_3 rfl rfl ?_
  refine A_if_ltN (tgt := 49) hg dX10_appendFour_4 (by decide) (by decide) ?_
  refine A_aload_n hg dX10_appendFour_7 rfl rfl ?_
  refine A_getf (v := .int (nI ((m + 1) + 1))) hg fl_RX10_13 dX10_appendFour_8 hc_14 (by omega) rfl ?_
  refine A_sipush (v := (nI (600))) hg dX10_appendFour_11 (by decide) ?_
  refine A_icmp_geN (tgt := 43) hg dX10_appendFour_14 (by omega) (by decide) (by decide) (fun c14 => absurd c14 (by omega)) (fun c14 => ?_)
  refine A_aload_n hg dX10_appendFour_17 rfl rfl ?_
  refine A_getf (v := .ref (q_h G + 1)) hg fl_RX10_9 dX10_appendFour_18 hc_14 (by omega) rfl ?_
  refine A_aload_n hg dX10_appendFour_21 rfl rfl ?_
  refine A_getf (v := .int (nI ((m + 1) + 1))) hg fl_RX10_13 dX10_appendFour_22 hc_14 (by omega) rfl ?_
  refine A_iload_n hg dX10_appendFour_25 rfl rfl ?_
  refine A_iload_n hg dX10_appendFour_26 rfl rfl ?_
  refine A_iushr (v := ((a).toUInt32 >>> ((nI (8)).toUInt32 &&& Int32.toUInt32 31)).toInt32) hg dX10_appendFour_27 rfl ?_
  refine A_sipush (v := (nI (255))) hg dX10_appendFour_28 (by decide) ?_
  refine A_iand hg dX10_appendFour_31 ?_
  refine A_top (w := .int (nI (s_by a 8))) (congrArg Value.int (x_by a 8 (by decide))) ?_
  refine A_iast (j := ((m + 1) + 1)) (x := (s_by a 8)) hg dX10_appendFour_32 hc_16 (by omega) (by omega) (by decide) (fun σ_17 hc_18 hf_19 => ?_)
  have hc_20 : σ_17 0 = o10 G (nI ((m + 1) + 1)) (z2) (z3) := (hf_19 _ (by omega)).trans hc_14
  refine A_aload_n hg dX10_appendFour_33 rfl rfl ?_
  refine A_dup hg dX10_appendFour_34 rfl ?_
  refine A_getf (v := .int (nI ((m + 1) + 1))) hg fl_RX10_13 dX10_appendFour_35 hc_20 (by omega) rfl ?_
  refine A_iconst (v := (nI (1))) hg dX10_appendFour_38 (by decide) ?_
  refine A_iaddN hg dX10_appendFour_39 ?_
  refine A_putf hg fl_RX10_13 dX10_appendFour_40 hc_20 (by omega) (Nat.le_of_ble_eq_true rfl) rfl rfl rfl (fun σ_21 hc_22 hf_23 => ?_)
  have hc_22 : σ_21 0 = o10 G (nI (((m + 1) + 1) + 1)) (z2) (z3) := hc_22
  have hc_24 : σ_21 1 = q_an G 600 (va_up (va_up (va_up f m (s_by a 24)) (m + 1) (s_by a 16)) ((m + 1) + 1) (s_by a 8)) := (hf_23 _ (by omega)).trans hc_18
  refine A_iinc (v := (nI (0))) hg dX10_appendFour_43 rfl (by decide) (by decide) (q_c1d rfl) ?_
  refine A_eq (ls2 := [some (.ref (q_h G + 0)), some (.int (a)), some (.int (nI (0)))]) (st2 := []) (pc2 := 0) rfl rfl ?_
  refine A_goto (tgt := 3) hg dX10_appendFour_46 (by decide) ?_
  refine A_iload_n hg dX10_appendFour_3 rfl rfl ?_
  refine A_if_ltN (tgt := 49) hg dX10_appendFour_4 (by decide) (by decide) ?_
  refine A_aload_n hg dX10_appendFour_7 rfl rfl ?_
  refine A_getf (v := .int (nI (((m + 1) + 1) + 1))) hg fl_RX10_13 dX10_appendFour_8 hc_22 (by omega) rfl ?_
  refine A_sipush (v := (nI (600))) hg dX10_appendFour_11 (by decide) ?_
  refine A_icmp_geN (tgt := 43) hg dX10_appendFour_14 (by omega) (by decide) (by decide) (fun c14 => absurd c14 (by omega)) (fun c14 => ?_)
  refine A_aload_n hg dX10_appendFour_17 rfl rfl ?_
  refine A_getf (v := .ref (q_h G + 1)) hg fl_RX10_9 dX10_appendFour_18 hc_22 (by omega) rfl ?_
  refine A_aload_n hg dX10_appendFour_21 rfl rfl ?_
  refine A_getf (v := .int (nI (((m + 1) + 1) + 1))) hg fl_RX10_13 dX10_appendFour_22 hc_22 (by omega) rfl ?_
  refine A_iload_n hg dX10_appendFour_25 rfl rfl ?_
  refine A_iload_n hg dX10_appendFour_26 rfl rfl ?_
  refine A_iushr (v := ((a).toUInt32 >>> ((nI (0)).toUInt32 &&& Int32.toUInt32 31)).toInt32) hg dX10_appendFour_27 rfl ?_
  refine A_sipush (v := (nI (255))) hg dX10_appendFour_28 (by decide) ?_
  refine A_iand hg dX10_appendFour_31 ?_
  refine A_top (w := .int (nI (s_by a 0))) (congrArg Value.int (x_by a 0 (by decide))) ?_
  refine A_iast (j := (((m + 1) + 1) + 1)) (x := (s_by a 0)) hg dX10_appendFour_32 hc_24 (by omega) (by omega) (by decide) (fun σ_25 hc_26 hf_27 => ?_)
  have hc_28 : σ_25 0 = o10 G (nI (((m + 1) + 1) + 1)) (z2) (z3) := (hf_27 _ (by omega)).trans hc_22
  refine A_aload_n hg dX10_appendFour_33 rfl rfl ?_
  refine A_dup hg dX10_appendFour_34 rfl ?_
  refine A_getf (v := .int (nI (((m + 1) + 1) + 1))) hg fl_RX10_13 dX10_appendFour_35 hc_28 (by omega) rfl ?_
  refine A_iconst (v := (nI (1))) hg dX10_appendFour_38 (by decide) ?_
  refine A_iaddN hg dX10_appendFour_39 ?_
  refine A_putf hg fl_RX10_13 dX10_appendFour_40 hc_28 (by omega) (Nat.le_of_ble_eq_true rfl) rfl rfl rfl (fun σ_29 hc_30 hf_31 => ?_)
  have hc_30 : σ_29 0 = o10 G (nI ((((m + 1) + 1) + 1) + 1)) (z2) (z3) := hc_30
  have hc_32 : σ_29 1 = q_an G 600 (va_up (va_up (va_up (va_up f m (s_by a 24)) (m + 1) (s_by a 16)) ((m + 1) + 1) (s_by a 8)) (((m + 1) + 1) + 1) (s_by a 0)) := (hf_31 _ (by omega)).trans hc_26
  refine A_iinc (v := ((-8))) hg dX10_appendFour_43 rfl (by decide) (by decide) (q_c1d rfl) ?_
  refine A_eq (ls2 := [some (.ref (q_h G + 0)), some (.int (a)), some (.int ((-8)))]) (st2 := []) (pc2 := 0) rfl rfl ?_
  refine A_goto (tgt := 3) hg dX10_appendFour_46 (by decide) ?_
  refine A_iload_n hg dX10_appendFour_3 rfl rfl ?_
  refine A_if_lt (tgt := 49) hg dX10_appendFour_4 (by decide) (fun _ => ?_) (fun z => absurd (by decide) z)
  refine A_canon (s_apw f m a) hc_32 (fun _ _ => rfl) (fun σ_33 hc_34 hf_35 => ?_)
  have hc_36 : σ_33 0 = o10 G (nI ((((m + 1) + 1) + 1) + 1)) (z2) (z3) := (hf_35 _ (by omega)).trans hc_30
  rw [hQ]
  exact A_return hg (by decide) (by decide) rfl dX10_appendFour_49 ⟨rfl, ⟨rfl, hc_36, hc_34, (fun i hi => ((hf_35 i (by omega)).trans ((hf_31 i (by omega)).trans ((hf_27 i (by omega)).trans ((hf_23 i (by omega)).trans ((hf_19 i (by omega)).trans ((hf_15 i (by omega)).trans ((hf_11 i (by omega)).trans ((hf_7 i (by omega)).trans (hf_3 i (by omega)))))))))))⟩⟩
set_option maxRecDepth 100000 in
set_option maxHeartbeats 4000000 in
theorem c_X10_appendInput (G : GL) (ex : Bool) (n : Nat) (σ : Nat → va_E) (z2 : Int32) (z3 : Int32) (f : Nat → Nat) (m : Nat) (a : Int32) (b : Int32) (c : Int32) (d : Int32) (e : Int32) (hc0 : σ 0 = o10 G (nI (m)) (z2) (z3)) (hc1 : σ 1 = q_an G 600 f) (hn9 : 279 ≤ n) (hm6 : m ≤ 600) : Ct G yX10_appendInput cX10_appendInput 6 (some .int) ⟨1, 0, 0, 22⟩ [.ref (q_h G + 0), .int (a), .int (b), .int (c), .int (d), .int (e)] ex n σ (fun v9 σ2 => (v9 = some (.int (q_d (0))) ∧ (¬ m + 20 ≤ 600) ∧ σ2 = σ) ∨ (v9 = some (.int (nI (m + 20))) ∧ (m + 20 ≤ 600) ∧ σ2 0 = o10 G (nI (m + 20)) (z2) (z3) ∧ σ2 1 = q_an G 600 (s_apI f m a b c d e) ∧ (∀ i : Nat, i ≠ 0 ∧ i ≠ 1 → σ2 i = σ i))) := by
  refine q_enter [some (.ref (q_h G + 0)), some (.int (a)), some (.int (b)), some (.int (c)), some (.int (d)), some (.int (e))] (by decide) (Nat.le_of_ble_eq_true rfl) rfl ?_
  intro K hg
  obtain ⟨Q, hQ⟩ : ∃ Q, Q = q_Q G K ex n 0 0 (fun v9 n' σ' => n' = n ∧ (fun v9 σ2 => (v9 = some (.int (q_d (0))) ∧ (¬ m + 20 ≤ 600) ∧ σ2 = σ) ∨ (v9 = some (.int (nI (m + 20))) ∧ (m + 20 ≤ 600) ∧ σ2 0 = o10 G (nI (m + 20)) (z2) (z3) ∧ σ2 1 = q_an G 600 (s_apI f m a b c d e) ∧ (∀ i : Nat, i ≠ 0 ∧ i ≠ 1 → σ2 i = σ i))) v9 σ') q_noX := ⟨_, rfl⟩
  refine (?_ : AJ G K (q_Q G K ex n 0 0 _ _) 0 0 ex n 0 _ _ σ)
  rw [← hQ]
  refine A_aload_n hg dX10_appendInput_0 rfl rfl ?_
  refine A_getf (v := .int (nI (m))) hg fl_RX10_13 dX10_appendInput_1 hc0 (by omega) rfl ?_
  refine A_bipush (v := (nI (20))) hg dX10_appendInput_4 (by decide) ?_
  refine A_iaddN hg dX10_appendInput_6 ?_
  refine A_sipush (v := (nI (600))) hg dX10_appendInput_7 (by decide) ?_
  refine A_icmp_leN (tgt := 15) hg dX10_appendInput_10 (by omega) (by decide) (by decide) (fun c10 => ?_) (fun c10 => ?_)
  · skip
    refine A_aload_n hg dX10_appendInput_15 rfl rfl ?_
    refine A_iload_n hg dX10_appendInput_16 rfl rfl ?_
    refine A_vV (kc2 := 0) (ks2 := 0) (As := [.int (a)]) (rest := []) hg lk_RX10_97 in_X10_appendFour se_X10_appendFour rfl dX10_appendInput_17 ⟨by decide, by decide⟩ rfl rfl ⟨by decide, by decide⟩ hc0 (by omega) rfl rfl (Nat.le_of_ble_eq_true rfl) (c_X10_appendFour G ex n σ z2 z3 f m a hc0 hc1 (by omega) (by omega)) ?_
    rintro σ_4 ⟨hc_1, hc_2, hf_3⟩
    refine A_aload_n hg dX10_appendInput_20 rfl rfl ?_
    refine A_iload_n hg dX10_appendInput_21 rfl rfl ?_
    refine A_vV (kc2 := 0) (ks2 := 0) (As := [.int (b)]) (rest := []) hg lk_RX10_97 in_X10_appendFour se_X10_appendFour rfl dX10_appendInput_22 ⟨by decide, by decide⟩ rfl rfl ⟨by decide, by decide⟩ hc_1 (by omega) rfl rfl (Nat.le_of_ble_eq_true rfl) (c_X10_appendFour G ex n σ_4 z2 z3 (s_apw f m a) (m + 4) b hc_1 hc_2 (by omega) (by omega)) ?_
    rintro σ_8 ⟨hc_5, hc_6, hf_7⟩
    refine A_aload_n hg dX10_appendInput_25 rfl rfl ?_
    refine A_iload_n hg dX10_appendInput_26 rfl rfl ?_
    refine A_vV (kc2 := 0) (ks2 := 0) (As := [.int (c)]) (rest := []) hg lk_RX10_97 in_X10_appendFour se_X10_appendFour rfl dX10_appendInput_27 ⟨by decide, by decide⟩ rfl rfl ⟨by decide, by decide⟩ hc_5 (by omega) rfl rfl (Nat.le_of_ble_eq_true rfl) (c_X10_appendFour G ex n σ_8 z2 z3 (s_apw (s_apw f m a) (m + 4) b) ((m + 4) + 4) c hc_5 hc_6 (by omega) (by omega)) ?_
    rintro σ_12 ⟨hc_9, hc_10, hf_11⟩
    refine A_aload_n hg dX10_appendInput_30 rfl rfl ?_
    refine A_iload hg dX10_appendInput_31 rfl ?_
    refine A_vV (kc2 := 0) (ks2 := 0) (As := [.int (d)]) (rest := []) hg lk_RX10_97 in_X10_appendFour se_X10_appendFour rfl dX10_appendInput_33 ⟨by decide, by decide⟩ rfl rfl ⟨by decide, by decide⟩ hc_9 (by omega) rfl rfl (Nat.le_of_ble_eq_true rfl) (c_X10_appendFour G ex n σ_12 z2 z3 (s_apw (s_apw (s_apw f m a) (m + 4) b) ((m + 4) + 4) c) (((m + 4) + 4) + 4) d hc_9 hc_10 (by omega) (by omega)) ?_
    rintro σ_16 ⟨hc_13, hc_14, hf_15⟩
    refine A_aload_n hg dX10_appendInput_36 rfl rfl ?_
    refine A_iload hg dX10_appendInput_37 rfl ?_
    refine A_vV (kc2 := 0) (ks2 := 0) (As := [.int (e)]) (rest := []) hg lk_RX10_97 in_X10_appendFour se_X10_appendFour rfl dX10_appendInput_39 ⟨by decide, by decide⟩ rfl rfl ⟨by decide, by decide⟩ hc_13 (by omega) rfl rfl (Nat.le_of_ble_eq_true rfl) (c_X10_appendFour G ex n σ_16 z2 z3 (s_apw (s_apw (s_apw (s_apw f m a) (m + 4) b) ((m + 4) + 4) c) (((m + 4) + 4) + 4) d) ((((m + 4) + 4) + 4) + 4) e hc_13 hc_14 (by omega) (by omega)) ?_
    rintro σ_20 ⟨hc_17, hc_18, hf_19⟩
    refine A_aload_n hg dX10_appendInput_42 rfl rfl ?_
    refine A_getf (v := .int (nI (((((m + 4) + 4) + 4) + 4) + 4))) hg fl_RX10_13 dX10_appendInput_43 hc_17 (by omega) rfl ?_
    refine A_canon (s_apI f m a b c d e) hc_18 (fun _ _ => rfl) (fun σ_21 hc_22 hf_23 => ?_)
    have hc_24 : σ_21 0 = o10 G (nI (((((m + 4) + 4) + 4) + 4) + 4)) (z2) (z3) := (hf_23 _ (by omega)).trans hc_17
    rw [hQ]
    exact A_ireturn hg (by decide) (by decide) rfl dX10_appendInput_46 ⟨rfl, Or.inr ((⟨rfl, c10, hc_24, hc_22, (fun i hi => ((hf_23 i (by omega)).trans ((hf_19 i (by omega)).trans ((hf_15 i (by omega)).trans ((hf_11 i (by omega)).trans ((hf_7 i (by omega)).trans (hf_3 i (by omega))))))))⟩))⟩
  · skip
    refine A_iconst (v := (q_d (0))) hg dX10_appendInput_13 (by decide) ?_
    rw [hQ]
    exact A_ireturn hg (by decide) (by decide) rfl dX10_appendInput_14 ⟨rfl, Or.inl (⟨rfl, c10, rfl⟩)⟩
set_option maxRecDepth 100000 in
set_option maxHeartbeats 4000000 in
theorem c_X10_truncateInput (G : GL) (ex : Bool) (n : Nat) (σ : Nat → va_E) (z2 : Int32) (z3 : Int32) (m : Nat) (x : Int32) (hc0 : σ 0 = o10 G (nI (m)) (z2) (z3)) (hn9 : 279 ≤ n) (hm6 : m ≤ 600) : Ct G yX10_truncateInput cX10_truncateInput 2 (some .boolean) ⟨0, 0, 0, 0⟩ [.ref (q_h G + 0), .int (x)] ex n σ (fun v9 σ2 => (v9 = some (.int (nI (0))) ∧ (∀ j : Nat, 0 ≤ j → j ≤ m → x = nI j → False) ∧ σ2 = σ) ∨ (∃ (x1 : Nat), v9 = some (.int (nI (1))) ∧ (x = nI x1) ∧ (x1 ≤ m) ∧ σ2 0 = o10 G (nI (x1)) (z2) (z3) ∧ (∀ i : Nat, i ≠ 0 → σ2 i = σ i))) := by
  refine q_enter [some (.ref (q_h G + 0)), some (.int (x))] (by decide) (Nat.le_of_ble_eq_true rfl) rfl ?_
  intro K hg
  obtain ⟨Q, hQ⟩ : ∃ Q, Q = q_Q G K ex n 0 0 (fun v9 n' σ' => n' = n ∧ (fun v9 σ2 => (v9 = some (.int (nI (0))) ∧ (∀ j : Nat, 0 ≤ j → j ≤ m → x = nI j → False) ∧ σ2 = σ) ∨ (∃ (x1 : Nat), v9 = some (.int (nI (1))) ∧ (x = nI x1) ∧ (x1 ≤ m) ∧ σ2 0 = o10 G (nI (x1)) (z2) (z3) ∧ (∀ i : Nat, i ≠ 0 → σ2 i = σ i))) v9 σ') q_noX := ⟨_, rfl⟩
  refine (?_ : AJ G K (q_Q G K ex n 0 0 _ _) 0 0 ex n 0 _ _ σ)
  rw [← hQ]
  refine A_iload_n hg dX10_truncateInput_0 rfl rfl ?_
  refine A_if_lt (tgt := 12) hg dX10_truncateInput_1 (by decide) (fun c1 => ?_) (fun c1 => ?_)
  · skip
    refine A_iconst (v := (nI (0))) hg dX10_truncateInput_12 (by decide) ?_
    rw [hQ]
    exact A_zreturn hg (by decide) (by decide) rfl rfl dX10_truncateInput_13 ⟨rfl, Or.inl (⟨rfl, (fun j h0 h1 e => nI_pos (show j < 2 ^ 31 by omega) (e ▸ c1)), rfl⟩)⟩
  · skip
    obtain ⟨x1, hx31, hxe⟩ := nI_of c1
    subst hxe
    refine A_iload_n hg dX10_truncateInput_4 rfl rfl ?_
    refine A_aload_n hg dX10_truncateInput_5 rfl rfl ?_
    refine A_getf (v := .int (nI (m))) hg fl_RX10_13 dX10_truncateInput_6 hc0 (by omega) rfl ?_
    refine A_icmp_leN (tgt := 14) hg dX10_truncateInput_9 (by omega) (by omega) (by decide) (fun c9 => ?_) (fun c9 => ?_)
    · skip
      refine A_aload_n hg dX10_truncateInput_14 rfl rfl ?_
      refine A_iload_n hg dX10_truncateInput_15 rfl rfl ?_
      refine A_putf hg fl_RX10_13 dX10_truncateInput_16 hc0 (by omega) (Nat.le_of_ble_eq_true rfl) rfl rfl rfl (fun σ_1 hc_2 hf_3 => ?_)
      have hc_2 : σ_1 0 = o10 G (nI (x1)) (z2) (z3) := hc_2
      refine A_iconst (v := (nI (1))) hg dX10_truncateInput_19 (by decide) ?_
      rw [hQ]
      exact A_zreturn hg (by decide) (by decide) rfl rfl dX10_truncateInput_20 ⟨rfl, Or.inr ((⟨x1, rfl, rfl, (by omega), hc_2, (fun i hi => (hf_3 i (by omega)))⟩))⟩
    · skip
      refine A_iconst (v := (nI (0))) hg dX10_truncateInput_12 (by decide) ?_
      rw [hQ]
      exact A_zreturn hg (by decide) (by decide) rfl rfl dX10_truncateInput_13 ⟨rfl, Or.inl (⟨rfl, (fun j h0 h1 e => by have := q_nI_inj hx31 (show j < 2 ^ 31 by omega) e; omega), rfl⟩)⟩
end
