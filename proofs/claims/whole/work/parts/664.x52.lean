section
set_option maxRecDepth 100000 in
set_option maxHeartbeats 4000000 in
theorem c_X3_init (G : GL) (σ : Nat → va_E)  (hc0 : σ 2 = .inr (3, [.null, .null, .int (nI (0)), .int (nI (0)), .int (nI (0))]))  : CtN G yX3_init cX3_init 1 none ⟨3, 20, 220, 61⟩ [.ref (q_h G + 2)] true 3 σ (fun v9 n' σ' => n' = 23 ∧ (fun v9 σ2 => v9 = none ∧ (x_lj G σ2) ∧ (∀ i : Nat, i < 2 → σ2 i = σ i)) v9 σ') q_noX := by
  refine q_enterI [some (.ref (q_h G + 2))] (by decide) (Nat.le_of_ble_eq_true rfl) rfl ?_
  intro K hg hme
  obtain ⟨Q, hQ⟩ : ∃ Q, Q = q_Q G K true 3 20 220 (fun v9 n' σ' => n' = 23 ∧ (fun v9 σ2 => v9 = none ∧ (x_lj G σ2) ∧ (∀ i : Nat, i < 2 → σ2 i = σ i)) v9 σ') q_noX := ⟨_, rfl⟩
  refine (?_ : AJ G K (q_Q G K true 3 20 220 _ _) 0 0 true 3 0 _ _ σ)
  rw [← hQ]
  refine A_aload_n hg dX3_init_0 rfl rfl ?_
  refine A_objInit hg (q_mt 41 (by decide +kernel)) (q_mt 34 (by decide +kernel)) (q_mt 35 (by decide +kernel)) dX3_init_1 ⟨by decide, by decide⟩ (Nat.le_of_ble_eq_true rfl) ?_
  refine A_aload_n hg dX3_init_4 rfl rfl ?_
  refine A_newo (ci := 9) (fs := [.null, .int (nI (0)), .int (nI (0)), .int (nI (0)), .int (nI (0)), .int (nI (0))]) (C := RX9) (T := TX9) (N := 6) hg tyX9 rfl uw_9 tyX9_ok (q_mt 42 (by decide +kernel)) (q_mt 43 (by decide +kernel)) (q_mt 3 (by decide +kernel)) nd_9 (by decide) (by decide) dX3_init_5 (fun σ_1 hc_2 hf_3 => ?_)
  have hc_2 : σ_1 3 = .inr (9, [.null, .int (nI (0)), .int (nI (0)), .int (nI (0)), .int (nI (0)), .int (nI (0))]) := hc_2
  have hc_4 : σ_1 2 = .inr (3, [.null, .null, .int (nI (0)), .int (nI (0)), .int (nI (0))]) := (hf_3 _ (by omega)).trans hc0
  refine A_dup hg dX3_init_8 rfl ?_
  refine A_callI (id := 3) (As := []) (rest := [.ref (q_h G + 3), .ref (q_h G + 2)]) hg lk_RX3_11 rfl in_X9_init dX3_init_9 ⟨by decide, by decide⟩ ⟨by decide, by decide⟩ rfl rfl (Nat.le_of_ble_eq_true rfl) (c_X9_init G σ_1 3 hc_2) q_nx ?_
  rintro _ _ σ_8 ⟨rfl, rfl, hc_5, hc_6, hf_7⟩
  refine (?_ : AJ G K Q 2 6 true 5 12 [some (.ref (q_h G + 2))] [.ref (q_h G + 3), .ref (q_h G + 2)] σ_8)
  have hc_9 : σ_8 2 = .inr (3, [.null, .null, .int (nI (0)), .int (nI (0)), .int (nI (0))]) := (hf_7 _ (by omega)).trans hc_4
  refine A_putF (fs' := [.ref (q_h G + 3), .null, .int (nI (0)), .int (nI (0)), .int (nI (0))]) hg fl_RX3_12 hme rfl (by intro C T N h; cases h; exact q_mt 183 (by decide +kernel)) dX3_init_12 hc_9 (by omega) (Nat.le_of_ble_eq_true rfl) rfl rfl rfl (fun σ_10 hc_11 hf_12 => ?_)
  have hc_11 : σ_10 2 = .inr (3, [.ref (q_h G + 3), .null, .int (nI (0)), .int (nI (0)), .int (nI (0))]) := hc_11
  have hc_13 : σ_10 3 = o9 G (3 + 1) (nI (0)) (nI (0)) (nI (0)) (nI (0)) (nI (0)) := (hf_12 _ (by omega)).trans hc_5
  have hc_14 : σ_10 4 = q_an G 0 (fun _ => 0) := (hf_12 _ (by omega)).trans hc_6
  refine A_aload_n hg dX3_init_15 rfl rfl ?_
  refine A_newo (ci := 0) (fs := [.null, .int (nI (0)), .null, .int (nI (0)), .int (nI (0)), .int (nI (0)), .null, .null, .int (nI (0))]) (C := RX0) (T := TX0) (N := 9) hg tyX0 rfl uw_0 tyX0_ok (q_mt 71 (by decide +kernel)) (q_mt 72 (by decide +kernel)) (q_mt 4 (by decide +kernel)) nd_0 (by decide) (by decide) dX3_init_16 (fun σ_15 hc_16 hf_17 => ?_)
  have hc_16 : σ_15 5 = .inr (0, [.null, .int (nI (0)), .null, .int (nI (0)), .int (nI (0)), .int (nI (0)), .null, .null, .int (nI (0))]) := hc_16
  have hc_18 : σ_15 3 = o9 G (3 + 1) (nI (0)) (nI (0)) (nI (0)) (nI (0)) (nI (0)) := (hf_17 _ (by omega)).trans hc_13
  have hc_19 : σ_15 4 = q_an G 0 (fun _ => 0) := (hf_17 _ (by omega)).trans hc_14
  have hc_20 : σ_15 2 = .inr (3, [.ref (q_h G + 3), .null, .int (nI (0)), .int (nI (0)), .int (nI (0))]) := (hf_17 _ (by omega)).trans hc_11
  refine A_dup hg dX3_init_19 rfl ?_
  refine A_callI (id := 5) (As := []) (rest := [.ref (q_h G + 5), .ref (q_h G + 2)]) hg lk_RX3_20 rfl in_X0_init dX3_init_20 ⟨by decide, by decide⟩ ⟨by decide, by decide⟩ rfl rfl (Nat.le_of_ble_eq_true rfl) (c_X0_init G σ_15 5 hc_16) q_nx ?_
  rintro _ _ σ_22 ⟨rfl, rfl, hJ5, hf_21⟩
  refine (?_ : AJ G K Q 20 220 true 23 23 [some (.ref (q_h G + 2))] [.ref (q_h G + 5), .ref (q_h G + 2)] σ_22)
  have hc_23 : σ_22 3 = o9 G (3 + 1) (nI (0)) (nI (0)) (nI (0)) (nI (0)) (nI (0)) := (hf_21 _ (by omega)).trans hc_18
  have hc_24 : σ_22 4 = q_an G 0 (fun _ => 0) := (hf_21 _ (by omega)).trans hc_19
  have hc_25 : σ_22 2 = .inr (3, [.ref (q_h G + 3), .null, .int (nI (0)), .int (nI (0)), .int (nI (0))]) := (hf_21 _ (by omega)).trans hc_20
  refine A_putF (fs' := [.ref (q_h G + 3), .ref (q_h G + 5), .int (nI (0)), .int (nI (0)), .int (nI (0))]) hg fl_RX3_21 hme rfl (by intro C T N h; cases h; exact q_mt 184 (by decide +kernel)) dX3_init_23 hc_25 (by omega) (Nat.le_of_ble_eq_true rfl) rfl rfl rfl (fun σ_26 hc_27 hf_28 => ?_)
  have hc_27 : σ_26 2 = .inr (3, [.ref (q_h G + 3), .ref (q_h G + 5), .int (nI (0)), .int (nI (0)), .int (nI (0))]) := hc_27
  have hc_29 : σ_26 3 = o9 G (3 + 1) (nI (0)) (nI (0)) (nI (0)) (nI (0)) (nI (0)) := (hf_28 _ (by omega)).trans hc_23
  have hc_30 : σ_26 4 = q_an G 0 (fun _ => 0) := (hf_28 _ (by omega)).trans hc_24
  refine A_aload_n hg dX3_init_26 rfl rfl ?_
  refine A_iconst (v := (nI (0))) hg dX3_init_27 (by decide) ?_
  refine A_putf hg fl_RX3_25 dX3_init_28 hc_27 (by omega) (Nat.le_of_ble_eq_true rfl) rfl rfl rfl (fun σ_31 hc_32 hf_33 => ?_)
  have hc_32 : σ_31 2 = .inr (3, [.ref (q_h G + 3), .ref (q_h G + 5), .int (nI (0)), .int (nI (0)), .int (nI (0))]) := hc_32
  have hc_34 : σ_31 3 = o9 G (3 + 1) (nI (0)) (nI (0)) (nI (0)) (nI (0)) (nI (0)) := (hf_33 _ (by omega)).trans hc_29
  have hc_35 : σ_31 4 = q_an G 0 (fun _ => 0) := (hf_33 _ (by omega)).trans hc_30
  refine A_aload_n hg dX3_init_31 rfl rfl ?_
  refine A_iconst (v := (nI (0))) hg dX3_init_32 (by decide) ?_
  refine A_putf hg fl_RX3_29 dX3_init_33 hc_32 (by omega) (Nat.le_of_ble_eq_true rfl) rfl rfl rfl (fun σ_36 hc_37 hf_38 => ?_)
  have hc_37 : σ_36 2 = .inr (3, [.ref (q_h G + 3), .ref (q_h G + 5), .int (nI (0)), .int (nI (0)), .int (nI (0))]) := hc_37
  have hc_39 : σ_36 3 = o9 G (3 + 1) (nI (0)) (nI (0)) (nI (0)) (nI (0)) (nI (0)) := (hf_38 _ (by omega)).trans hc_34
  have hc_40 : σ_36 4 = q_an G 0 (fun _ => 0) := (hf_38 _ (by omega)).trans hc_35
  refine A_aload_n hg dX3_init_36 rfl rfl ?_
  refine A_iconst (v := (q_d (0))) hg dX3_init_37 (by decide) ?_
  refine A_putf hg fl_RX3_33 dX3_init_38 hc_37 (by omega) (Nat.le_of_ble_eq_true rfl) rfl rfl rfl (fun σ_41 hc_42 hf_43 => ?_)
  have hc_42 : σ_41 2 = .inr (3, [.ref (q_h G + 3), .ref (q_h G + 5), .int (nI (0)), .int (nI (0)), .int (q_d (0))]) := hc_42
  have hc_44 : σ_41 3 = o9 G (3 + 1) (nI (0)) (nI (0)) (nI (0)) (nI (0)) (nI (0)) := (hf_43 _ (by omega)).trans hc_39
  have hc_45 : σ_41 4 = q_an G 0 (fun _ => 0) := (hf_43 _ (by omega)).trans hc_40
  obtain ⟨rm, pl, tn, gm, tk, b, sk, kd, fi, se, tf, ts, ac, tu, nm, on, sl, mo, nb, bm, q0, q1, q2, q3, q4, q5, q6, q7, q8, q9, q10, q11⟩ := (x_gj_e (fun i _ _ => ((hf_43 i (by omega)).trans ((hf_38 i (by omega)).trans ((hf_33 i (by omega)).trans (hf_28 i (by omega)))))) hJ5)
  rw [hQ]
  exact A_returnN hg (by decide) (by decide) rfl dX3_init_41 ⟨rfl, ⟨rfl, ⟨0, nI 0, q_d 0, 4, nI 0, nI 0, nI 0, nI 0, nI 0, rm, pl, tn, gm, tk, b, sk, nm, on, sl, mo, nb, bm, kd, fi, se, tf, ts, ac, tu, hc_42, hc_44, q0, q1, q2, q3, q4, q5, q6, q7, q8, q10, q11, q9⟩, (fun i hi => ((hf_43 i (by omega)).trans ((hf_38 i (by omega)).trans ((hf_33 i (by omega)).trans ((hf_28 i (by omega)).trans ((hf_21 i (by omega)).trans ((hf_17 i (by omega)).trans ((hf_12 i (by omega)).trans ((hf_7 i (by omega)).trans (hf_3 i (by omega)))))))))))⟩⟩
set_option maxRecDepth 100000 in
set_option maxHeartbeats 4000000 in
theorem c_X4_init (G : GL) (σ : Nat → va_E)  (hc0 : σ 43 = .inr (4, [.null, .null]))  : CtN G yX4_init cX4_init 2 none ⟨3, 34, 33721, 60⟩ [.ref (q_h G + 43)] true 44 σ (fun v9 n' σ' => n' = 78 ∧ (fun v9 σ2 => v9 = none ∧ (x_mx G σ2) ∧ (∀ i : Nat, i < 43 → σ2 i = σ i)) v9 σ') q_noX := by
  refine q_enterI [some (.ref (q_h G + 43)), none] (by decide) (Nat.le_of_ble_eq_true rfl) rfl ?_
  intro K hg hme
  obtain ⟨Q, hQ⟩ : ∃ Q, Q = q_Q G K true 44 34 33721 (fun v9 n' σ' => n' = 78 ∧ (fun v9 σ2 => v9 = none ∧ (x_mx G σ2) ∧ (∀ i : Nat, i < 43 → σ2 i = σ i)) v9 σ') q_noX := ⟨_, rfl⟩
  refine (?_ : AJ G K (q_Q G K true 44 34 33721 _ _) 0 0 true 44 0 _ _ σ)
  rw [← hQ]
  refine A_aload_n hg dX4_init_0 rfl rfl ?_
  refine A_objInit hg (q_mt 222 (by decide +kernel)) (q_mt 34 (by decide +kernel)) (q_mt 35 (by decide +kernel)) dX4_init_1 ⟨by decide, by decide⟩ (Nat.le_of_ble_eq_true rfl) ?_
  refine A_aload_n hg dX4_init_4 rfl rfl ?_
  refine A_iconst (v := (nI (4))) hg dX4_init_5 (by decide) ?_
  refine A_newq (C := "GoldenHeaps$Table") (t := 4) (N := 4) hg (by decide) rfl (q_mt 223 (by decide +kernel)) (q_mt 224 (by decide +kernel)) (by decide) (by decide) (by decide) (by decide) dX4_init_6 (fun σ_1 hc_2 hf_3 => ?_)
  have hc_2 : σ_1 44 = q_rn G 4 4 (fun _ => none) := hc_2
  have hc_4 : σ_1 43 = .inr (4, [.null, .null]) := (hf_3 _ (by omega)).trans hc0
  refine A_putF (fs' := [.ref (q_h G + 44), .null]) hg fl_RX4_11 hme rfl (by intro C T N h; cases h; exact q_mt 307 (by decide +kernel)) dX4_init_9 hc_4 (by omega) (Nat.le_of_ble_eq_true rfl) rfl rfl rfl (fun σ_5 hc_6 hf_7 => ?_)
  have hc_6 : σ_5 43 = .inr (4, [.ref (q_h G + 44), .null]) := hc_6
  have hc_8 : σ_5 44 = q_rn G 4 4 (fun _ => none) := (hf_7 _ (by omega)).trans hc_2
  refine A_aload_n hg dX4_init_12 rfl rfl ?_
  refine A_newo (ci := 1) (fs := [.int (nI (0)), .int (nI (0)), .int (nI (0)), .int (nI (0)), .int (nI (0))]) (C := RX1) (T := TX1) (N := 5) hg tyX1 rfl uw_1 tyX1_ok (q_mt 225 (by decide +kernel)) (q_mt 226 (by decide +kernel)) (q_mt 9 (by decide +kernel)) nd_1 (by decide) (by decide) dX4_init_13 (fun σ_9 hc_10 hf_11 => ?_)
  have hc_10 : σ_9 45 = .inr (1, [.int (nI (0)), .int (nI (0)), .int (nI (0)), .int (nI (0)), .int (nI (0))]) := hc_10
  have hc_12 : σ_9 44 = q_rn G 4 4 (fun _ => none) := (hf_11 _ (by omega)).trans hc_8
  have hc_13 : σ_9 43 = .inr (4, [.ref (q_h G + 44), .null]) := (hf_11 _ (by omega)).trans hc_6
  refine A_dup hg dX4_init_16 rfl ?_
  refine A_callI (id := 45) (As := []) (rest := [.ref (q_h G + 45), .ref (q_h G + 43)]) hg lk_RX4_19 rfl in_X1_init dX4_init_17 ⟨by decide, by decide⟩ ⟨by decide, by decide⟩ rfl rfl (Nat.le_of_ble_eq_true rfl) (c_X1_init G σ_9 45 hc_10) q_nx ?_
  rintro _ _ σ_16 ⟨rfl, rfl, hc_14, hf_15⟩
  refine (?_ : AJ G K Q 2 9 true 46 20 [some (.ref (q_h G + 43)), none] [.ref (q_h G + 45), .ref (q_h G + 43)] σ_16)
  have hc_17 : σ_16 44 = q_rn G 4 4 (fun _ => none) := (hf_15 _ (by omega)).trans hc_12
  have hc_18 : σ_16 43 = .inr (4, [.ref (q_h G + 44), .null]) := (hf_15 _ (by omega)).trans hc_13
  refine A_putF (fs' := [.ref (q_h G + 44), .ref (q_h G + 45)]) hg fl_RX4_20 hme rfl (by intro C T N h; cases h; exact q_mt 308 (by decide +kernel)) dX4_init_20 hc_18 (by omega) (Nat.le_of_ble_eq_true rfl) rfl rfl rfl (fun σ_19 hc_20 hf_21 => ?_)
  have hc_20 : σ_19 43 = .inr (4, [.ref (q_h G + 44), .ref (q_h G + 45)]) := hc_20
  have hc_22 : σ_19 44 = q_rn G 4 4 (fun _ => none) := (hf_21 _ (by omega)).trans hc_17
  have hc_23 : σ_19 45 = o1 G (nI (0)) (nI (0)) (q_d (0)) (q_d (0)) (q_d (0)) := (hf_21 _ (by omega)).trans hc_14
  refine A_iconst (v := (nI (0))) hg dX4_init_23 (by decide) ?_
  refine A_istore_n hg dX4_init_24 rfl (by decide) (q_c1d rfl) ?_
  refine A_eq (ls2 := [some (.ref (q_h G + 43)), some (.int (nI (0)))]) (st2 := []) (pc2 := 0) rfl rfl ?_
  refine A_iload_n hg dX4_init_25 rfl rfl ?_
  refine A_iconst (v := (nI (4))) hg dX4_init_26 (by decide) ?_
  refine A_icmp_geN (tgt := 49) hg dX4_init_27 (by decide) (by decide) (by decide) (fun c27 => False.elim (by omega)) (fun c27 => ?_)
  refine A_aload_n hg dX4_init_30 rfl rfl ?_
  refine A_getf (v := .ref (q_h G + 44)) hg fl_RX4_11 dX4_init_31 hc_20 (by omega) rfl ?_
  refine A_iload_n hg dX4_init_34 rfl rfl ?_
  refine A_newo (ci := 8) (fs := [.null, .int (nI (0)), .null, .null, .int (nI (0)), .null, .null, .null, .int (nI (0)), .int (nI (0)), .int (nI (0)), .int (nI (0))]) (C := RX8) (T := TX8) (N := 12) hg tyX8 rfl uw_8 tyX8_ok (q_mt 223 (by decide +kernel)) (q_mt 259 (by decide +kernel)) (q_mt 10 (by decide +kernel)) nd_8 (by decide) (by decide) dX4_init_35 (fun σ_24 hc_25 hf_26 => ?_)
  have hc_25 : σ_24 46 = .inr (8, [.null, .int (nI (0)), .null, .null, .int (nI (0)), .null, .null, .null, .int (nI (0)), .int (nI (0)), .int (nI (0)), .int (nI (0))]) := hc_25
  have hc_27 : σ_24 44 = q_rn G 4 4 (fun _ => none) := (hf_26 _ (by omega)).trans hc_22
  have hc_28 : σ_24 45 = o1 G (nI (0)) (nI (0)) (q_d (0)) (q_d (0)) (q_d (0)) := (hf_26 _ (by omega)).trans hc_23
  have hc_29 : σ_24 43 = .inr (4, [.ref (q_h G + 44), .ref (q_h G + 45)]) := (hf_26 _ (by omega)).trans hc_20
  refine A_dup hg dX4_init_38 rfl ?_
  refine A_callI (id := 46) (As := []) (rest := [.ref (q_h G + 46), .int (nI (0)), .ref (q_h G + 44)]) hg lk_RX4_24 rfl in_X8_init dX4_init_39 ⟨by decide, by decide⟩ ⟨by decide, by decide⟩ rfl rfl (Nat.le_of_ble_eq_true rfl) (c_X8_init G σ_24 46 hc_25) q_nx ?_
  rintro _ _ σ_39 ⟨rfl, rfl, hc_30, hc_31, hc_32, hc_33, hc_34, hc_35, hc_36, hc_37, hf_38⟩
  refine (?_ : AJ G K Q 10 8437 true 54 42 [some (.ref (q_h G + 43)), some (.int (nI (0)))] [.ref (q_h G + 46), .int (nI (0)), .ref (q_h G + 44)] σ_39)
  have hc_40 : σ_39 44 = q_rn G 4 4 (fun _ => none) := (hf_38 _ (by omega)).trans hc_27
  have hc_41 : σ_39 45 = o1 G (nI (0)) (nI (0)) (q_d (0)) (q_d (0)) (q_d (0)) := (hf_38 _ (by omega)).trans hc_28
  have hc_42 : σ_39 43 = .inr (4, [.ref (q_h G + 44), .ref (q_h G + 45)]) := (hf_38 _ (by omega)).trans hc_29
  refine A_aastR (j := 0) (oid := 46) hg (by decide) rfl hc_40 (by omega) hc_30 (by omega) rfl (by omega) (by decide) dX4_init_42 (fun σ_43 hc_44 hf_45 => ?_)
  have hc_44 : σ_43 44 = q_rn G 4 4 (va_up (fun _ => none) 0 (some 46)) := hc_44
  have hc_46 : σ_43 45 = o1 G (nI (0)) (nI (0)) (q_d (0)) (q_d (0)) (q_d (0)) := (hf_45 _ (by omega)).trans hc_41
  have hc_47 : σ_43 43 = .inr (4, [.ref (q_h G + 44), .ref (q_h G + 45)]) := (hf_45 _ (by omega)).trans hc_42
  have hc_48 : σ_43 46 = o8 G (46) (nI (0)) (nI (0)) (nI (0)) (nI (0)) (nI (0)) (nI (0)) := (hf_45 _ (by omega)).trans hc_30
  have hc_49 : σ_43 47 = o7 G (46 + 1) (lN (0)) (lN (0)) (nI (1)) (nI (40)) (nI (0)) := (hf_45 _ (by omega)).trans hc_31
  have hc_50 : σ_43 48 = q_an G 5 (fun _ => 0) := (hf_45 _ (by omega)).trans hc_32
  have hc_51 : σ_43 49 = q_an G 1681 (fun _ => 0) := (hf_45 _ (by omega)).trans hc_33
  have hc_52 : σ_43 50 = q_an G 1681 (fun _ => 0) := (hf_45 _ (by omega)).trans hc_34
  have hc_53 : σ_43 51 = q_an G 1681 (fun _ => 0) := (hf_45 _ (by omega)).trans hc_35
  have hc_54 : σ_43 52 = q_an G 1681 (fun _ => 0) := (hf_45 _ (by omega)).trans hc_36
  have hc_55 : σ_43 53 = q_an G 1681 (fun _ => 0) := (hf_45 _ (by omega)).trans hc_37
  refine A_iincN (k' := 1) hg dX4_init_43 (by decide) rfl (by decide) (q_c1d rfl) ?_
  refine A_eq (ls2 := [some (.ref (q_h G + 43)), some (.int (nI (0 + 1)))]) (st2 := []) (pc2 := 0) rfl rfl ?_
  refine A_goto (tgt := 25) hg dX4_init_46 (by decide) ?_
  refine A_eq (ls2 := [some (.ref (q_h G + 43)), some (.int (nI (1)))]) (st2 := []) (pc2 := 0) rfl rfl ?_
  refine A_iload_n hg dX4_init_25 rfl rfl ?_
  refine A_iconst (v := (nI (4))) hg dX4_init_26 (by decide) ?_
  refine A_icmp_geN (tgt := 49) hg dX4_init_27 (by decide) (by decide) (by decide) (fun c27 => False.elim (by omega)) (fun c27 => ?_)
  refine A_aload_n hg dX4_init_30 rfl rfl ?_
  refine A_getf (v := .ref (q_h G + 44)) hg fl_RX4_11 dX4_init_31 hc_47 (by omega) rfl ?_
  refine A_iload_n hg dX4_init_34 rfl rfl ?_
  refine A_newo (ci := 8) (fs := [.null, .int (nI (0)), .null, .null, .int (nI (0)), .null, .null, .null, .int (nI (0)), .int (nI (0)), .int (nI (0)), .int (nI (0))]) (C := RX8) (T := TX8) (N := 12) hg tyX8 rfl uw_8 tyX8_ok (q_mt 223 (by decide +kernel)) (q_mt 259 (by decide +kernel)) (q_mt 10 (by decide +kernel)) nd_8 (by decide) (by decide) dX4_init_35 (fun σ_56 hc_57 hf_58 => ?_)
  have hc_57 : σ_56 54 = .inr (8, [.null, .int (nI (0)), .null, .null, .int (nI (0)), .null, .null, .null, .int (nI (0)), .int (nI (0)), .int (nI (0)), .int (nI (0))]) := hc_57
  have hc_59 : σ_56 45 = o1 G (nI (0)) (nI (0)) (q_d (0)) (q_d (0)) (q_d (0)) := (hf_58 _ (by omega)).trans hc_46
  have hc_60 : σ_56 43 = .inr (4, [.ref (q_h G + 44), .ref (q_h G + 45)]) := (hf_58 _ (by omega)).trans hc_47
  have hc_61 : σ_56 46 = o8 G (46) (nI (0)) (nI (0)) (nI (0)) (nI (0)) (nI (0)) (nI (0)) := (hf_58 _ (by omega)).trans hc_48
  have hc_62 : σ_56 47 = o7 G (46 + 1) (lN (0)) (lN (0)) (nI (1)) (nI (40)) (nI (0)) := (hf_58 _ (by omega)).trans hc_49
  have hc_63 : σ_56 48 = q_an G 5 (fun _ => 0) := (hf_58 _ (by omega)).trans hc_50
  have hc_64 : σ_56 49 = q_an G 1681 (fun _ => 0) := (hf_58 _ (by omega)).trans hc_51
  have hc_65 : σ_56 50 = q_an G 1681 (fun _ => 0) := (hf_58 _ (by omega)).trans hc_52
  have hc_66 : σ_56 51 = q_an G 1681 (fun _ => 0) := (hf_58 _ (by omega)).trans hc_53
  have hc_67 : σ_56 52 = q_an G 1681 (fun _ => 0) := (hf_58 _ (by omega)).trans hc_54
  have hc_68 : σ_56 53 = q_an G 1681 (fun _ => 0) := (hf_58 _ (by omega)).trans hc_55
  have hc_69 : σ_56 44 = q_rn G 4 4 (va_up (fun _ => none) 0 (some 46)) := (hf_58 _ (by omega)).trans hc_44
  refine A_dup hg dX4_init_38 rfl ?_
  refine A_callI (id := 54) (As := []) (rest := [.ref (q_h G + 54), .int (nI (1)), .ref (q_h G + 44)]) hg lk_RX4_24 rfl in_X8_init dX4_init_39 ⟨by decide, by decide⟩ ⟨by decide, by decide⟩ rfl rfl (Nat.le_of_ble_eq_true rfl) (c_X8_init G σ_56 54 hc_57) q_nx ?_
  rintro _ _ σ_79 ⟨rfl, rfl, hc_70, hc_71, hc_72, hc_73, hc_74, hc_75, hc_76, hc_77, hf_78⟩
  refine (?_ : AJ G K Q 18 16865 true 62 42 [some (.ref (q_h G + 43)), some (.int (nI (1)))] [.ref (q_h G + 54), .int (nI (1)), .ref (q_h G + 44)] σ_79)
  have hc_80 : σ_79 45 = o1 G (nI (0)) (nI (0)) (q_d (0)) (q_d (0)) (q_d (0)) := (hf_78 _ (by omega)).trans hc_59
  have hc_81 : σ_79 43 = .inr (4, [.ref (q_h G + 44), .ref (q_h G + 45)]) := (hf_78 _ (by omega)).trans hc_60
  have hc_82 : σ_79 46 = o8 G (46) (nI (0)) (nI (0)) (nI (0)) (nI (0)) (nI (0)) (nI (0)) := (hf_78 _ (by omega)).trans hc_61
  have hc_83 : σ_79 47 = o7 G (46 + 1) (lN (0)) (lN (0)) (nI (1)) (nI (40)) (nI (0)) := (hf_78 _ (by omega)).trans hc_62
  have hc_84 : σ_79 48 = q_an G 5 (fun _ => 0) := (hf_78 _ (by omega)).trans hc_63
  have hc_85 : σ_79 49 = q_an G 1681 (fun _ => 0) := (hf_78 _ (by omega)).trans hc_64
  have hc_86 : σ_79 50 = q_an G 1681 (fun _ => 0) := (hf_78 _ (by omega)).trans hc_65
  have hc_87 : σ_79 51 = q_an G 1681 (fun _ => 0) := (hf_78 _ (by omega)).trans hc_66
  have hc_88 : σ_79 52 = q_an G 1681 (fun _ => 0) := (hf_78 _ (by omega)).trans hc_67
  have hc_89 : σ_79 53 = q_an G 1681 (fun _ => 0) := (hf_78 _ (by omega)).trans hc_68
  have hc_90 : σ_79 44 = q_rn G 4 4 (va_up (fun _ => none) 0 (some 46)) := (hf_78 _ (by omega)).trans hc_69
  refine A_aastR (j := 1) (oid := 54) hg (by decide) rfl hc_90 (by omega) hc_70 (by omega) rfl (by omega) (by decide) dX4_init_42 (fun σ_91 hc_92 hf_93 => ?_)
  have hc_92 : σ_91 44 = q_rn G 4 4 (va_up (va_up (fun _ => none) 0 (some 46)) 1 (some 54)) := hc_92
  have hc_94 : σ_91 45 = o1 G (nI (0)) (nI (0)) (q_d (0)) (q_d (0)) (q_d (0)) := (hf_93 _ (by omega)).trans hc_80
  have hc_95 : σ_91 43 = .inr (4, [.ref (q_h G + 44), .ref (q_h G + 45)]) := (hf_93 _ (by omega)).trans hc_81
  have hc_96 : σ_91 46 = o8 G (46) (nI (0)) (nI (0)) (nI (0)) (nI (0)) (nI (0)) (nI (0)) := (hf_93 _ (by omega)).trans hc_82
  have hc_97 : σ_91 47 = o7 G (46 + 1) (lN (0)) (lN (0)) (nI (1)) (nI (40)) (nI (0)) := (hf_93 _ (by omega)).trans hc_83
  have hc_98 : σ_91 48 = q_an G 5 (fun _ => 0) := (hf_93 _ (by omega)).trans hc_84
  have hc_99 : σ_91 49 = q_an G 1681 (fun _ => 0) := (hf_93 _ (by omega)).trans hc_85
  have hc_100 : σ_91 50 = q_an G 1681 (fun _ => 0) := (hf_93 _ (by omega)).trans hc_86
  have hc_101 : σ_91 51 = q_an G 1681 (fun _ => 0) := (hf_93 _ (by omega)).trans hc_87
  have hc_102 : σ_91 52 = q_an G 1681 (fun _ => 0) := (hf_93 _ (by omega)).trans hc_88
  have hc_103 : σ_91 53 = q_an G 1681 (fun _ => 0) := (hf_93 _ (by omega)).trans hc_89
  have hc_104 : σ_91 54 = o8 G (54) (nI (0)) (nI (0)) (nI (0)) (nI (0)) (nI (0)) (nI (0)) := (hf_93 _ (by omega)).trans hc_70
  have hc_105 : σ_91 55 = o7 G (54 + 1) (lN (0)) (lN (0)) (nI (1)) (nI (40)) (nI (0)) := (hf_93 _ (by omega)).trans hc_71
  have hc_106 : σ_91 56 = q_an G 5 (fun _ => 0) := (hf_93 _ (by omega)).trans hc_72
  have hc_107 : σ_91 57 = q_an G 1681 (fun _ => 0) := (hf_93 _ (by omega)).trans hc_73
  have hc_108 : σ_91 58 = q_an G 1681 (fun _ => 0) := (hf_93 _ (by omega)).trans hc_74
  have hc_109 : σ_91 59 = q_an G 1681 (fun _ => 0) := (hf_93 _ (by omega)).trans hc_75
  have hc_110 : σ_91 60 = q_an G 1681 (fun _ => 0) := (hf_93 _ (by omega)).trans hc_76
  have hc_111 : σ_91 61 = q_an G 1681 (fun _ => 0) := (hf_93 _ (by omega)).trans hc_77
  refine A_iincN (k' := 1) hg dX4_init_43 (by decide) rfl (by decide) (q_c1d rfl) ?_
  refine A_eq (ls2 := [some (.ref (q_h G + 43)), some (.int (nI (1 + 1)))]) (st2 := []) (pc2 := 0) rfl rfl ?_
  refine A_goto (tgt := 25) hg dX4_init_46 (by decide) ?_
  refine A_eq (ls2 := [some (.ref (q_h G + 43)), some (.int (nI (2)))]) (st2 := []) (pc2 := 0) rfl rfl ?_
  refine A_iload_n hg dX4_init_25 rfl rfl ?_
  refine A_iconst (v := (nI (4))) hg dX4_init_26 (by decide) ?_
  refine A_icmp_geN (tgt := 49) hg dX4_init_27 (by decide) (by decide) (by decide) (fun c27 => False.elim (by omega)) (fun c27 => ?_)
  refine A_aload_n hg dX4_init_30 rfl rfl ?_
  refine A_getf (v := .ref (q_h G + 44)) hg fl_RX4_11 dX4_init_31 hc_95 (by omega) rfl ?_
  refine A_iload_n hg dX4_init_34 rfl rfl ?_
  refine A_newo (ci := 8) (fs := [.null, .int (nI (0)), .null, .null, .int (nI (0)), .null, .null, .null, .int (nI (0)), .int (nI (0)), .int (nI (0)), .int (nI (0))]) (C := RX8) (T := TX8) (N := 12) hg tyX8 rfl uw_8 tyX8_ok (q_mt 223 (by decide +kernel)) (q_mt 259 (by decide +kernel)) (q_mt 10 (by decide +kernel)) nd_8 (by decide) (by decide) dX4_init_35 (fun σ_112 hc_113 hf_114 => ?_)
  have hc_113 : σ_112 62 = .inr (8, [.null, .int (nI (0)), .null, .null, .int (nI (0)), .null, .null, .null, .int (nI (0)), .int (nI (0)), .int (nI (0)), .int (nI (0))]) := hc_113
  have hc_115 : σ_112 45 = o1 G (nI (0)) (nI (0)) (q_d (0)) (q_d (0)) (q_d (0)) := (hf_114 _ (by omega)).trans hc_94
  have hc_116 : σ_112 43 = .inr (4, [.ref (q_h G + 44), .ref (q_h G + 45)]) := (hf_114 _ (by omega)).trans hc_95
  have hc_117 : σ_112 46 = o8 G (46) (nI (0)) (nI (0)) (nI (0)) (nI (0)) (nI (0)) (nI (0)) := (hf_114 _ (by omega)).trans hc_96
  have hc_118 : σ_112 47 = o7 G (46 + 1) (lN (0)) (lN (0)) (nI (1)) (nI (40)) (nI (0)) := (hf_114 _ (by omega)).trans hc_97
  have hc_119 : σ_112 48 = q_an G 5 (fun _ => 0) := (hf_114 _ (by omega)).trans hc_98
  have hc_120 : σ_112 49 = q_an G 1681 (fun _ => 0) := (hf_114 _ (by omega)).trans hc_99
  have hc_121 : σ_112 50 = q_an G 1681 (fun _ => 0) := (hf_114 _ (by omega)).trans hc_100
  have hc_122 : σ_112 51 = q_an G 1681 (fun _ => 0) := (hf_114 _ (by omega)).trans hc_101
  have hc_123 : σ_112 52 = q_an G 1681 (fun _ => 0) := (hf_114 _ (by omega)).trans hc_102
  have hc_124 : σ_112 53 = q_an G 1681 (fun _ => 0) := (hf_114 _ (by omega)).trans hc_103
  have hc_125 : σ_112 54 = o8 G (54) (nI (0)) (nI (0)) (nI (0)) (nI (0)) (nI (0)) (nI (0)) := (hf_114 _ (by omega)).trans hc_104
  have hc_126 : σ_112 55 = o7 G (54 + 1) (lN (0)) (lN (0)) (nI (1)) (nI (40)) (nI (0)) := (hf_114 _ (by omega)).trans hc_105
  have hc_127 : σ_112 56 = q_an G 5 (fun _ => 0) := (hf_114 _ (by omega)).trans hc_106
  have hc_128 : σ_112 57 = q_an G 1681 (fun _ => 0) := (hf_114 _ (by omega)).trans hc_107
  have hc_129 : σ_112 58 = q_an G 1681 (fun _ => 0) := (hf_114 _ (by omega)).trans hc_108
  have hc_130 : σ_112 59 = q_an G 1681 (fun _ => 0) := (hf_114 _ (by omega)).trans hc_109
  have hc_131 : σ_112 60 = q_an G 1681 (fun _ => 0) := (hf_114 _ (by omega)).trans hc_110
  have hc_132 : σ_112 61 = q_an G 1681 (fun _ => 0) := (hf_114 _ (by omega)).trans hc_111
  have hc_133 : σ_112 44 = q_rn G 4 4 (va_up (va_up (fun _ => none) 0 (some 46)) 1 (some 54)) := (hf_114 _ (by omega)).trans hc_92
  refine A_dup hg dX4_init_38 rfl ?_
  refine A_callI (id := 62) (As := []) (rest := [.ref (q_h G + 62), .int (nI (2)), .ref (q_h G + 44)]) hg lk_RX4_24 rfl in_X8_init dX4_init_39 ⟨by decide, by decide⟩ ⟨by decide, by decide⟩ rfl rfl (Nat.le_of_ble_eq_true rfl) (c_X8_init G σ_112 62 hc_113) q_nx ?_
  rintro _ _ σ_143 ⟨rfl, rfl, hc_134, hc_135, hc_136, hc_137, hc_138, hc_139, hc_140, hc_141, hf_142⟩
  refine (?_ : AJ G K Q 26 25293 true 70 42 [some (.ref (q_h G + 43)), some (.int (nI (2)))] [.ref (q_h G + 62), .int (nI (2)), .ref (q_h G + 44)] σ_143)
  have hc_144 : σ_143 45 = o1 G (nI (0)) (nI (0)) (q_d (0)) (q_d (0)) (q_d (0)) := (hf_142 _ (by omega)).trans hc_115
  have hc_145 : σ_143 43 = .inr (4, [.ref (q_h G + 44), .ref (q_h G + 45)]) := (hf_142 _ (by omega)).trans hc_116
  have hc_146 : σ_143 46 = o8 G (46) (nI (0)) (nI (0)) (nI (0)) (nI (0)) (nI (0)) (nI (0)) := (hf_142 _ (by omega)).trans hc_117
  have hc_147 : σ_143 47 = o7 G (46 + 1) (lN (0)) (lN (0)) (nI (1)) (nI (40)) (nI (0)) := (hf_142 _ (by omega)).trans hc_118
  have hc_148 : σ_143 48 = q_an G 5 (fun _ => 0) := (hf_142 _ (by omega)).trans hc_119
  have hc_149 : σ_143 49 = q_an G 1681 (fun _ => 0) := (hf_142 _ (by omega)).trans hc_120
  have hc_150 : σ_143 50 = q_an G 1681 (fun _ => 0) := (hf_142 _ (by omega)).trans hc_121
  have hc_151 : σ_143 51 = q_an G 1681 (fun _ => 0) := (hf_142 _ (by omega)).trans hc_122
  have hc_152 : σ_143 52 = q_an G 1681 (fun _ => 0) := (hf_142 _ (by omega)).trans hc_123
  have hc_153 : σ_143 53 = q_an G 1681 (fun _ => 0) := (hf_142 _ (by omega)).trans hc_124
  have hc_154 : σ_143 54 = o8 G (54) (nI (0)) (nI (0)) (nI (0)) (nI (0)) (nI (0)) (nI (0)) := (hf_142 _ (by omega)).trans hc_125
  have hc_155 : σ_143 55 = o7 G (54 + 1) (lN (0)) (lN (0)) (nI (1)) (nI (40)) (nI (0)) := (hf_142 _ (by omega)).trans hc_126
  have hc_156 : σ_143 56 = q_an G 5 (fun _ => 0) := (hf_142 _ (by omega)).trans hc_127
  have hc_157 : σ_143 57 = q_an G 1681 (fun _ => 0) := (hf_142 _ (by omega)).trans hc_128
  have hc_158 : σ_143 58 = q_an G 1681 (fun _ => 0) := (hf_142 _ (by omega)).trans hc_129
  have hc_159 : σ_143 59 = q_an G 1681 (fun _ => 0) := (hf_142 _ (by omega)).trans hc_130
  have hc_160 : σ_143 60 = q_an G 1681 (fun _ => 0) := (hf_142 _ (by omega)).trans hc_131
  have hc_161 : σ_143 61 = q_an G 1681 (fun _ => 0) := (hf_142 _ (by omega)).trans hc_132
  have hc_162 : σ_143 44 = q_rn G 4 4 (va_up (va_up (fun _ => none) 0 (some 46)) 1 (some 54)) := (hf_142 _ (by omega)).trans hc_133
  refine A_aastR (j := 2) (oid := 62) hg (by decide) rfl hc_162 (by omega) hc_134 (by omega) rfl (by omega) (by decide) dX4_init_42 (fun σ_163 hc_164 hf_165 => ?_)
  have hc_164 : σ_163 44 = q_rn G 4 4 (va_up (va_up (va_up (fun _ => none) 0 (some 46)) 1 (some 54)) 2 (some 62)) := hc_164
  have hc_166 : σ_163 45 = o1 G (nI (0)) (nI (0)) (q_d (0)) (q_d (0)) (q_d (0)) := (hf_165 _ (by omega)).trans hc_144
  have hc_167 : σ_163 43 = .inr (4, [.ref (q_h G + 44), .ref (q_h G + 45)]) := (hf_165 _ (by omega)).trans hc_145
  have hc_168 : σ_163 46 = o8 G (46) (nI (0)) (nI (0)) (nI (0)) (nI (0)) (nI (0)) (nI (0)) := (hf_165 _ (by omega)).trans hc_146
  have hc_169 : σ_163 47 = o7 G (46 + 1) (lN (0)) (lN (0)) (nI (1)) (nI (40)) (nI (0)) := (hf_165 _ (by omega)).trans hc_147
  have hc_170 : σ_163 48 = q_an G 5 (fun _ => 0) := (hf_165 _ (by omega)).trans hc_148
  have hc_171 : σ_163 49 = q_an G 1681 (fun _ => 0) := (hf_165 _ (by omega)).trans hc_149
  have hc_172 : σ_163 50 = q_an G 1681 (fun _ => 0) := (hf_165 _ (by omega)).trans hc_150
  have hc_173 : σ_163 51 = q_an G 1681 (fun _ => 0) := (hf_165 _ (by omega)).trans hc_151
  have hc_174 : σ_163 52 = q_an G 1681 (fun _ => 0) := (hf_165 _ (by omega)).trans hc_152
  have hc_175 : σ_163 53 = q_an G 1681 (fun _ => 0) := (hf_165 _ (by omega)).trans hc_153
  have hc_176 : σ_163 54 = o8 G (54) (nI (0)) (nI (0)) (nI (0)) (nI (0)) (nI (0)) (nI (0)) := (hf_165 _ (by omega)).trans hc_154
  have hc_177 : σ_163 55 = o7 G (54 + 1) (lN (0)) (lN (0)) (nI (1)) (nI (40)) (nI (0)) := (hf_165 _ (by omega)).trans hc_155
  have hc_178 : σ_163 56 = q_an G 5 (fun _ => 0) := (hf_165 _ (by omega)).trans hc_156
  have hc_179 : σ_163 57 = q_an G 1681 (fun _ => 0) := (hf_165 _ (by omega)).trans hc_157
  have hc_180 : σ_163 58 = q_an G 1681 (fun _ => 0) := (hf_165 _ (by omega)).trans hc_158
  have hc_181 : σ_163 59 = q_an G 1681 (fun _ => 0) := (hf_165 _ (by omega)).trans hc_159
  have hc_182 : σ_163 60 = q_an G 1681 (fun _ => 0) := (hf_165 _ (by omega)).trans hc_160
  have hc_183 : σ_163 61 = q_an G 1681 (fun _ => 0) := (hf_165 _ (by omega)).trans hc_161
  have hc_184 : σ_163 62 = o8 G (62) (nI (0)) (nI (0)) (nI (0)) (nI (0)) (nI (0)) (nI (0)) := (hf_165 _ (by omega)).trans hc_134
  have hc_185 : σ_163 63 = o7 G (62 + 1) (lN (0)) (lN (0)) (nI (1)) (nI (40)) (nI (0)) := (hf_165 _ (by omega)).trans hc_135
  have hc_186 : σ_163 64 = q_an G 5 (fun _ => 0) := (hf_165 _ (by omega)).trans hc_136
  have hc_187 : σ_163 65 = q_an G 1681 (fun _ => 0) := (hf_165 _ (by omega)).trans hc_137
  have hc_188 : σ_163 66 = q_an G 1681 (fun _ => 0) := (hf_165 _ (by omega)).trans hc_138
  have hc_189 : σ_163 67 = q_an G 1681 (fun _ => 0) := (hf_165 _ (by omega)).trans hc_139
  have hc_190 : σ_163 68 = q_an G 1681 (fun _ => 0) := (hf_165 _ (by omega)).trans hc_140
  have hc_191 : σ_163 69 = q_an G 1681 (fun _ => 0) := (hf_165 _ (by omega)).trans hc_141
  refine A_iincN (k' := 1) hg dX4_init_43 (by decide) rfl (by decide) (q_c1d rfl) ?_
  refine A_eq (ls2 := [some (.ref (q_h G + 43)), some (.int (nI (2 + 1)))]) (st2 := []) (pc2 := 0) rfl rfl ?_
  refine A_goto (tgt := 25) hg dX4_init_46 (by decide) ?_
  refine A_eq (ls2 := [some (.ref (q_h G + 43)), some (.int (nI (3)))]) (st2 := []) (pc2 := 0) rfl rfl ?_
  refine A_iload_n hg dX4_init_25 rfl rfl ?_
  refine A_iconst (v := (nI (4))) hg dX4_init_26 (by decide) ?_
  refine A_icmp_geN (tgt := 49) hg dX4_init_27 (by decide) (by decide) (by decide) (fun c27 => False.elim (by omega)) (fun c27 => ?_)
  refine A_aload_n hg dX4_init_30 rfl rfl ?_
  refine A_getf (v := .ref (q_h G + 44)) hg fl_RX4_11 dX4_init_31 hc_167 (by omega) rfl ?_
  refine A_iload_n hg dX4_init_34 rfl rfl ?_
  refine A_newo (ci := 8) (fs := [.null, .int (nI (0)), .null, .null, .int (nI (0)), .null, .null, .null, .int (nI (0)), .int (nI (0)), .int (nI (0)), .int (nI (0))]) (C := RX8) (T := TX8) (N := 12) hg tyX8 rfl uw_8 tyX8_ok (q_mt 223 (by decide +kernel)) (q_mt 259 (by decide +kernel)) (q_mt 10 (by decide +kernel)) nd_8 (by decide) (by decide) dX4_init_35 (fun σ_192 hc_193 hf_194 => ?_)
  have hc_193 : σ_192 70 = .inr (8, [.null, .int (nI (0)), .null, .null, .int (nI (0)), .null, .null, .null, .int (nI (0)), .int (nI (0)), .int (nI (0)), .int (nI (0))]) := hc_193
  have hc_195 : σ_192 45 = o1 G (nI (0)) (nI (0)) (q_d (0)) (q_d (0)) (q_d (0)) := (hf_194 _ (by omega)).trans hc_166
  have hc_196 : σ_192 43 = .inr (4, [.ref (q_h G + 44), .ref (q_h G + 45)]) := (hf_194 _ (by omega)).trans hc_167
  have hc_197 : σ_192 46 = o8 G (46) (nI (0)) (nI (0)) (nI (0)) (nI (0)) (nI (0)) (nI (0)) := (hf_194 _ (by omega)).trans hc_168
  have hc_198 : σ_192 47 = o7 G (46 + 1) (lN (0)) (lN (0)) (nI (1)) (nI (40)) (nI (0)) := (hf_194 _ (by omega)).trans hc_169
  have hc_199 : σ_192 48 = q_an G 5 (fun _ => 0) := (hf_194 _ (by omega)).trans hc_170
  have hc_200 : σ_192 49 = q_an G 1681 (fun _ => 0) := (hf_194 _ (by omega)).trans hc_171
  have hc_201 : σ_192 50 = q_an G 1681 (fun _ => 0) := (hf_194 _ (by omega)).trans hc_172
  have hc_202 : σ_192 51 = q_an G 1681 (fun _ => 0) := (hf_194 _ (by omega)).trans hc_173
  have hc_203 : σ_192 52 = q_an G 1681 (fun _ => 0) := (hf_194 _ (by omega)).trans hc_174
  have hc_204 : σ_192 53 = q_an G 1681 (fun _ => 0) := (hf_194 _ (by omega)).trans hc_175
  have hc_205 : σ_192 54 = o8 G (54) (nI (0)) (nI (0)) (nI (0)) (nI (0)) (nI (0)) (nI (0)) := (hf_194 _ (by omega)).trans hc_176
  have hc_206 : σ_192 55 = o7 G (54 + 1) (lN (0)) (lN (0)) (nI (1)) (nI (40)) (nI (0)) := (hf_194 _ (by omega)).trans hc_177
  have hc_207 : σ_192 56 = q_an G 5 (fun _ => 0) := (hf_194 _ (by omega)).trans hc_178
  have hc_208 : σ_192 57 = q_an G 1681 (fun _ => 0) := (hf_194 _ (by omega)).trans hc_179
  have hc_209 : σ_192 58 = q_an G 1681 (fun _ => 0) := (hf_194 _ (by omega)).trans hc_180
  have hc_210 : σ_192 59 = q_an G 1681 (fun _ => 0) := (hf_194 _ (by omega)).trans hc_181
  have hc_211 : σ_192 60 = q_an G 1681 (fun _ => 0) := (hf_194 _ (by omega)).trans hc_182
  have hc_212 : σ_192 61 = q_an G 1681 (fun _ => 0) := (hf_194 _ (by omega)).trans hc_183
  have hc_213 : σ_192 62 = o8 G (62) (nI (0)) (nI (0)) (nI (0)) (nI (0)) (nI (0)) (nI (0)) := (hf_194 _ (by omega)).trans hc_184
  have hc_214 : σ_192 63 = o7 G (62 + 1) (lN (0)) (lN (0)) (nI (1)) (nI (40)) (nI (0)) := (hf_194 _ (by omega)).trans hc_185
  have hc_215 : σ_192 64 = q_an G 5 (fun _ => 0) := (hf_194 _ (by omega)).trans hc_186
  have hc_216 : σ_192 65 = q_an G 1681 (fun _ => 0) := (hf_194 _ (by omega)).trans hc_187
  have hc_217 : σ_192 66 = q_an G 1681 (fun _ => 0) := (hf_194 _ (by omega)).trans hc_188
  have hc_218 : σ_192 67 = q_an G 1681 (fun _ => 0) := (hf_194 _ (by omega)).trans hc_189
  have hc_219 : σ_192 68 = q_an G 1681 (fun _ => 0) := (hf_194 _ (by omega)).trans hc_190
  have hc_220 : σ_192 69 = q_an G 1681 (fun _ => 0) := (hf_194 _ (by omega)).trans hc_191
  have hc_221 : σ_192 44 = q_rn G 4 4 (va_up (va_up (va_up (fun _ => none) 0 (some 46)) 1 (some 54)) 2 (some 62)) := (hf_194 _ (by omega)).trans hc_164
  refine A_dup hg dX4_init_38 rfl ?_
  refine A_callI (id := 70) (As := []) (rest := [.ref (q_h G + 70), .int (nI (3)), .ref (q_h G + 44)]) hg lk_RX4_24 rfl in_X8_init dX4_init_39 ⟨by decide, by decide⟩ ⟨by decide, by decide⟩ rfl rfl (Nat.le_of_ble_eq_true rfl) (c_X8_init G σ_192 70 hc_193) q_nx ?_
  rintro _ _ σ_231 ⟨rfl, rfl, hc_222, hc_223, hc_224, hc_225, hc_226, hc_227, hc_228, hc_229, hf_230⟩
  refine (?_ : AJ G K Q 34 33721 true 78 42 [some (.ref (q_h G + 43)), some (.int (nI (3)))] [.ref (q_h G + 70), .int (nI (3)), .ref (q_h G + 44)] σ_231)
  have hc_232 : σ_231 45 = o1 G (nI (0)) (nI (0)) (q_d (0)) (q_d (0)) (q_d (0)) := (hf_230 _ (by omega)).trans hc_195
  have hc_233 : σ_231 43 = .inr (4, [.ref (q_h G + 44), .ref (q_h G + 45)]) := (hf_230 _ (by omega)).trans hc_196
  have hc_234 : σ_231 46 = o8 G (46) (nI (0)) (nI (0)) (nI (0)) (nI (0)) (nI (0)) (nI (0)) := (hf_230 _ (by omega)).trans hc_197
  have hc_235 : σ_231 47 = o7 G (46 + 1) (lN (0)) (lN (0)) (nI (1)) (nI (40)) (nI (0)) := (hf_230 _ (by omega)).trans hc_198
  have hc_236 : σ_231 48 = q_an G 5 (fun _ => 0) := (hf_230 _ (by omega)).trans hc_199
  have hc_237 : σ_231 49 = q_an G 1681 (fun _ => 0) := (hf_230 _ (by omega)).trans hc_200
  have hc_238 : σ_231 50 = q_an G 1681 (fun _ => 0) := (hf_230 _ (by omega)).trans hc_201
  have hc_239 : σ_231 51 = q_an G 1681 (fun _ => 0) := (hf_230 _ (by omega)).trans hc_202
  have hc_240 : σ_231 52 = q_an G 1681 (fun _ => 0) := (hf_230 _ (by omega)).trans hc_203
  have hc_241 : σ_231 53 = q_an G 1681 (fun _ => 0) := (hf_230 _ (by omega)).trans hc_204
  have hc_242 : σ_231 54 = o8 G (54) (nI (0)) (nI (0)) (nI (0)) (nI (0)) (nI (0)) (nI (0)) := (hf_230 _ (by omega)).trans hc_205
  have hc_243 : σ_231 55 = o7 G (54 + 1) (lN (0)) (lN (0)) (nI (1)) (nI (40)) (nI (0)) := (hf_230 _ (by omega)).trans hc_206
  have hc_244 : σ_231 56 = q_an G 5 (fun _ => 0) := (hf_230 _ (by omega)).trans hc_207
  have hc_245 : σ_231 57 = q_an G 1681 (fun _ => 0) := (hf_230 _ (by omega)).trans hc_208
  have hc_246 : σ_231 58 = q_an G 1681 (fun _ => 0) := (hf_230 _ (by omega)).trans hc_209
  have hc_247 : σ_231 59 = q_an G 1681 (fun _ => 0) := (hf_230 _ (by omega)).trans hc_210
  have hc_248 : σ_231 60 = q_an G 1681 (fun _ => 0) := (hf_230 _ (by omega)).trans hc_211
  have hc_249 : σ_231 61 = q_an G 1681 (fun _ => 0) := (hf_230 _ (by omega)).trans hc_212
  have hc_250 : σ_231 62 = o8 G (62) (nI (0)) (nI (0)) (nI (0)) (nI (0)) (nI (0)) (nI (0)) := (hf_230 _ (by omega)).trans hc_213
  have hc_251 : σ_231 63 = o7 G (62 + 1) (lN (0)) (lN (0)) (nI (1)) (nI (40)) (nI (0)) := (hf_230 _ (by omega)).trans hc_214
  have hc_252 : σ_231 64 = q_an G 5 (fun _ => 0) := (hf_230 _ (by omega)).trans hc_215
  have hc_253 : σ_231 65 = q_an G 1681 (fun _ => 0) := (hf_230 _ (by omega)).trans hc_216
  have hc_254 : σ_231 66 = q_an G 1681 (fun _ => 0) := (hf_230 _ (by omega)).trans hc_217
  have hc_255 : σ_231 67 = q_an G 1681 (fun _ => 0) := (hf_230 _ (by omega)).trans hc_218
  have hc_256 : σ_231 68 = q_an G 1681 (fun _ => 0) := (hf_230 _ (by omega)).trans hc_219
  have hc_257 : σ_231 69 = q_an G 1681 (fun _ => 0) := (hf_230 _ (by omega)).trans hc_220
  have hc_258 : σ_231 44 = q_rn G 4 4 (va_up (va_up (va_up (fun _ => none) 0 (some 46)) 1 (some 54)) 2 (some 62)) := (hf_230 _ (by omega)).trans hc_221
  refine A_aastR (j := 3) (oid := 70) hg (by decide) rfl hc_258 (by omega) hc_222 (by omega) rfl (by omega) (by decide) dX4_init_42 (fun σ_259 hc_260 hf_261 => ?_)
  have hc_260 : σ_259 44 = q_rn G 4 4 (va_up (va_up (va_up (va_up (fun _ => none) 0 (some 46)) 1 (some 54)) 2 (some 62)) 3 (some 70)) := hc_260
  have hc_262 : σ_259 45 = o1 G (nI (0)) (nI (0)) (q_d (0)) (q_d (0)) (q_d (0)) := (hf_261 _ (by omega)).trans hc_232
  have hc_263 : σ_259 43 = .inr (4, [.ref (q_h G + 44), .ref (q_h G + 45)]) := (hf_261 _ (by omega)).trans hc_233
  have hc_264 : σ_259 46 = o8 G (46) (nI (0)) (nI (0)) (nI (0)) (nI (0)) (nI (0)) (nI (0)) := (hf_261 _ (by omega)).trans hc_234
  have hc_265 : σ_259 47 = o7 G (46 + 1) (lN (0)) (lN (0)) (nI (1)) (nI (40)) (nI (0)) := (hf_261 _ (by omega)).trans hc_235
  have hc_266 : σ_259 48 = q_an G 5 (fun _ => 0) := (hf_261 _ (by omega)).trans hc_236
  have hc_267 : σ_259 49 = q_an G 1681 (fun _ => 0) := (hf_261 _ (by omega)).trans hc_237
  have hc_268 : σ_259 50 = q_an G 1681 (fun _ => 0) := (hf_261 _ (by omega)).trans hc_238
  have hc_269 : σ_259 51 = q_an G 1681 (fun _ => 0) := (hf_261 _ (by omega)).trans hc_239
  have hc_270 : σ_259 52 = q_an G 1681 (fun _ => 0) := (hf_261 _ (by omega)).trans hc_240
  have hc_271 : σ_259 53 = q_an G 1681 (fun _ => 0) := (hf_261 _ (by omega)).trans hc_241
  have hc_272 : σ_259 54 = o8 G (54) (nI (0)) (nI (0)) (nI (0)) (nI (0)) (nI (0)) (nI (0)) := (hf_261 _ (by omega)).trans hc_242
  have hc_273 : σ_259 55 = o7 G (54 + 1) (lN (0)) (lN (0)) (nI (1)) (nI (40)) (nI (0)) := (hf_261 _ (by omega)).trans hc_243
  have hc_274 : σ_259 56 = q_an G 5 (fun _ => 0) := (hf_261 _ (by omega)).trans hc_244
  have hc_275 : σ_259 57 = q_an G 1681 (fun _ => 0) := (hf_261 _ (by omega)).trans hc_245
  have hc_276 : σ_259 58 = q_an G 1681 (fun _ => 0) := (hf_261 _ (by omega)).trans hc_246
  have hc_277 : σ_259 59 = q_an G 1681 (fun _ => 0) := (hf_261 _ (by omega)).trans hc_247
  have hc_278 : σ_259 60 = q_an G 1681 (fun _ => 0) := (hf_261 _ (by omega)).trans hc_248
  have hc_279 : σ_259 61 = q_an G 1681 (fun _ => 0) := (hf_261 _ (by omega)).trans hc_249
  have hc_280 : σ_259 62 = o8 G (62) (nI (0)) (nI (0)) (nI (0)) (nI (0)) (nI (0)) (nI (0)) := (hf_261 _ (by omega)).trans hc_250
  have hc_281 : σ_259 63 = o7 G (62 + 1) (lN (0)) (lN (0)) (nI (1)) (nI (40)) (nI (0)) := (hf_261 _ (by omega)).trans hc_251
  have hc_282 : σ_259 64 = q_an G 5 (fun _ => 0) := (hf_261 _ (by omega)).trans hc_252
  have hc_283 : σ_259 65 = q_an G 1681 (fun _ => 0) := (hf_261 _ (by omega)).trans hc_253
  have hc_284 : σ_259 66 = q_an G 1681 (fun _ => 0) := (hf_261 _ (by omega)).trans hc_254
  have hc_285 : σ_259 67 = q_an G 1681 (fun _ => 0) := (hf_261 _ (by omega)).trans hc_255
  have hc_286 : σ_259 68 = q_an G 1681 (fun _ => 0) := (hf_261 _ (by omega)).trans hc_256
  have hc_287 : σ_259 69 = q_an G 1681 (fun _ => 0) := (hf_261 _ (by omega)).trans hc_257
  have hc_288 : σ_259 70 = o8 G (70) (nI (0)) (nI (0)) (nI (0)) (nI (0)) (nI (0)) (nI (0)) := (hf_261 _ (by omega)).trans hc_222
  have hc_289 : σ_259 71 = o7 G (70 + 1) (lN (0)) (lN (0)) (nI (1)) (nI (40)) (nI (0)) := (hf_261 _ (by omega)).trans hc_223
  have hc_290 : σ_259 72 = q_an G 5 (fun _ => 0) := (hf_261 _ (by omega)).trans hc_224
  have hc_291 : σ_259 73 = q_an G 1681 (fun _ => 0) := (hf_261 _ (by omega)).trans hc_225
  have hc_292 : σ_259 74 = q_an G 1681 (fun _ => 0) := (hf_261 _ (by omega)).trans hc_226
  have hc_293 : σ_259 75 = q_an G 1681 (fun _ => 0) := (hf_261 _ (by omega)).trans hc_227
  have hc_294 : σ_259 76 = q_an G 1681 (fun _ => 0) := (hf_261 _ (by omega)).trans hc_228
  have hc_295 : σ_259 77 = q_an G 1681 (fun _ => 0) := (hf_261 _ (by omega)).trans hc_229
  refine A_iincN (k' := 1) hg dX4_init_43 (by decide) rfl (by decide) (q_c1d rfl) ?_
  refine A_eq (ls2 := [some (.ref (q_h G + 43)), some (.int (nI (3 + 1)))]) (st2 := []) (pc2 := 0) rfl rfl ?_
  refine A_goto (tgt := 25) hg dX4_init_46 (by decide) ?_
  refine A_eq (ls2 := [some (.ref (q_h G + 43)), some (.int (nI (4)))]) (st2 := []) (pc2 := 0) rfl rfl ?_
  refine A_iload_n hg dX4_init_25 rfl rfl ?_
  refine A_iconst (v := (nI (4))) hg dX4_init_26 (by decide) ?_
  refine A_icmp_geN (tgt := 49) hg dX4_init_27 (by decide) (by decide) (by decide) (fun c27 => ?_) (fun c27 => False.elim (by omega))
  refine A_canonR (fun j => some (46 + 8 * j)) hc_260 (x_f4 (P := fun j => _ = some (46 + 8 * j)) rfl rfl rfl rfl) (fun σ_296 hc_297 hf_298 => ?_)
  have hc_299 : σ_296 45 = o1 G (nI (0)) (nI (0)) (q_d (0)) (q_d (0)) (q_d (0)) := (hf_298 _ (by omega)).trans hc_262
  have hc_300 : σ_296 43 = .inr (4, [.ref (q_h G + 44), .ref (q_h G + 45)]) := (hf_298 _ (by omega)).trans hc_263
  have hc_301 : σ_296 46 = o8 G (46) (nI (0)) (nI (0)) (nI (0)) (nI (0)) (nI (0)) (nI (0)) := (hf_298 _ (by omega)).trans hc_264
  have hc_302 : σ_296 47 = o7 G (46 + 1) (lN (0)) (lN (0)) (nI (1)) (nI (40)) (nI (0)) := (hf_298 _ (by omega)).trans hc_265
  have hc_303 : σ_296 48 = q_an G 5 (fun _ => 0) := (hf_298 _ (by omega)).trans hc_266
  have hc_304 : σ_296 49 = q_an G 1681 (fun _ => 0) := (hf_298 _ (by omega)).trans hc_267
  have hc_305 : σ_296 50 = q_an G 1681 (fun _ => 0) := (hf_298 _ (by omega)).trans hc_268
  have hc_306 : σ_296 51 = q_an G 1681 (fun _ => 0) := (hf_298 _ (by omega)).trans hc_269
  have hc_307 : σ_296 52 = q_an G 1681 (fun _ => 0) := (hf_298 _ (by omega)).trans hc_270
  have hc_308 : σ_296 53 = q_an G 1681 (fun _ => 0) := (hf_298 _ (by omega)).trans hc_271
  have hc_309 : σ_296 54 = o8 G (54) (nI (0)) (nI (0)) (nI (0)) (nI (0)) (nI (0)) (nI (0)) := (hf_298 _ (by omega)).trans hc_272
  have hc_310 : σ_296 55 = o7 G (54 + 1) (lN (0)) (lN (0)) (nI (1)) (nI (40)) (nI (0)) := (hf_298 _ (by omega)).trans hc_273
  have hc_311 : σ_296 56 = q_an G 5 (fun _ => 0) := (hf_298 _ (by omega)).trans hc_274
  have hc_312 : σ_296 57 = q_an G 1681 (fun _ => 0) := (hf_298 _ (by omega)).trans hc_275
  have hc_313 : σ_296 58 = q_an G 1681 (fun _ => 0) := (hf_298 _ (by omega)).trans hc_276
  have hc_314 : σ_296 59 = q_an G 1681 (fun _ => 0) := (hf_298 _ (by omega)).trans hc_277
  have hc_315 : σ_296 60 = q_an G 1681 (fun _ => 0) := (hf_298 _ (by omega)).trans hc_278
  have hc_316 : σ_296 61 = q_an G 1681 (fun _ => 0) := (hf_298 _ (by omega)).trans hc_279
  have hc_317 : σ_296 62 = o8 G (62) (nI (0)) (nI (0)) (nI (0)) (nI (0)) (nI (0)) (nI (0)) := (hf_298 _ (by omega)).trans hc_280
  have hc_318 : σ_296 63 = o7 G (62 + 1) (lN (0)) (lN (0)) (nI (1)) (nI (40)) (nI (0)) := (hf_298 _ (by omega)).trans hc_281
  have hc_319 : σ_296 64 = q_an G 5 (fun _ => 0) := (hf_298 _ (by omega)).trans hc_282
  have hc_320 : σ_296 65 = q_an G 1681 (fun _ => 0) := (hf_298 _ (by omega)).trans hc_283
  have hc_321 : σ_296 66 = q_an G 1681 (fun _ => 0) := (hf_298 _ (by omega)).trans hc_284
  have hc_322 : σ_296 67 = q_an G 1681 (fun _ => 0) := (hf_298 _ (by omega)).trans hc_285
  have hc_323 : σ_296 68 = q_an G 1681 (fun _ => 0) := (hf_298 _ (by omega)).trans hc_286
  have hc_324 : σ_296 69 = q_an G 1681 (fun _ => 0) := (hf_298 _ (by omega)).trans hc_287
  have hc_325 : σ_296 70 = o8 G (70) (nI (0)) (nI (0)) (nI (0)) (nI (0)) (nI (0)) (nI (0)) := (hf_298 _ (by omega)).trans hc_288
  have hc_326 : σ_296 71 = o7 G (70 + 1) (lN (0)) (lN (0)) (nI (1)) (nI (40)) (nI (0)) := (hf_298 _ (by omega)).trans hc_289
  have hc_327 : σ_296 72 = q_an G 5 (fun _ => 0) := (hf_298 _ (by omega)).trans hc_290
  have hc_328 : σ_296 73 = q_an G 1681 (fun _ => 0) := (hf_298 _ (by omega)).trans hc_291
  have hc_329 : σ_296 74 = q_an G 1681 (fun _ => 0) := (hf_298 _ (by omega)).trans hc_292
  have hc_330 : σ_296 75 = q_an G 1681 (fun _ => 0) := (hf_298 _ (by omega)).trans hc_293
  have hc_331 : σ_296 76 = q_an G 1681 (fun _ => 0) := (hf_298 _ (by omega)).trans hc_294
  have hc_332 : σ_296 77 = q_an G 1681 (fun _ => 0) := (hf_298 _ (by omega)).trans hc_295
  rw [hQ]
  exact A_returnN hg (by decide) (by decide) rfl dX4_init_49 ⟨rfl, ⟨rfl, ⟨nI 0, nI 0, q_d 0, q_d 0, q_d 0, fun _ => 0, fun _ => 0, fun _ => 0, fun _ => 0, fun _ => 0, fun _ => 0, fun _ => 0, fun _ => 0, fun _ => 1, fun _ => 40, fun _ => 0, fun _ _ => 0, fun _ _ => 0, fun _ _ => 0, fun _ _ => 0, fun _ _ => 0, fun _ _ => 0, hc_300, hc_297, hc_299, (x_f4 (P := fun j9 => σ_296 (46 + 8 * j9) = o8 G (46 + 8 * j9) (nI ((fun _ => 0) j9)) (nI ((fun _ => 0) j9)) (nI ((fun _ => 0) j9)) (nI ((fun _ => 0) j9)) (nI ((fun _ => 0) j9)) (nI ((fun _ => 0) j9))) hc_301 hc_309 hc_317 hc_325), (x_f4 (P := fun j9 => σ_296 (46 + 8 * j9 + 1) = o7 G (46 + 8 * j9 + 1) (lN ((fun _ => 0) j9)) (lN ((fun _ => 0) j9)) (nI ((fun _ => 1) j9)) (nI ((fun _ => 40) j9)) (nI ((fun _ => 0) j9))) hc_302 hc_310 hc_318 hc_326), (x_f4 (P := fun j9 => σ_296 (46 + 8 * j9 + 2) = q_an G 5 ((fun _ => fun _ => 0) j9)) hc_303 hc_311 hc_319 hc_327), (x_f4 (P := fun j9 => σ_296 (46 + 8 * j9 + 3) = q_an G 1681 ((fun _ => fun _ => 0) j9)) hc_304 hc_312 hc_320 hc_328), (x_f4 (P := fun j9 => σ_296 (46 + 8 * j9 + 4) = q_an G 1681 ((fun _ => fun _ => 0) j9)) hc_305 hc_313 hc_321 hc_329), (x_f4 (P := fun j9 => σ_296 (46 + 8 * j9 + 5) = q_an G 1681 ((fun _ => fun _ => 0) j9)) hc_306 hc_314 hc_322 hc_330), (x_f4 (P := fun j9 => σ_296 (46 + 8 * j9 + 6) = q_an G 1681 ((fun _ => fun _ => 0) j9)) hc_307 hc_315 hc_323 hc_331), (x_f4 (P := fun j9 => σ_296 (46 + 8 * j9 + 7) = q_an G 1681 ((fun _ => fun _ => 0) j9)) hc_308 hc_316 hc_324 hc_332), x_TI_0⟩, (fun i hi => ((hf_298 i (by omega)).trans ((hf_261 i (by omega)).trans ((hf_230 i (by omega)).trans ((hf_194 i (by omega)).trans ((hf_165 i (by omega)).trans ((hf_142 i (by omega)).trans ((hf_114 i (by omega)).trans ((hf_93 i (by omega)).trans ((hf_78 i (by omega)).trans ((hf_58 i (by omega)).trans ((hf_45 i (by omega)).trans ((hf_38 i (by omega)).trans ((hf_26 i (by omega)).trans ((hf_21 i (by omega)).trans ((hf_15 i (by omega)).trans ((hf_11 i (by omega)).trans ((hf_7 i (by omega)).trans (hf_3 i (by omega))))))))))))))))))))⟩⟩
set_option maxRecDepth 100000 in
set_option maxHeartbeats 4000000 in
theorem c_X2_init (G : GL) (σ : Nat → va_E)  (hc0 : σ 78 = .inr (2, [.null, .int (nI (0)), .int (nI (0))]))  : CtN G yX2_init cX2_init 2 none ⟨3, 145, 1720, 61⟩ [.ref (q_h G + 78)] true 79 σ (fun v9 n' σ' => n' = 224 ∧ (fun v9 σ2 => v9 = none ∧ (x_hi G σ2 0 0 (fun _ => x_gI)) ∧ (∀ i : Nat, i < 78 → σ2 i = σ i)) v9 σ') q_noX := by
  refine q_enterI [some (.ref (q_h G + 78)), none] (by decide) (Nat.le_of_ble_eq_true rfl) rfl ?_
  intro K hg hme
  obtain ⟨Q, hQ⟩ : ∃ Q, Q = q_Q G K true 79 145 1720 (fun v9 n' σ' => n' = 224 ∧ (fun v9 σ2 => v9 = none ∧ (x_hi G σ2 0 0 (fun _ => x_gI)) ∧ (∀ i : Nat, i < 78 → σ2 i = σ i)) v9 σ') q_noX := ⟨_, rfl⟩
  refine (?_ : AJ G K (q_Q G K true 79 145 1720 _ _) 0 0 true 79 0 _ _ σ)
  rw [← hQ]
  refine A_aload_n hg dX2_init_0 rfl rfl ?_
  refine A_objInit hg (q_mt 319 (by decide +kernel)) (q_mt 34 (by decide +kernel)) (q_mt 35 (by decide +kernel)) dX2_init_1 ⟨by decide, by decide⟩ (Nat.le_of_ble_eq_true rfl) ?_
  refine A_aload_n hg dX2_init_4 rfl rfl ?_
  refine A_bipush (v := (nI (8))) hg dX2_init_5 (by decide) ?_
  refine A_newq (C := "GoldenHeaps$Game") (t := 2) (N := 8) hg (by decide) rfl (q_mt 320 (by decide +kernel)) (q_mt 321 (by decide +kernel)) (by decide) (by decide) (by decide) (by decide) dX2_init_7 (fun σ_1 hc_2 hf_3 => ?_)
  have hc_2 : σ_1 79 = q_rn G 2 8 (fun _ => none) := hc_2
  have hc_4 : σ_1 78 = .inr (2, [.null, .int (nI (0)), .int (nI (0))]) := (hf_3 _ (by omega)).trans hc0
  refine A_putF (fs' := [.ref (q_h G + 79), .int (nI (0)), .int (nI (0))]) hg fl_RX2_11 hme rfl (by intro C T N h; cases h; exact q_mt 323 (by decide +kernel)) dX2_init_10 hc_4 (by omega) (Nat.le_of_ble_eq_true rfl) rfl rfl rfl (fun σ_5 hc_6 hf_7 => ?_)
  have hc_6 : σ_5 78 = .inr (2, [.ref (q_h G + 79), .int (nI (0)), .int (nI (0))]) := hc_6
  have hc_8 : σ_5 79 = q_rn G 2 8 (fun _ => none) := (hf_7 _ (by omega)).trans hc_2
  refine A_aload_n hg dX2_init_13 rfl rfl ?_
  refine A_iconst (v := (nI (0))) hg dX2_init_14 (by decide) ?_
  refine A_putf hg fl_RX2_17 dX2_init_15 hc_6 (by omega) (Nat.le_of_ble_eq_true rfl) rfl rfl rfl (fun σ_9 hc_10 hf_11 => ?_)
  have hc_10 : σ_9 78 = .inr (2, [.ref (q_h G + 79), .int (nI (0)), .int (nI (0))]) := hc_10
  have hc_12 : σ_9 79 = q_rn G 2 8 (fun _ => none) := (hf_11 _ (by omega)).trans hc_8
  refine A_aload_n hg dX2_init_18 rfl rfl ?_
  refine A_iconst (v := (nI (0))) hg dX2_init_19 (by decide) ?_
  refine A_putf hg fl_RX2_21 dX2_init_20 hc_10 (by omega) (Nat.le_of_ble_eq_true rfl) rfl rfl rfl (fun σ_13 hc_14 hf_15 => ?_)
  have hc_14 : σ_13 78 = .inr (2, [.ref (q_h G + 79), .int (nI (0)), .int (nI (0))]) := hc_14
  have hc_16 : σ_13 79 = q_rn G 2 8 (fun _ => none) := (hf_15 _ (by omega)).trans hc_12
  refine A_iconst (v := (nI (0))) hg dX2_init_23 (by decide) ?_
  refine A_istore_n hg dX2_init_24 rfl (by decide) (q_c1d rfl) ?_
  refine A_eq (ls2 := [some (.ref (q_h G + 78)), some (.int (nI (0)))]) (st2 := []) (pc2 := 0) rfl rfl ?_
  refine A_iload_n hg dX2_init_25 rfl rfl ?_
  refine A_bipush (v := (nI (8))) hg dX2_init_26 (by decide) ?_
  refine A_icmp_geN (tgt := 50) hg dX2_init_28 (by decide) (by decide) (by decide) (fun c28 => False.elim (by omega)) (fun c28 => ?_)
  refine A_aload_n hg dX2_init_31 rfl rfl ?_
  refine A_getf (v := .ref (q_h G + 79)) hg fl_RX2_11 dX2_init_32 hc_14 (by omega) rfl ?_
  refine A_iload_n hg dX2_init_35 rfl rfl ?_
  refine A_newo (ci := 0) (fs := [.null, .int (nI (0)), .null, .int (nI (0)), .int (nI (0)), .int (nI (0)), .null, .null, .int (nI (0))]) (C := RX0) (T := TX0) (N := 9) hg tyX0 rfl uw_0 tyX0_ok (q_mt 320 (by decide +kernel)) (q_mt 72 (by decide +kernel)) (q_mt 4 (by decide +kernel)) nd_0 (by decide) (by decide) dX2_init_36 (fun σ_17 hc_18 hf_19 => ?_)
  have hc_18 : σ_17 80 = .inr (0, [.null, .int (nI (0)), .null, .int (nI (0)), .int (nI (0)), .int (nI (0)), .null, .null, .int (nI (0))]) := hc_18
  have hc_20 : σ_17 79 = q_rn G 2 8 (fun _ => none) := (hf_19 _ (by omega)).trans hc_16
  have hc_21 : σ_17 78 = .inr (2, [.ref (q_h G + 79), .int (nI (0)), .int (nI (0))]) := (hf_19 _ (by omega)).trans hc_14
  refine A_dup hg dX2_init_39 rfl ?_
  refine A_callI (id := 80) (As := []) (rest := [.ref (q_h G + 80), .int (nI (0)), .ref (q_h G + 79)]) hg lk_RX2_24 rfl in_X0_init dX2_init_40 ⟨by decide, by decide⟩ ⟨by decide, by decide⟩ rfl rfl (Nat.le_of_ble_eq_true rfl) (c_X0_init G σ_17 80 hc_18) q_nx ?_
  rintro _ _ σ_23 ⟨rfl, rfl, hJ80, hf_22⟩
  refine (?_ : AJ G K Q 19 222 true 98 43 [some (.ref (q_h G + 78)), some (.int (nI (0)))] [.ref (q_h G + 80), .int (nI (0)), .ref (q_h G + 79)] σ_23)
  have hc_24 : σ_23 79 = q_rn G 2 8 (fun _ => none) := (hf_22 _ (by omega)).trans hc_20
  have hc_25 : σ_23 78 = .inr (2, [.ref (q_h G + 79), .int (nI (0)), .int (nI (0))]) := (hf_22 _ (by omega)).trans hc_21
  obtain ⟨aJ, bJ, cJ, dJ, eJ, hjo_26⟩ := x_gj_o hJ80
  refine A_aastR (j := 0) (oid := 80) hg (by decide) rfl hc_24 (by omega) hjo_26 (by omega) rfl (by omega) (by decide) dX2_init_43 (fun σ_27 hc_28 hf_29 => ?_)
  have hc_28 : σ_27 79 = q_rn G 2 8 (va_up (fun _ => none) 0 (some 80)) := hc_28
  have hc_30 : σ_27 78 = .inr (2, [.ref (q_h G + 79), .int (nI (0)), .int (nI (0))]) := (hf_29 _ (by omega)).trans hc_25
  have hc_31 : σ_27 80 = o0 G (80) (nI (aJ)) (nI (bJ)) (nI (cJ)) (nI (dJ)) (nI (eJ)) := (hf_29 _ (by omega)).trans hjo_26
  refine A_iincN (k' := 1) hg dX2_init_44 (by decide) rfl (by decide) (q_c1d rfl) ?_
  refine A_eq (ls2 := [some (.ref (q_h G + 78)), some (.int (nI (0 + 1)))]) (st2 := []) (pc2 := 0) rfl rfl ?_
  refine A_goto (tgt := 25) hg dX2_init_47 (by decide) ?_
  refine A_eq (ls2 := [some (.ref (q_h G + 78)), some (.int (nI (1)))]) (st2 := []) (pc2 := 0) rfl rfl ?_
  refine A_iload_n hg dX2_init_25 rfl rfl ?_
  refine A_bipush (v := (nI (8))) hg dX2_init_26 (by decide) ?_
  refine A_icmp_geN (tgt := 50) hg dX2_init_28 (by decide) (by decide) (by decide) (fun c28 => False.elim (by omega)) (fun c28 => ?_)
  refine A_aload_n hg dX2_init_31 rfl rfl ?_
  refine A_getf (v := .ref (q_h G + 79)) hg fl_RX2_11 dX2_init_32 hc_30 (by omega) rfl ?_
  refine A_iload_n hg dX2_init_35 rfl rfl ?_
  refine A_newo (ci := 0) (fs := [.null, .int (nI (0)), .null, .int (nI (0)), .int (nI (0)), .int (nI (0)), .null, .null, .int (nI (0))]) (C := RX0) (T := TX0) (N := 9) hg tyX0 rfl uw_0 tyX0_ok (q_mt 320 (by decide +kernel)) (q_mt 72 (by decide +kernel)) (q_mt 4 (by decide +kernel)) nd_0 (by decide) (by decide) dX2_init_36 (fun σ_32 hc_33 hf_34 => ?_)
  have hc_33 : σ_32 98 = .inr (0, [.null, .int (nI (0)), .null, .int (nI (0)), .int (nI (0)), .int (nI (0)), .null, .null, .int (nI (0))]) := hc_33
  have hc_35 : σ_32 78 = .inr (2, [.ref (q_h G + 79), .int (nI (0)), .int (nI (0))]) := (hf_34 _ (by omega)).trans hc_30
  have hc_36 : σ_32 79 = q_rn G 2 8 (va_up (fun _ => none) 0 (some 80)) := (hf_34 _ (by omega)).trans hc_28
  refine A_dup hg dX2_init_39 rfl ?_
  refine A_callI (id := 98) (As := []) (rest := [.ref (q_h G + 98), .int (nI (1)), .ref (q_h G + 79)]) hg lk_RX2_24 rfl in_X0_init dX2_init_40 ⟨by decide, by decide⟩ ⟨by decide, by decide⟩ rfl rfl (Nat.le_of_ble_eq_true rfl) (c_X0_init G σ_32 98 hc_33) q_nx ?_
  rintro _ _ σ_38 ⟨rfl, rfl, hJ98, hf_37⟩
  refine (?_ : AJ G K Q 37 436 true 116 43 [some (.ref (q_h G + 78)), some (.int (nI (1)))] [.ref (q_h G + 98), .int (nI (1)), .ref (q_h G + 79)] σ_38)
  have hc_39 : σ_38 78 = .inr (2, [.ref (q_h G + 79), .int (nI (0)), .int (nI (0))]) := (hf_37 _ (by omega)).trans hc_35
  have hc_40 : σ_38 79 = q_rn G 2 8 (va_up (fun _ => none) 0 (some 80)) := (hf_37 _ (by omega)).trans hc_36
  obtain ⟨aJ, bJ, cJ, dJ, eJ, hjo_41⟩ := x_gj_o hJ98
  refine A_aastR (j := 1) (oid := 98) hg (by decide) rfl hc_40 (by omega) hjo_41 (by omega) rfl (by omega) (by decide) dX2_init_43 (fun σ_42 hc_43 hf_44 => ?_)
  have hc_43 : σ_42 79 = q_rn G 2 8 (va_up (va_up (fun _ => none) 0 (some 80)) 1 (some 98)) := hc_43
  have hc_45 : σ_42 78 = .inr (2, [.ref (q_h G + 79), .int (nI (0)), .int (nI (0))]) := (hf_44 _ (by omega)).trans hc_39
  have hc_46 : σ_42 98 = o0 G (98) (nI (aJ)) (nI (bJ)) (nI (cJ)) (nI (dJ)) (nI (eJ)) := (hf_44 _ (by omega)).trans hjo_41
  refine A_iincN (k' := 1) hg dX2_init_44 (by decide) rfl (by decide) (q_c1d rfl) ?_
  refine A_eq (ls2 := [some (.ref (q_h G + 78)), some (.int (nI (1 + 1)))]) (st2 := []) (pc2 := 0) rfl rfl ?_
  refine A_goto (tgt := 25) hg dX2_init_47 (by decide) ?_
  refine A_eq (ls2 := [some (.ref (q_h G + 78)), some (.int (nI (2)))]) (st2 := []) (pc2 := 0) rfl rfl ?_
  refine A_iload_n hg dX2_init_25 rfl rfl ?_
  refine A_bipush (v := (nI (8))) hg dX2_init_26 (by decide) ?_
  refine A_icmp_geN (tgt := 50) hg dX2_init_28 (by decide) (by decide) (by decide) (fun c28 => False.elim (by omega)) (fun c28 => ?_)
  refine A_aload_n hg dX2_init_31 rfl rfl ?_
  refine A_getf (v := .ref (q_h G + 79)) hg fl_RX2_11 dX2_init_32 hc_45 (by omega) rfl ?_
  refine A_iload_n hg dX2_init_35 rfl rfl ?_
  refine A_newo (ci := 0) (fs := [.null, .int (nI (0)), .null, .int (nI (0)), .int (nI (0)), .int (nI (0)), .null, .null, .int (nI (0))]) (C := RX0) (T := TX0) (N := 9) hg tyX0 rfl uw_0 tyX0_ok (q_mt 320 (by decide +kernel)) (q_mt 72 (by decide +kernel)) (q_mt 4 (by decide +kernel)) nd_0 (by decide) (by decide) dX2_init_36 (fun σ_47 hc_48 hf_49 => ?_)
  have hc_48 : σ_47 116 = .inr (0, [.null, .int (nI (0)), .null, .int (nI (0)), .int (nI (0)), .int (nI (0)), .null, .null, .int (nI (0))]) := hc_48
  have hc_50 : σ_47 78 = .inr (2, [.ref (q_h G + 79), .int (nI (0)), .int (nI (0))]) := (hf_49 _ (by omega)).trans hc_45
  have hc_51 : σ_47 79 = q_rn G 2 8 (va_up (va_up (fun _ => none) 0 (some 80)) 1 (some 98)) := (hf_49 _ (by omega)).trans hc_43
  refine A_dup hg dX2_init_39 rfl ?_
  refine A_callI (id := 116) (As := []) (rest := [.ref (q_h G + 116), .int (nI (2)), .ref (q_h G + 79)]) hg lk_RX2_24 rfl in_X0_init dX2_init_40 ⟨by decide, by decide⟩ ⟨by decide, by decide⟩ rfl rfl (Nat.le_of_ble_eq_true rfl) (c_X0_init G σ_47 116 hc_48) q_nx ?_
  rintro _ _ σ_53 ⟨rfl, rfl, hJ116, hf_52⟩
  refine (?_ : AJ G K Q 55 650 true 134 43 [some (.ref (q_h G + 78)), some (.int (nI (2)))] [.ref (q_h G + 116), .int (nI (2)), .ref (q_h G + 79)] σ_53)
  have hc_54 : σ_53 78 = .inr (2, [.ref (q_h G + 79), .int (nI (0)), .int (nI (0))]) := (hf_52 _ (by omega)).trans hc_50
  have hc_55 : σ_53 79 = q_rn G 2 8 (va_up (va_up (fun _ => none) 0 (some 80)) 1 (some 98)) := (hf_52 _ (by omega)).trans hc_51
  obtain ⟨aJ, bJ, cJ, dJ, eJ, hjo_56⟩ := x_gj_o hJ116
  refine A_aastR (j := 2) (oid := 116) hg (by decide) rfl hc_55 (by omega) hjo_56 (by omega) rfl (by omega) (by decide) dX2_init_43 (fun σ_57 hc_58 hf_59 => ?_)
  have hc_58 : σ_57 79 = q_rn G 2 8 (va_up (va_up (va_up (fun _ => none) 0 (some 80)) 1 (some 98)) 2 (some 116)) := hc_58
  have hc_60 : σ_57 78 = .inr (2, [.ref (q_h G + 79), .int (nI (0)), .int (nI (0))]) := (hf_59 _ (by omega)).trans hc_54
  have hc_61 : σ_57 116 = o0 G (116) (nI (aJ)) (nI (bJ)) (nI (cJ)) (nI (dJ)) (nI (eJ)) := (hf_59 _ (by omega)).trans hjo_56
  refine A_iincN (k' := 1) hg dX2_init_44 (by decide) rfl (by decide) (q_c1d rfl) ?_
  refine A_eq (ls2 := [some (.ref (q_h G + 78)), some (.int (nI (2 + 1)))]) (st2 := []) (pc2 := 0) rfl rfl ?_
  refine A_goto (tgt := 25) hg dX2_init_47 (by decide) ?_
  refine A_eq (ls2 := [some (.ref (q_h G + 78)), some (.int (nI (3)))]) (st2 := []) (pc2 := 0) rfl rfl ?_
  refine A_iload_n hg dX2_init_25 rfl rfl ?_
  refine A_bipush (v := (nI (8))) hg dX2_init_26 (by decide) ?_
  refine A_icmp_geN (tgt := 50) hg dX2_init_28 (by decide) (by decide) (by decide) (fun c28 => False.elim (by omega)) (fun c28 => ?_)
  refine A_aload_n hg dX2_init_31 rfl rfl ?_
  refine A_getf (v := .ref (q_h G + 79)) hg fl_RX2_11 dX2_init_32 hc_60 (by omega) rfl ?_
  refine A_iload_n hg dX2_init_35 rfl rfl ?_
  refine A_newo (ci := 0) (fs := [.null, .int (nI (0)), .null, .int (nI (0)), .int (nI (0)), .int (nI (0)), .null, .null, .int (nI (0))]) (C := RX0) (T := TX0) (N := 9) hg tyX0 rfl uw_0 tyX0_ok (q_mt 320 (by decide +kernel)) (q_mt 72 (by decide +kernel)) (q_mt 4 (by decide +kernel)) nd_0 (by decide) (by decide) dX2_init_36 (fun σ_62 hc_63 hf_64 => ?_)
  have hc_63 : σ_62 134 = .inr (0, [.null, .int (nI (0)), .null, .int (nI (0)), .int (nI (0)), .int (nI (0)), .null, .null, .int (nI (0))]) := hc_63
  have hc_65 : σ_62 78 = .inr (2, [.ref (q_h G + 79), .int (nI (0)), .int (nI (0))]) := (hf_64 _ (by omega)).trans hc_60
  have hc_66 : σ_62 79 = q_rn G 2 8 (va_up (va_up (va_up (fun _ => none) 0 (some 80)) 1 (some 98)) 2 (some 116)) := (hf_64 _ (by omega)).trans hc_58
  refine A_dup hg dX2_init_39 rfl ?_
  refine A_callI (id := 134) (As := []) (rest := [.ref (q_h G + 134), .int (nI (3)), .ref (q_h G + 79)]) hg lk_RX2_24 rfl in_X0_init dX2_init_40 ⟨by decide, by decide⟩ ⟨by decide, by decide⟩ rfl rfl (Nat.le_of_ble_eq_true rfl) (c_X0_init G σ_62 134 hc_63) q_nx ?_
  rintro _ _ σ_68 ⟨rfl, rfl, hJ134, hf_67⟩
  refine (?_ : AJ G K Q 73 864 true 152 43 [some (.ref (q_h G + 78)), some (.int (nI (3)))] [.ref (q_h G + 134), .int (nI (3)), .ref (q_h G + 79)] σ_68)
  have hc_69 : σ_68 78 = .inr (2, [.ref (q_h G + 79), .int (nI (0)), .int (nI (0))]) := (hf_67 _ (by omega)).trans hc_65
  have hc_70 : σ_68 79 = q_rn G 2 8 (va_up (va_up (va_up (fun _ => none) 0 (some 80)) 1 (some 98)) 2 (some 116)) := (hf_67 _ (by omega)).trans hc_66
  obtain ⟨aJ, bJ, cJ, dJ, eJ, hjo_71⟩ := x_gj_o hJ134
  refine A_aastR (j := 3) (oid := 134) hg (by decide) rfl hc_70 (by omega) hjo_71 (by omega) rfl (by omega) (by decide) dX2_init_43 (fun σ_72 hc_73 hf_74 => ?_)
  have hc_73 : σ_72 79 = q_rn G 2 8 (va_up (va_up (va_up (va_up (fun _ => none) 0 (some 80)) 1 (some 98)) 2 (some 116)) 3 (some 134)) := hc_73
  have hc_75 : σ_72 78 = .inr (2, [.ref (q_h G + 79), .int (nI (0)), .int (nI (0))]) := (hf_74 _ (by omega)).trans hc_69
  have hc_76 : σ_72 134 = o0 G (134) (nI (aJ)) (nI (bJ)) (nI (cJ)) (nI (dJ)) (nI (eJ)) := (hf_74 _ (by omega)).trans hjo_71
  refine A_iincN (k' := 1) hg dX2_init_44 (by decide) rfl (by decide) (q_c1d rfl) ?_
  refine A_eq (ls2 := [some (.ref (q_h G + 78)), some (.int (nI (3 + 1)))]) (st2 := []) (pc2 := 0) rfl rfl ?_
  refine A_goto (tgt := 25) hg dX2_init_47 (by decide) ?_
  refine A_eq (ls2 := [some (.ref (q_h G + 78)), some (.int (nI (4)))]) (st2 := []) (pc2 := 0) rfl rfl ?_
  refine A_iload_n hg dX2_init_25 rfl rfl ?_
  refine A_bipush (v := (nI (8))) hg dX2_init_26 (by decide) ?_
  refine A_icmp_geN (tgt := 50) hg dX2_init_28 (by decide) (by decide) (by decide) (fun c28 => False.elim (by omega)) (fun c28 => ?_)
  refine A_aload_n hg dX2_init_31 rfl rfl ?_
  refine A_getf (v := .ref (q_h G + 79)) hg fl_RX2_11 dX2_init_32 hc_75 (by omega) rfl ?_
  refine A_iload_n hg dX2_init_35 rfl rfl ?_
  refine A_newo (ci := 0) (fs := [.null, .int (nI (0)), .null, .int (nI (0)), .int (nI (0)), .int (nI (0)), .null, .null, .int (nI (0))]) (C := RX0) (T := TX0) (N := 9) hg tyX0 rfl uw_0 tyX0_ok (q_mt 320 (by decide +kernel)) (q_mt 72 (by decide +kernel)) (q_mt 4 (by decide +kernel)) nd_0 (by decide) (by decide) dX2_init_36 (fun σ_77 hc_78 hf_79 => ?_)
  have hc_78 : σ_77 152 = .inr (0, [.null, .int (nI (0)), .null, .int (nI (0)), .int (nI (0)), .int (nI (0)), .null, .null, .int (nI (0))]) := hc_78
  have hc_80 : σ_77 78 = .inr (2, [.ref (q_h G + 79), .int (nI (0)), .int (nI (0))]) := (hf_79 _ (by omega)).trans hc_75
  have hc_81 : σ_77 79 = q_rn G 2 8 (va_up (va_up (va_up (va_up (fun _ => none) 0 (some 80)) 1 (some 98)) 2 (some 116)) 3 (some 134)) := (hf_79 _ (by omega)).trans hc_73
  refine A_dup hg dX2_init_39 rfl ?_
  refine A_callI (id := 152) (As := []) (rest := [.ref (q_h G + 152), .int (nI (4)), .ref (q_h G + 79)]) hg lk_RX2_24 rfl in_X0_init dX2_init_40 ⟨by decide, by decide⟩ ⟨by decide, by decide⟩ rfl rfl (Nat.le_of_ble_eq_true rfl) (c_X0_init G σ_77 152 hc_78) q_nx ?_
  rintro _ _ σ_83 ⟨rfl, rfl, hJ152, hf_82⟩
  refine (?_ : AJ G K Q 91 1078 true 170 43 [some (.ref (q_h G + 78)), some (.int (nI (4)))] [.ref (q_h G + 152), .int (nI (4)), .ref (q_h G + 79)] σ_83)
  have hc_84 : σ_83 78 = .inr (2, [.ref (q_h G + 79), .int (nI (0)), .int (nI (0))]) := (hf_82 _ (by omega)).trans hc_80
  have hc_85 : σ_83 79 = q_rn G 2 8 (va_up (va_up (va_up (va_up (fun _ => none) 0 (some 80)) 1 (some 98)) 2 (some 116)) 3 (some 134)) := (hf_82 _ (by omega)).trans hc_81
  obtain ⟨aJ, bJ, cJ, dJ, eJ, hjo_86⟩ := x_gj_o hJ152
  refine A_aastR (j := 4) (oid := 152) hg (by decide) rfl hc_85 (by omega) hjo_86 (by omega) rfl (by omega) (by decide) dX2_init_43 (fun σ_87 hc_88 hf_89 => ?_)
  have hc_88 : σ_87 79 = q_rn G 2 8 (va_up (va_up (va_up (va_up (va_up (fun _ => none) 0 (some 80)) 1 (some 98)) 2 (some 116)) 3 (some 134)) 4 (some 152)) := hc_88
  have hc_90 : σ_87 78 = .inr (2, [.ref (q_h G + 79), .int (nI (0)), .int (nI (0))]) := (hf_89 _ (by omega)).trans hc_84
  have hc_91 : σ_87 152 = o0 G (152) (nI (aJ)) (nI (bJ)) (nI (cJ)) (nI (dJ)) (nI (eJ)) := (hf_89 _ (by omega)).trans hjo_86
  refine A_iincN (k' := 1) hg dX2_init_44 (by decide) rfl (by decide) (q_c1d rfl) ?_
  refine A_eq (ls2 := [some (.ref (q_h G + 78)), some (.int (nI (4 + 1)))]) (st2 := []) (pc2 := 0) rfl rfl ?_
  refine A_goto (tgt := 25) hg dX2_init_47 (by decide) ?_
  refine A_eq (ls2 := [some (.ref (q_h G + 78)), some (.int (nI (5)))]) (st2 := []) (pc2 := 0) rfl rfl ?_
  refine A_iload_n hg dX2_init_25 rfl rfl ?_
  refine A_bipush (v := (nI (8))) hg dX2_init_26 (by decide) ?_
  refine A_icmp_geN (tgt := 50) hg dX2_init_28 (by decide) (by decide) (by decide) (fun c28 => False.elim (by omega)) (fun c28 => ?_)
  refine A_aload_n hg dX2_init_31 rfl rfl ?_
  refine A_getf (v := .ref (q_h G + 79)) hg fl_RX2_11 dX2_init_32 hc_90 (by omega) rfl ?_
  refine A_iload_n hg dX2_init_35 rfl rfl ?_
  refine A_newo (ci := 0) (fs := [.null, .int (nI (0)), .null, .int (nI (0)), .int (nI (0)), .int (nI (0)), .null, .null, .int (nI (0))]) (C := RX0) (T := TX0) (N := 9) hg tyX0 rfl uw_0 tyX0_ok (q_mt 320 (by decide +kernel)) (q_mt 72 (by decide +kernel)) (q_mt 4 (by decide +kernel)) nd_0 (by decide) (by decide) dX2_init_36 (fun σ_92 hc_93 hf_94 => ?_)
  have hc_93 : σ_92 170 = .inr (0, [.null, .int (nI (0)), .null, .int (nI (0)), .int (nI (0)), .int (nI (0)), .null, .null, .int (nI (0))]) := hc_93
  have hc_95 : σ_92 78 = .inr (2, [.ref (q_h G + 79), .int (nI (0)), .int (nI (0))]) := (hf_94 _ (by omega)).trans hc_90
  have hc_96 : σ_92 79 = q_rn G 2 8 (va_up (va_up (va_up (va_up (va_up (fun _ => none) 0 (some 80)) 1 (some 98)) 2 (some 116)) 3 (some 134)) 4 (some 152)) := (hf_94 _ (by omega)).trans hc_88
  refine A_dup hg dX2_init_39 rfl ?_
  refine A_callI (id := 170) (As := []) (rest := [.ref (q_h G + 170), .int (nI (5)), .ref (q_h G + 79)]) hg lk_RX2_24 rfl in_X0_init dX2_init_40 ⟨by decide, by decide⟩ ⟨by decide, by decide⟩ rfl rfl (Nat.le_of_ble_eq_true rfl) (c_X0_init G σ_92 170 hc_93) q_nx ?_
  rintro _ _ σ_98 ⟨rfl, rfl, hJ170, hf_97⟩
  refine (?_ : AJ G K Q 109 1292 true 188 43 [some (.ref (q_h G + 78)), some (.int (nI (5)))] [.ref (q_h G + 170), .int (nI (5)), .ref (q_h G + 79)] σ_98)
  have hc_99 : σ_98 78 = .inr (2, [.ref (q_h G + 79), .int (nI (0)), .int (nI (0))]) := (hf_97 _ (by omega)).trans hc_95
  have hc_100 : σ_98 79 = q_rn G 2 8 (va_up (va_up (va_up (va_up (va_up (fun _ => none) 0 (some 80)) 1 (some 98)) 2 (some 116)) 3 (some 134)) 4 (some 152)) := (hf_97 _ (by omega)).trans hc_96
  obtain ⟨aJ, bJ, cJ, dJ, eJ, hjo_101⟩ := x_gj_o hJ170
  refine A_aastR (j := 5) (oid := 170) hg (by decide) rfl hc_100 (by omega) hjo_101 (by omega) rfl (by omega) (by decide) dX2_init_43 (fun σ_102 hc_103 hf_104 => ?_)
  have hc_103 : σ_102 79 = q_rn G 2 8 (va_up (va_up (va_up (va_up (va_up (va_up (fun _ => none) 0 (some 80)) 1 (some 98)) 2 (some 116)) 3 (some 134)) 4 (some 152)) 5 (some 170)) := hc_103
  have hc_105 : σ_102 78 = .inr (2, [.ref (q_h G + 79), .int (nI (0)), .int (nI (0))]) := (hf_104 _ (by omega)).trans hc_99
  have hc_106 : σ_102 170 = o0 G (170) (nI (aJ)) (nI (bJ)) (nI (cJ)) (nI (dJ)) (nI (eJ)) := (hf_104 _ (by omega)).trans hjo_101
  refine A_iincN (k' := 1) hg dX2_init_44 (by decide) rfl (by decide) (q_c1d rfl) ?_
  refine A_eq (ls2 := [some (.ref (q_h G + 78)), some (.int (nI (5 + 1)))]) (st2 := []) (pc2 := 0) rfl rfl ?_
  refine A_goto (tgt := 25) hg dX2_init_47 (by decide) ?_
  refine A_eq (ls2 := [some (.ref (q_h G + 78)), some (.int (nI (6)))]) (st2 := []) (pc2 := 0) rfl rfl ?_
  refine A_iload_n hg dX2_init_25 rfl rfl ?_
  refine A_bipush (v := (nI (8))) hg dX2_init_26 (by decide) ?_
  refine A_icmp_geN (tgt := 50) hg dX2_init_28 (by decide) (by decide) (by decide) (fun c28 => False.elim (by omega)) (fun c28 => ?_)
  refine A_aload_n hg dX2_init_31 rfl rfl ?_
  refine A_getf (v := .ref (q_h G + 79)) hg fl_RX2_11 dX2_init_32 hc_105 (by omega) rfl ?_
  refine A_iload_n hg dX2_init_35 rfl rfl ?_
  refine A_newo (ci := 0) (fs := [.null, .int (nI (0)), .null, .int (nI (0)), .int (nI (0)), .int (nI (0)), .null, .null, .int (nI (0))]) (C := RX0) (T := TX0) (N := 9) hg tyX0 rfl uw_0 tyX0_ok (q_mt 320 (by decide +kernel)) (q_mt 72 (by decide +kernel)) (q_mt 4 (by decide +kernel)) nd_0 (by decide) (by decide) dX2_init_36 (fun σ_107 hc_108 hf_109 => ?_)
  have hc_108 : σ_107 188 = .inr (0, [.null, .int (nI (0)), .null, .int (nI (0)), .int (nI (0)), .int (nI (0)), .null, .null, .int (nI (0))]) := hc_108
  have hc_110 : σ_107 78 = .inr (2, [.ref (q_h G + 79), .int (nI (0)), .int (nI (0))]) := (hf_109 _ (by omega)).trans hc_105
  have hc_111 : σ_107 79 = q_rn G 2 8 (va_up (va_up (va_up (va_up (va_up (va_up (fun _ => none) 0 (some 80)) 1 (some 98)) 2 (some 116)) 3 (some 134)) 4 (some 152)) 5 (some 170)) := (hf_109 _ (by omega)).trans hc_103
  refine A_dup hg dX2_init_39 rfl ?_
  refine A_callI (id := 188) (As := []) (rest := [.ref (q_h G + 188), .int (nI (6)), .ref (q_h G + 79)]) hg lk_RX2_24 rfl in_X0_init dX2_init_40 ⟨by decide, by decide⟩ ⟨by decide, by decide⟩ rfl rfl (Nat.le_of_ble_eq_true rfl) (c_X0_init G σ_107 188 hc_108) q_nx ?_
  rintro _ _ σ_113 ⟨rfl, rfl, hJ188, hf_112⟩
  refine (?_ : AJ G K Q 127 1506 true 206 43 [some (.ref (q_h G + 78)), some (.int (nI (6)))] [.ref (q_h G + 188), .int (nI (6)), .ref (q_h G + 79)] σ_113)
  have hc_114 : σ_113 78 = .inr (2, [.ref (q_h G + 79), .int (nI (0)), .int (nI (0))]) := (hf_112 _ (by omega)).trans hc_110
  have hc_115 : σ_113 79 = q_rn G 2 8 (va_up (va_up (va_up (va_up (va_up (va_up (fun _ => none) 0 (some 80)) 1 (some 98)) 2 (some 116)) 3 (some 134)) 4 (some 152)) 5 (some 170)) := (hf_112 _ (by omega)).trans hc_111
  obtain ⟨aJ, bJ, cJ, dJ, eJ, hjo_116⟩ := x_gj_o hJ188
  refine A_aastR (j := 6) (oid := 188) hg (by decide) rfl hc_115 (by omega) hjo_116 (by omega) rfl (by omega) (by decide) dX2_init_43 (fun σ_117 hc_118 hf_119 => ?_)
  have hc_118 : σ_117 79 = q_rn G 2 8 (va_up (va_up (va_up (va_up (va_up (va_up (va_up (fun _ => none) 0 (some 80)) 1 (some 98)) 2 (some 116)) 3 (some 134)) 4 (some 152)) 5 (some 170)) 6 (some 188)) := hc_118
  have hc_120 : σ_117 78 = .inr (2, [.ref (q_h G + 79), .int (nI (0)), .int (nI (0))]) := (hf_119 _ (by omega)).trans hc_114
  have hc_121 : σ_117 188 = o0 G (188) (nI (aJ)) (nI (bJ)) (nI (cJ)) (nI (dJ)) (nI (eJ)) := (hf_119 _ (by omega)).trans hjo_116
  refine A_iincN (k' := 1) hg dX2_init_44 (by decide) rfl (by decide) (q_c1d rfl) ?_
  refine A_eq (ls2 := [some (.ref (q_h G + 78)), some (.int (nI (6 + 1)))]) (st2 := []) (pc2 := 0) rfl rfl ?_
  refine A_goto (tgt := 25) hg dX2_init_47 (by decide) ?_
  refine A_eq (ls2 := [some (.ref (q_h G + 78)), some (.int (nI (7)))]) (st2 := []) (pc2 := 0) rfl rfl ?_
  refine A_iload_n hg dX2_init_25 rfl rfl ?_
  refine A_bipush (v := (nI (8))) hg dX2_init_26 (by decide) ?_
  refine A_icmp_geN (tgt := 50) hg dX2_init_28 (by decide) (by decide) (by decide) (fun c28 => False.elim (by omega)) (fun c28 => ?_)
  refine A_aload_n hg dX2_init_31 rfl rfl ?_
  refine A_getf (v := .ref (q_h G + 79)) hg fl_RX2_11 dX2_init_32 hc_120 (by omega) rfl ?_
  refine A_iload_n hg dX2_init_35 rfl rfl ?_
  refine A_newo (ci := 0) (fs := [.null, .int (nI (0)), .null, .int (nI (0)), .int (nI (0)), .int (nI (0)), .null, .null, .int (nI (0))]) (C := RX0) (T := TX0) (N := 9) hg tyX0 rfl uw_0 tyX0_ok (q_mt 320 (by decide +kernel)) (q_mt 72 (by decide +kernel)) (q_mt 4 (by decide +kernel)) nd_0 (by decide) (by decide) dX2_init_36 (fun σ_122 hc_123 hf_124 => ?_)
  have hc_123 : σ_122 206 = .inr (0, [.null, .int (nI (0)), .null, .int (nI (0)), .int (nI (0)), .int (nI (0)), .null, .null, .int (nI (0))]) := hc_123
  have hc_125 : σ_122 78 = .inr (2, [.ref (q_h G + 79), .int (nI (0)), .int (nI (0))]) := (hf_124 _ (by omega)).trans hc_120
  have hc_126 : σ_122 79 = q_rn G 2 8 (va_up (va_up (va_up (va_up (va_up (va_up (va_up (fun _ => none) 0 (some 80)) 1 (some 98)) 2 (some 116)) 3 (some 134)) 4 (some 152)) 5 (some 170)) 6 (some 188)) := (hf_124 _ (by omega)).trans hc_118
  refine A_dup hg dX2_init_39 rfl ?_
  refine A_callI (id := 206) (As := []) (rest := [.ref (q_h G + 206), .int (nI (7)), .ref (q_h G + 79)]) hg lk_RX2_24 rfl in_X0_init dX2_init_40 ⟨by decide, by decide⟩ ⟨by decide, by decide⟩ rfl rfl (Nat.le_of_ble_eq_true rfl) (c_X0_init G σ_122 206 hc_123) q_nx ?_
  rintro _ _ σ_128 ⟨rfl, rfl, hJ206, hf_127⟩
  refine (?_ : AJ G K Q 145 1720 true 224 43 [some (.ref (q_h G + 78)), some (.int (nI (7)))] [.ref (q_h G + 206), .int (nI (7)), .ref (q_h G + 79)] σ_128)
  have hc_129 : σ_128 78 = .inr (2, [.ref (q_h G + 79), .int (nI (0)), .int (nI (0))]) := (hf_127 _ (by omega)).trans hc_125
  have hc_130 : σ_128 79 = q_rn G 2 8 (va_up (va_up (va_up (va_up (va_up (va_up (va_up (fun _ => none) 0 (some 80)) 1 (some 98)) 2 (some 116)) 3 (some 134)) 4 (some 152)) 5 (some 170)) 6 (some 188)) := (hf_127 _ (by omega)).trans hc_126
  obtain ⟨aJ, bJ, cJ, dJ, eJ, hjo_131⟩ := x_gj_o hJ206
  refine A_aastR (j := 7) (oid := 206) hg (by decide) rfl hc_130 (by omega) hjo_131 (by omega) rfl (by omega) (by decide) dX2_init_43 (fun σ_132 hc_133 hf_134 => ?_)
  have hc_133 : σ_132 79 = q_rn G 2 8 (va_up (va_up (va_up (va_up (va_up (va_up (va_up (va_up (fun _ => none) 0 (some 80)) 1 (some 98)) 2 (some 116)) 3 (some 134)) 4 (some 152)) 5 (some 170)) 6 (some 188)) 7 (some 206)) := hc_133
  have hc_135 : σ_132 78 = .inr (2, [.ref (q_h G + 79), .int (nI (0)), .int (nI (0))]) := (hf_134 _ (by omega)).trans hc_129
  have hc_136 : σ_132 206 = o0 G (206) (nI (aJ)) (nI (bJ)) (nI (cJ)) (nI (dJ)) (nI (eJ)) := (hf_134 _ (by omega)).trans hjo_131
  refine A_iincN (k' := 1) hg dX2_init_44 (by decide) rfl (by decide) (q_c1d rfl) ?_
  refine A_eq (ls2 := [some (.ref (q_h G + 78)), some (.int (nI (7 + 1)))]) (st2 := []) (pc2 := 0) rfl rfl ?_
  refine A_goto (tgt := 25) hg dX2_init_47 (by decide) ?_
  refine A_eq (ls2 := [some (.ref (q_h G + 78)), some (.int (nI (8)))]) (st2 := []) (pc2 := 0) rfl rfl ?_
  refine A_iload_n hg dX2_init_25 rfl rfl ?_
  refine A_bipush (v := (nI (8))) hg dX2_init_26 (by decide) ?_
  refine A_icmp_geN (tgt := 50) hg dX2_init_28 (by decide) (by decide) (by decide) (fun c28 => ?_) (fun c28 => False.elim (by omega))
  refine A_canonR (fun j => some (80 + 18 * j)) hc_133 (x_f8 (P := fun j => _ = some (80 + 18 * j)) rfl rfl rfl rfl rfl rfl rfl rfl) (fun σ_137 hc_138 hf_139 => ?_)
  have hc_140 : σ_137 78 = .inr (2, [.ref (q_h G + 79), .int (nI (0)), .int (nI (0))]) := (hf_139 _ (by omega)).trans hc_135
  rw [hQ]
  exact A_returnN hg (by decide) (by decide) rfl dX2_init_50 ⟨rfl, ⟨rfl, ⟨by decide, by decide, hc_140, hc_138, (x_f8 (P := fun j => x_gj G σ_137 (80 + 18 * j)) (x_gj_e (fun i _ _ => ((hf_139 i (by omega)).trans ((hf_134 i (by omega)).trans ((hf_127 i (by omega)).trans ((hf_124 i (by omega)).trans ((hf_119 i (by omega)).trans ((hf_112 i (by omega)).trans ((hf_109 i (by omega)).trans ((hf_104 i (by omega)).trans ((hf_97 i (by omega)).trans ((hf_94 i (by omega)).trans ((hf_89 i (by omega)).trans ((hf_82 i (by omega)).trans ((hf_79 i (by omega)).trans ((hf_74 i (by omega)).trans ((hf_67 i (by omega)).trans ((hf_64 i (by omega)).trans ((hf_59 i (by omega)).trans ((hf_52 i (by omega)).trans ((hf_49 i (by omega)).trans ((hf_44 i (by omega)).trans ((hf_37 i (by omega)).trans ((hf_34 i (by omega)).trans (hf_29 i (by omega))))))))))))))))))))))))) hJ80) (x_gj_e (fun i _ _ => ((hf_139 i (by omega)).trans ((hf_134 i (by omega)).trans ((hf_127 i (by omega)).trans ((hf_124 i (by omega)).trans ((hf_119 i (by omega)).trans ((hf_112 i (by omega)).trans ((hf_109 i (by omega)).trans ((hf_104 i (by omega)).trans ((hf_97 i (by omega)).trans ((hf_94 i (by omega)).trans ((hf_89 i (by omega)).trans ((hf_82 i (by omega)).trans ((hf_79 i (by omega)).trans ((hf_74 i (by omega)).trans ((hf_67 i (by omega)).trans ((hf_64 i (by omega)).trans ((hf_59 i (by omega)).trans ((hf_52 i (by omega)).trans ((hf_49 i (by omega)).trans (hf_44 i (by omega)))))))))))))))))))))) hJ98) (x_gj_e (fun i _ _ => ((hf_139 i (by omega)).trans ((hf_134 i (by omega)).trans ((hf_127 i (by omega)).trans ((hf_124 i (by omega)).trans ((hf_119 i (by omega)).trans ((hf_112 i (by omega)).trans ((hf_109 i (by omega)).trans ((hf_104 i (by omega)).trans ((hf_97 i (by omega)).trans ((hf_94 i (by omega)).trans ((hf_89 i (by omega)).trans ((hf_82 i (by omega)).trans ((hf_79 i (by omega)).trans ((hf_74 i (by omega)).trans ((hf_67 i (by omega)).trans ((hf_64 i (by omega)).trans (hf_59 i (by omega))))))))))))))))))) hJ116) (x_gj_e (fun i _ _ => ((hf_139 i (by omega)).trans ((hf_134 i (by omega)).trans ((hf_127 i (by omega)).trans ((hf_124 i (by omega)).trans ((hf_119 i (by omega)).trans ((hf_112 i (by omega)).trans ((hf_109 i (by omega)).trans ((hf_104 i (by omega)).trans ((hf_97 i (by omega)).trans ((hf_94 i (by omega)).trans ((hf_89 i (by omega)).trans ((hf_82 i (by omega)).trans ((hf_79 i (by omega)).trans (hf_74 i (by omega)))))))))))))))) hJ134) (x_gj_e (fun i _ _ => ((hf_139 i (by omega)).trans ((hf_134 i (by omega)).trans ((hf_127 i (by omega)).trans ((hf_124 i (by omega)).trans ((hf_119 i (by omega)).trans ((hf_112 i (by omega)).trans ((hf_109 i (by omega)).trans ((hf_104 i (by omega)).trans ((hf_97 i (by omega)).trans ((hf_94 i (by omega)).trans (hf_89 i (by omega))))))))))))) hJ152) (x_gj_e (fun i _ _ => ((hf_139 i (by omega)).trans ((hf_134 i (by omega)).trans ((hf_127 i (by omega)).trans ((hf_124 i (by omega)).trans ((hf_119 i (by omega)).trans ((hf_112 i (by omega)).trans ((hf_109 i (by omega)).trans (hf_104 i (by omega)))))))))) hJ170) (x_gj_e (fun i _ _ => ((hf_139 i (by omega)).trans ((hf_134 i (by omega)).trans ((hf_127 i (by omega)).trans ((hf_124 i (by omega)).trans (hf_119 i (by omega))))))) hJ188) (x_gj_e (fun i _ _ => ((hf_139 i (by omega)).trans (hf_134 i (by omega)))) hJ206)), fun j hj => absurd hj (Nat.not_lt_zero j)⟩, (fun i hi => ((hf_139 i (by omega)).trans ((hf_134 i (by omega)).trans ((hf_127 i (by omega)).trans ((hf_124 i (by omega)).trans ((hf_119 i (by omega)).trans ((hf_112 i (by omega)).trans ((hf_109 i (by omega)).trans ((hf_104 i (by omega)).trans ((hf_97 i (by omega)).trans ((hf_94 i (by omega)).trans ((hf_89 i (by omega)).trans ((hf_82 i (by omega)).trans ((hf_79 i (by omega)).trans ((hf_74 i (by omega)).trans ((hf_67 i (by omega)).trans ((hf_64 i (by omega)).trans ((hf_59 i (by omega)).trans ((hf_52 i (by omega)).trans ((hf_49 i (by omega)).trans ((hf_44 i (by omega)).trans ((hf_37 i (by omega)).trans ((hf_34 i (by omega)).trans ((hf_29 i (by omega)).trans ((hf_22 i (by omega)).trans ((hf_19 i (by omega)).trans ((hf_15 i (by omega)).trans ((hf_11 i (by omega)).trans ((hf_7 i (by omega)).trans (hf_3 i (by omega)))))))))))))))))))))))))))))))⟩⟩
end
