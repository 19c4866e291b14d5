section
set_option maxRecDepth 100000 in
set_option maxHeartbeats 4000000 in
theorem c_X1_init (G : GL) (σ : Nat → va_E) (b : Nat) (hc0 : σ b = .inr (1, [.int (nI (0)), .int (nI (0)), .int (nI (0)), .int (nI (0)), .int (nI (0))]))  : CtN G yX1_init cX1_init 1 none ⟨1, 0, 0, 20⟩ [.ref (q_h G + b)] true (b + 1) σ (fun v9 n' σ' => n' = (b + 1) ∧ (fun v9 σ2 => v9 = none ∧ σ2 b = o1 G (nI (0)) (nI (0)) (q_d (0)) (q_d (0)) (q_d (0)) ∧ (∀ i : Nat, i < b → σ2 i = σ i)) v9 σ') q_noX := by
  refine q_enterI [some (.ref (q_h G + b))] (by decide) (Nat.le_of_ble_eq_true rfl) rfl ?_
  intro K hg hme
  obtain ⟨Q, hQ⟩ : ∃ Q, Q = q_Q G K true (b + 1) 0 0 (fun v9 n' σ' => n' = (b + 1) ∧ (fun v9 σ2 => v9 = none ∧ σ2 b = o1 G (nI (0)) (nI (0)) (q_d (0)) (q_d (0)) (q_d (0)) ∧ (∀ i : Nat, i < b → σ2 i = σ i)) v9 σ') q_noX := ⟨_, rfl⟩
  refine (?_ : AJ G K (q_Q G K true (b + 1) 0 0 _ _) 0 0 true (b + 1) 0 _ _ σ)
  rw [← hQ]
  refine A_aload_n hg dX1_init_0 rfl rfl ?_
  refine A_objInit hg (q_mt 230 (by decide +kernel)) (q_mt 34 (by decide +kernel)) (q_mt 35 (by decide +kernel)) dX1_init_1 ⟨by decide, by decide⟩ (Nat.le_of_ble_eq_true rfl) ?_
  refine A_aload_n hg dX1_init_4 rfl rfl ?_
  refine A_iconst (v := (nI (0))) hg dX1_init_5 (by decide) ?_
  refine A_putf hg fl_RX1_9 dX1_init_6 hc0 (by omega) (Nat.le_of_ble_eq_true rfl) rfl rfl rfl (fun σ_1 hc_2 hf_3 => ?_)
  have hc_2 : σ_1 b = .inr (1, [.int (nI (0)), .int (nI (0)), .int (nI (0)), .int (nI (0)), .int (nI (0))]) := hc_2
  refine A_aload_n hg dX1_init_9 rfl rfl ?_
  refine A_iconst (v := (nI (0))) hg dX1_init_10 (by decide) ?_
  refine A_putf hg fl_RX1_15 dX1_init_11 hc_2 (by omega) (Nat.le_of_ble_eq_true rfl) rfl rfl rfl (fun σ_4 hc_5 hf_6 => ?_)
  have hc_5 : σ_4 b = .inr (1, [.int (nI (0)), .int (nI (0)), .int (nI (0)), .int (nI (0)), .int (nI (0))]) := hc_5
  refine A_aload_n hg dX1_init_14 rfl rfl ?_
  refine A_iconst (v := (q_d (0))) hg dX1_init_15 (by decide) ?_
  refine A_putf hg fl_RX1_18 dX1_init_16 hc_5 (by omega) (Nat.le_of_ble_eq_true rfl) rfl rfl rfl (fun σ_7 hc_8 hf_9 => ?_)
  have hc_8 : σ_7 b = .inr (1, [.int (nI (0)), .int (nI (0)), .int (q_d (0)), .int (nI (0)), .int (nI (0))]) := hc_8
  refine A_aload_n hg dX1_init_19 rfl rfl ?_
  refine A_iconst (v := (q_d (0))) hg dX1_init_20 (by decide) ?_
  refine A_putf hg fl_RX1_22 dX1_init_21 hc_8 (by omega) (Nat.le_of_ble_eq_true rfl) rfl rfl rfl (fun σ_10 hc_11 hf_12 => ?_)
  have hc_11 : σ_10 b = .inr (1, [.int (nI (0)), .int (nI (0)), .int (q_d (0)), .int (q_d (0)), .int (nI (0))]) := hc_11
  refine A_aload_n hg dX1_init_24 rfl rfl ?_
  refine A_iconst (v := (q_d (0))) hg dX1_init_25 (by decide) ?_
  refine A_putf hg fl_RX1_25 dX1_init_26 hc_11 (by omega) (Nat.le_of_ble_eq_true rfl) rfl rfl rfl (fun σ_13 hc_14 hf_15 => ?_)
  have hc_14 : σ_13 b = .inr (1, [.int (nI (0)), .int (nI (0)), .int (q_d (0)), .int (q_d (0)), .int (q_d (0))]) := hc_14
  rw [hQ]
  exact A_returnN hg (by decide) (by decide) rfl dX1_init_29 ⟨rfl, ⟨rfl, hc_14, (fun i hi => ((hf_15 i (by omega)).trans ((hf_12 i (by omega)).trans ((hf_9 i (by omega)).trans ((hf_6 i (by omega)).trans (hf_3 i (by omega)))))))⟩⟩
set_option maxRecDepth 100000 in
set_option maxHeartbeats 4000000 in
theorem c_X7_init (G : GL) (σ : Nat → va_E) (b : Nat) (hc0 : σ b = .inr (7, [.long (lN (0)), .long (lN (0)), .int (nI (0)), .int (nI (0)), .int (nI (0)), .null]))  : CtN G yX7_init cX7_init 1 none ⟨1, 1, 5, 20⟩ [.ref (q_h G + b)] true (b + 1) σ (fun v9 n' σ' => n' = (b + 2) ∧ (fun v9 σ2 => v9 = none ∧ σ2 b = o7 G (b) (lN (0)) (lN (0)) (nI (1)) (nI (40)) (nI (0)) ∧ σ2 (b + 1) = q_an G 5 (fun _ => 0) ∧ (∀ i : Nat, i < b → σ2 i = σ i)) v9 σ') q_noX := by
  refine q_enterI [some (.ref (q_h G + b))] (by decide) (Nat.le_of_ble_eq_true rfl) rfl ?_
  intro K hg hme
  obtain ⟨Q, hQ⟩ : ∃ Q, Q = q_Q G K true (b + 1) 1 5 (fun v9 n' σ' => n' = (b + 2) ∧ (fun v9 σ2 => v9 = none ∧ σ2 b = o7 G (b) (lN (0)) (lN (0)) (nI (1)) (nI (40)) (nI (0)) ∧ σ2 (b + 1) = q_an G 5 (fun _ => 0) ∧ (∀ i : Nat, i < b → σ2 i = σ i)) v9 σ') q_noX := ⟨_, rfl⟩
  refine (?_ : AJ G K (q_Q G K true (b + 1) 1 5 _ _) 0 0 true (b + 1) 0 _ _ σ)
  rw [← hQ]
  refine A_aload_n hg dX7_init_0 rfl rfl ?_
  refine A_objInit hg (q_mt 116 (by decide +kernel)) (q_mt 34 (by decide +kernel)) (q_mt 35 (by decide +kernel)) dX7_init_1 ⟨by decide, by decide⟩ (Nat.le_of_ble_eq_true rfl) ?_
  refine A_aload_n hg dX7_init_4 rfl rfl ?_
  refine A_lconst (v := (lN (0))) hg dX7_init_5 (by decide) ?_
  refine A_putf hg fl_RX7_9 dX7_init_6 hc0 (by omega) (Nat.le_of_ble_eq_true rfl) rfl rfl rfl (fun σ_1 hc_2 hf_3 => ?_)
  have hc_2 : σ_1 b = .inr (7, [.long (lN (0)), .long (lN (0)), .int (nI (0)), .int (nI (0)), .int (nI (0)), .null]) := hc_2
  refine A_aload_n hg dX7_init_9 rfl rfl ?_
  refine A_lconst (v := (lN (0))) hg dX7_init_10 (by decide) ?_
  refine A_putf hg fl_RX7_15 dX7_init_11 hc_2 (by omega) (Nat.le_of_ble_eq_true rfl) rfl rfl rfl (fun σ_4 hc_5 hf_6 => ?_)
  have hc_5 : σ_4 b = .inr (7, [.long (lN (0)), .long (lN (0)), .int (nI (0)), .int (nI (0)), .int (nI (0)), .null]) := hc_5
  refine A_aload_n hg dX7_init_14 rfl rfl ?_
  refine A_iconst (v := (nI (1))) hg dX7_init_15 (by decide) ?_
  refine A_putf hg fl_RX7_18 dX7_init_16 hc_5 (by omega) (Nat.le_of_ble_eq_true rfl) rfl rfl rfl (fun σ_7 hc_8 hf_9 => ?_)
  have hc_8 : σ_7 b = .inr (7, [.long (lN (0)), .long (lN (0)), .int (nI (1)), .int (nI (0)), .int (nI (0)), .null]) := hc_8
  refine A_aload_n hg dX7_init_19 rfl rfl ?_
  refine A_bipush (v := (nI (40))) hg dX7_init_20 (by decide) ?_
  refine A_putf hg fl_RX7_22 dX7_init_22 hc_8 (by omega) (Nat.le_of_ble_eq_true rfl) rfl rfl rfl (fun σ_10 hc_11 hf_12 => ?_)
  have hc_11 : σ_10 b = .inr (7, [.long (lN (0)), .long (lN (0)), .int (nI (1)), .int (nI (40)), .int (nI (0)), .null]) := hc_11
  refine A_aload_n hg dX7_init_25 rfl rfl ?_
  refine A_iconst (v := (nI (0))) hg dX7_init_26 (by decide) ?_
  refine A_putf hg fl_RX7_25 dX7_init_27 hc_11 (by omega) (Nat.le_of_ble_eq_true rfl) rfl rfl rfl (fun σ_13 hc_14 hf_15 => ?_)
  have hc_14 : σ_13 b = .inr (7, [.long (lN (0)), .long (lN (0)), .int (nI (1)), .int (nI (40)), .int (nI (0)), .null]) := hc_14
  refine A_aload_n hg dX7_init_30 rfl rfl ?_
  refine A_iconst (v := (nI (5))) hg dX7_init_31 (by decide) ?_
  refine A_newa (t := 0) (N := 5) (a0 := (5, .inl (fun _ => nI 0))) hg (by decide) rfl (fun C h => by cases h) (q_mt 70 (by decide +kernel)) (fun _ => rfl) (by decide) (by decide) (by decide) (by decide) dX7_init_32 (fun σ_16 hc_17 hf_18 => ?_)
  have hc_17 : σ_16 (b + 1) = q_an G 5 (fun _ => 0) := hc_17
  have hc_19 : σ_16 b = .inr (7, [.long (lN (0)), .long (lN (0)), .int (nI (1)), .int (nI (40)), .int (nI (0)), .null]) := (hf_18 _ (by omega)).trans hc_14
  refine A_putF (fs' := [.long (lN (0)), .long (lN (0)), .int (nI (1)), .int (nI (40)), .int (nI (0)), .ref (q_h G + (b + 1))]) hg fl_RX7_28 hme rfl (by intro C T N h; cases h; exact q_mt 131 (by decide +kernel)) dX7_init_34 hc_19 (by omega) (Nat.le_of_ble_eq_true rfl) rfl rfl rfl (fun σ_20 hc_21 hf_22 => ?_)
  have hc_21 : σ_20 b = .inr (7, [.long (lN (0)), .long (lN (0)), .int (nI (1)), .int (nI (40)), .int (nI (0)), .ref (q_h G + (b + 1))]) := hc_21
  have hc_23 : σ_20 (b + 1) = q_an G 5 (fun _ => 0) := (hf_22 _ (by omega)).trans hc_17
  rw [hQ]
  exact A_returnN hg (by decide) (by decide) rfl dX7_init_37 ⟨rfl, ⟨rfl, hc_21, hc_23, (fun i hi => ((hf_22 i (by omega)).trans ((hf_18 i (by omega)).trans ((hf_15 i (by omega)).trans ((hf_12 i (by omega)).trans ((hf_9 i (by omega)).trans ((hf_6 i (by omega)).trans (hf_3 i (by omega)))))))))⟩⟩
set_option maxRecDepth 100000 in
set_option maxHeartbeats 4000000 in
theorem c_X6_init (G : GL) (σ : Nat → va_E) (b : Nat) (hc0 : σ b = .inr (6, [.int (nI (0)), .int (nI (0)), .null, .null, .null, .null, .null]))  : CtN G yX6_init cX6_init 1 none ⟨1, 5, 40, 20⟩ [.ref (q_h G + b)] true (b + 1) σ (fun v9 n' σ' => n' = (b + 6) ∧ (fun v9 σ2 => v9 = none ∧ σ2 b = o6 G (b) (nI (0)) (nI (0)) ∧ σ2 (b + 1) = q_an G 8 (fun _ => 0) ∧ σ2 (b + 2) = q_an G 8 (fun _ => 0) ∧ σ2 (b + 3) = q_an G 8 (fun _ => 0) ∧ σ2 (b + 4) = q_an G 8 (fun _ => 0) ∧ σ2 (b + 5) = q_an G 8 (fun _ => 0) ∧ (∀ i : Nat, i < b → σ2 i = σ i)) v9 σ') q_noX := by
  refine q_enterI [some (.ref (q_h G + b))] (by decide) (Nat.le_of_ble_eq_true rfl) rfl ?_
  intro K hg hme
  obtain ⟨Q, hQ⟩ : ∃ Q, Q = q_Q G K true (b + 1) 5 40 (fun v9 n' σ' => n' = (b + 6) ∧ (fun v9 σ2 => v9 = none ∧ σ2 b = o6 G (b) (nI (0)) (nI (0)) ∧ σ2 (b + 1) = q_an G 8 (fun _ => 0) ∧ σ2 (b + 2) = q_an G 8 (fun _ => 0) ∧ σ2 (b + 3) = q_an G 8 (fun _ => 0) ∧ σ2 (b + 4) = q_an G 8 (fun _ => 0) ∧ σ2 (b + 5) = q_an G 8 (fun _ => 0) ∧ (∀ i : Nat, i < b → σ2 i = σ i)) v9 σ') q_noX := ⟨_, rfl⟩
  refine (?_ : AJ G K (q_Q G K true (b + 1) 5 40 _ _) 0 0 true (b + 1) 0 _ _ σ)
  rw [← hQ]
  refine A_aload_n hg dX6_init_0 rfl rfl ?_
  refine A_objInit hg (q_mt 84 (by decide +kernel)) (q_mt 34 (by decide +kernel)) (q_mt 35 (by decide +kernel)) dX6_init_1 ⟨by decide, by decide⟩ (Nat.le_of_ble_eq_true rfl) ?_
  refine A_aload_n hg dX6_init_4 rfl rfl ?_
  refine A_iconst (v := (nI (0))) hg dX6_init_5 (by decide) ?_
  refine A_putf hg fl_RX6_9 dX6_init_6 hc0 (by omega) (Nat.le_of_ble_eq_true rfl) rfl rfl rfl (fun σ_1 hc_2 hf_3 => ?_)
  have hc_2 : σ_1 b = .inr (6, [.int (nI (0)), .int (nI (0)), .null, .null, .null, .null, .null]) := hc_2
  refine A_aload_n hg dX6_init_9 rfl rfl ?_
  refine A_iconst (v := (nI (0))) hg dX6_init_10 (by decide) ?_
  refine A_putf hg fl_RX6_15 dX6_init_11 hc_2 (by omega) (Nat.le_of_ble_eq_true rfl) rfl rfl rfl (fun σ_4 hc_5 hf_6 => ?_)
  have hc_5 : σ_4 b = .inr (6, [.int (nI (0)), .int (nI (0)), .null, .null, .null, .null, .null]) := hc_5
  refine A_aload_n hg dX6_init_14 rfl rfl ?_
  refine A_bipush (v := (nI (8))) hg dX6_init_15 (by decide) ?_
  refine A_newa (t := 0) (N := 8) (a0 := (8, .inl (fun _ => nI 0))) hg (by decide) rfl (fun C h => by cases h) (q_mt 70 (by decide +kernel)) (fun _ => rfl) (by decide) (by decide) (by decide) (by decide) dX6_init_17 (fun σ_7 hc_8 hf_9 => ?_)
  have hc_8 : σ_7 (b + 1) = q_an G 8 (fun _ => 0) := hc_8
  have hc_10 : σ_7 b = .inr (6, [.int (nI (0)), .int (nI (0)), .null, .null, .null, .null, .null]) := (hf_9 _ (by omega)).trans hc_5
  refine A_putF (fs' := [.int (nI (0)), .int (nI (0)), .ref (q_h G + (b + 1)), .null, .null, .null, .null]) hg fl_RX6_18 hme rfl (by intro C T N h; cases h; exact q_mt 92 (by decide +kernel)) dX6_init_19 hc_10 (by omega) (Nat.le_of_ble_eq_true rfl) rfl rfl rfl (fun σ_11 hc_12 hf_13 => ?_)
  have hc_12 : σ_11 b = .inr (6, [.int (nI (0)), .int (nI (0)), .ref (q_h G + (b + 1)), .null, .null, .null, .null]) := hc_12
  have hc_14 : σ_11 (b + 1) = q_an G 8 (fun _ => 0) := (hf_13 _ (by omega)).trans hc_8
  refine A_aload_n hg dX6_init_22 rfl rfl ?_
  refine A_bipush (v := (nI (8))) hg dX6_init_23 (by decide) ?_
  refine A_newa (t := 0) (N := 8) (a0 := (8, .inl (fun _ => nI 0))) hg (by decide) rfl (fun C h => by cases h) (q_mt 70 (by decide +kernel)) (fun _ => rfl) (by decide) (by decide) (by decide) (by decide) dX6_init_25 (fun σ_15 hc_16 hf_17 => ?_)
  have hc_16 : σ_15 (b + 2) = q_an G 8 (fun _ => 0) := hc_16
  have hc_18 : σ_15 (b + 1) = q_an G 8 (fun _ => 0) := (hf_17 _ (by omega)).trans hc_14
  have hc_19 : σ_15 b = .inr (6, [.int (nI (0)), .int (nI (0)), .ref (q_h G + (b + 1)), .null, .null, .null, .null]) := (hf_17 _ (by omega)).trans hc_12
  refine A_putF (fs' := [.int (nI (0)), .int (nI (0)), .ref (q_h G + (b + 1)), .ref (q_h G + (b + 2)), .null, .null, .null]) hg fl_RX6_22 hme rfl (by intro C T N h; cases h; exact q_mt 93 (by decide +kernel)) dX6_init_27 hc_19 (by omega) (Nat.le_of_ble_eq_true rfl) rfl rfl rfl (fun σ_20 hc_21 hf_22 => ?_)
  have hc_21 : σ_20 b = .inr (6, [.int (nI (0)), .int (nI (0)), .ref (q_h G + (b + 1)), .ref (q_h G + (b + 2)), .null, .null, .null]) := hc_21
  have hc_23 : σ_20 (b + 1) = q_an G 8 (fun _ => 0) := (hf_22 _ (by omega)).trans hc_18
  have hc_24 : σ_20 (b + 2) = q_an G 8 (fun _ => 0) := (hf_22 _ (by omega)).trans hc_16
  refine A_aload_n hg dX6_init_30 rfl rfl ?_
  refine A_bipush (v := (nI (8))) hg dX6_init_31 (by decide) ?_
  refine A_newa (t := 0) (N := 8) (a0 := (8, .inl (fun _ => nI 0))) hg (by decide) rfl (fun C h => by cases h) (q_mt 70 (by decide +kernel)) (fun _ => rfl) (by decide) (by decide) (by decide) (by decide) dX6_init_33 (fun σ_25 hc_26 hf_27 => ?_)
  have hc_26 : σ_25 (b + 3) = q_an G 8 (fun _ => 0) := hc_26
  have hc_28 : σ_25 (b + 1) = q_an G 8 (fun _ => 0) := (hf_27 _ (by omega)).trans hc_23
  have hc_29 : σ_25 (b + 2) = q_an G 8 (fun _ => 0) := (hf_27 _ (by omega)).trans hc_24
  have hc_30 : σ_25 b = .inr (6, [.int (nI (0)), .int (nI (0)), .ref (q_h G + (b + 1)), .ref (q_h G + (b + 2)), .null, .null, .null]) := (hf_27 _ (by omega)).trans hc_21
  refine A_putF (fs' := [.int (nI (0)), .int (nI (0)), .ref (q_h G + (b + 1)), .ref (q_h G + (b + 2)), .ref (q_h G + (b + 3)), .null, .null]) hg fl_RX6_25 hme rfl (by intro C T N h; cases h; exact q_mt 94 (by decide +kernel)) dX6_init_35 hc_30 (by omega) (Nat.le_of_ble_eq_true rfl) rfl rfl rfl (fun σ_31 hc_32 hf_33 => ?_)
  have hc_32 : σ_31 b = .inr (6, [.int (nI (0)), .int (nI (0)), .ref (q_h G + (b + 1)), .ref (q_h G + (b + 2)), .ref (q_h G + (b + 3)), .null, .null]) := hc_32
  have hc_34 : σ_31 (b + 1) = q_an G 8 (fun _ => 0) := (hf_33 _ (by omega)).trans hc_28
  have hc_35 : σ_31 (b + 2) = q_an G 8 (fun _ => 0) := (hf_33 _ (by omega)).trans hc_29
  have hc_36 : σ_31 (b + 3) = q_an G 8 (fun _ => 0) := (hf_33 _ (by omega)).trans hc_26
  refine A_aload_n hg dX6_init_38 rfl rfl ?_
  refine A_bipush (v := (nI (8))) hg dX6_init_39 (by decide) ?_
  refine A_newa (t := 0) (N := 8) (a0 := (8, .inl (fun _ => nI 0))) hg (by decide) rfl (fun C h => by cases h) (q_mt 70 (by decide +kernel)) (fun _ => rfl) (by decide) (by decide) (by decide) (by decide) dX6_init_41 (fun σ_37 hc_38 hf_39 => ?_)
  have hc_38 : σ_37 (b + 4) = q_an G 8 (fun _ => 0) := hc_38
  have hc_40 : σ_37 (b + 1) = q_an G 8 (fun _ => 0) := (hf_39 _ (by omega)).trans hc_34
  have hc_41 : σ_37 (b + 2) = q_an G 8 (fun _ => 0) := (hf_39 _ (by omega)).trans hc_35
  have hc_42 : σ_37 (b + 3) = q_an G 8 (fun _ => 0) := (hf_39 _ (by omega)).trans hc_36
  have hc_43 : σ_37 b = .inr (6, [.int (nI (0)), .int (nI (0)), .ref (q_h G + (b + 1)), .ref (q_h G + (b + 2)), .ref (q_h G + (b + 3)), .null, .null]) := (hf_39 _ (by omega)).trans hc_32
  refine A_putF (fs' := [.int (nI (0)), .int (nI (0)), .ref (q_h G + (b + 1)), .ref (q_h G + (b + 2)), .ref (q_h G + (b + 3)), .ref (q_h G + (b + 4)), .null]) hg fl_RX6_28 hme rfl (by intro C T N h; cases h; exact q_mt 95 (by decide +kernel)) dX6_init_43 hc_43 (by omega) (Nat.le_of_ble_eq_true rfl) rfl rfl rfl (fun σ_44 hc_45 hf_46 => ?_)
  have hc_45 : σ_44 b = .inr (6, [.int (nI (0)), .int (nI (0)), .ref (q_h G + (b + 1)), .ref (q_h G + (b + 2)), .ref (q_h G + (b + 3)), .ref (q_h G + (b + 4)), .null]) := hc_45
  have hc_47 : σ_44 (b + 1) = q_an G 8 (fun _ => 0) := (hf_46 _ (by omega)).trans hc_40
  have hc_48 : σ_44 (b + 2) = q_an G 8 (fun _ => 0) := (hf_46 _ (by omega)).trans hc_41
  have hc_49 : σ_44 (b + 3) = q_an G 8 (fun _ => 0) := (hf_46 _ (by omega)).trans hc_42
  have hc_50 : σ_44 (b + 4) = q_an G 8 (fun _ => 0) := (hf_46 _ (by omega)).trans hc_38
  refine A_aload_n hg dX6_init_46 rfl rfl ?_
  refine A_bipush (v := (nI (8))) hg dX6_init_47 (by decide) ?_
  refine A_newa (t := 0) (N := 8) (a0 := (8, .inl (fun _ => nI 0))) hg (by decide) rfl (fun C h => by cases h) (q_mt 70 (by decide +kernel)) (fun _ => rfl) (by decide) (by decide) (by decide) (by decide) dX6_init_49 (fun σ_51 hc_52 hf_53 => ?_)
  have hc_52 : σ_51 (b + 5) = q_an G 8 (fun _ => 0) := hc_52
  have hc_54 : σ_51 (b + 1) = q_an G 8 (fun _ => 0) := (hf_53 _ (by omega)).trans hc_47
  have hc_55 : σ_51 (b + 2) = q_an G 8 (fun _ => 0) := (hf_53 _ (by omega)).trans hc_48
  have hc_56 : σ_51 (b + 3) = q_an G 8 (fun _ => 0) := (hf_53 _ (by omega)).trans hc_49
  have hc_57 : σ_51 (b + 4) = q_an G 8 (fun _ => 0) := (hf_53 _ (by omega)).trans hc_50
  have hc_58 : σ_51 b = .inr (6, [.int (nI (0)), .int (nI (0)), .ref (q_h G + (b + 1)), .ref (q_h G + (b + 2)), .ref (q_h G + (b + 3)), .ref (q_h G + (b + 4)), .null]) := (hf_53 _ (by omega)).trans hc_45
  refine A_putF (fs' := [.int (nI (0)), .int (nI (0)), .ref (q_h G + (b + 1)), .ref (q_h G + (b + 2)), .ref (q_h G + (b + 3)), .ref (q_h G + (b + 4)), .ref (q_h G + (b + 5))]) hg fl_RX6_31 hme rfl (by intro C T N h; cases h; exact q_mt 96 (by decide +kernel)) dX6_init_51 hc_58 (by omega) (Nat.le_of_ble_eq_true rfl) rfl rfl rfl (fun σ_59 hc_60 hf_61 => ?_)
  have hc_60 : σ_59 b = .inr (6, [.int (nI (0)), .int (nI (0)), .ref (q_h G + (b + 1)), .ref (q_h G + (b + 2)), .ref (q_h G + (b + 3)), .ref (q_h G + (b + 4)), .ref (q_h G + (b + 5))]) := hc_60
  have hc_62 : σ_59 (b + 1) = q_an G 8 (fun _ => 0) := (hf_61 _ (by omega)).trans hc_54
  have hc_63 : σ_59 (b + 2) = q_an G 8 (fun _ => 0) := (hf_61 _ (by omega)).trans hc_55
  have hc_64 : σ_59 (b + 3) = q_an G 8 (fun _ => 0) := (hf_61 _ (by omega)).trans hc_56
  have hc_65 : σ_59 (b + 4) = q_an G 8 (fun _ => 0) := (hf_61 _ (by omega)).trans hc_57
  have hc_66 : σ_59 (b + 5) = q_an G 8 (fun _ => 0) := (hf_61 _ (by omega)).trans hc_52
  rw [hQ]
  exact A_returnN hg (by decide) (by decide) rfl dX6_init_54 ⟨rfl, ⟨rfl, hc_60, hc_62, hc_63, hc_64, hc_65, hc_66, (fun i hi => ((hf_61 i (by omega)).trans ((hf_53 i (by omega)).trans ((hf_46 i (by omega)).trans ((hf_39 i (by omega)).trans ((hf_33 i (by omega)).trans ((hf_27 i (by omega)).trans ((hf_22 i (by omega)).trans ((hf_17 i (by omega)).trans ((hf_13 i (by omega)).trans ((hf_9 i (by omega)).trans ((hf_6 i (by omega)).trans (hf_3 i (by omega))))))))))))))⟩⟩
set_option maxRecDepth 100000 in
set_option maxHeartbeats 4000000 in
theorem c_X9_init (G : GL) (σ : Nat → va_E) (b : Nat) (hc0 : σ b = .inr (9, [.null, .int (nI (0)), .int (nI (0)), .int (nI (0)), .int (nI (0)), .int (nI (0))]))  : CtN G yX9_init cX9_init 1 none ⟨1, 1, 0, 20⟩ [.ref (q_h G + b)] true (b + 1) σ (fun v9 n' σ' => n' = (b + 2) ∧ (fun v9 σ2 => v9 = none ∧ σ2 b = o9 G (b + 1) (nI (0)) (nI (0)) (nI (0)) (nI (0)) (nI (0)) ∧ σ2 (b + 1) = q_an G 0 (fun _ => 0) ∧ (∀ i : Nat, i < b → σ2 i = σ i)) v9 σ') q_noX := by
  refine q_enterI [some (.ref (q_h G + b))] (by decide) (Nat.le_of_ble_eq_true rfl) rfl ?_
  intro K hg hme
  obtain ⟨Q, hQ⟩ : ∃ Q, Q = q_Q G K true (b + 1) 1 0 (fun v9 n' σ' => n' = (b + 2) ∧ (fun v9 σ2 => v9 = none ∧ σ2 b = o9 G (b + 1) (nI (0)) (nI (0)) (nI (0)) (nI (0)) (nI (0)) ∧ σ2 (b + 1) = q_an G 0 (fun _ => 0) ∧ (∀ i : Nat, i < b → σ2 i = σ i)) v9 σ') q_noX := ⟨_, rfl⟩
  refine (?_ : AJ G K (q_Q G K true (b + 1) 1 0 _ _) 0 0 true (b + 1) 0 _ _ σ)
  rw [← hQ]
  refine A_aload_n hg dX9_init_0 rfl rfl ?_
  refine A_objInit hg (q_mt 47 (by decide +kernel)) (q_mt 34 (by decide +kernel)) (q_mt 35 (by decide +kernel)) dX9_init_1 ⟨by decide, by decide⟩ (Nat.le_of_ble_eq_true rfl) ?_
  refine A_aload_n hg dX9_init_4 rfl rfl ?_
  refine A_iconst (v := (nI (0))) hg dX9_init_5 (by decide) ?_
  refine A_newa (t := 0) (N := 0) (a0 := (0, .inl (fun _ => nI 0))) hg (by decide) rfl (fun C h => by cases h) (q_mt 70 (by decide +kernel)) (fun _ => rfl) (by decide) (by decide) (by decide) (by decide) dX9_init_6 (fun σ_1 hc_2 hf_3 => ?_)
  have hc_2 : σ_1 (b + 1) = q_an G 0 (fun _ => 0) := hc_2
  have hc_4 : σ_1 b = .inr (9, [.null, .int (nI (0)), .int (nI (0)), .int (nI (0)), .int (nI (0)), .int (nI (0))]) := (hf_3 _ (by omega)).trans hc0
  refine A_putf hg fl_RX9_9 dX9_init_8 hc_4 (by omega) (Nat.le_of_ble_eq_true rfl) rfl rfl rfl (fun σ_5 hc_6 hf_7 => ?_)
  have hc_6 : σ_5 b = .inr (9, [.ref (q_h G + (b + 1)), .int (nI (0)), .int (nI (0)), .int (nI (0)), .int (nI (0)), .int (nI (0))]) := hc_6
  have hc_8 : σ_5 (b + 1) = q_an G 0 (fun _ => 0) := (hf_7 _ (by omega)).trans hc_2
  refine A_aload_n hg dX9_init_11 rfl rfl ?_
  refine A_iconst (v := (nI (0))) hg dX9_init_12 (by decide) ?_
  refine A_putf hg fl_RX9_15 dX9_init_13 hc_6 (by omega) (Nat.le_of_ble_eq_true rfl) rfl rfl rfl (fun σ_9 hc_10 hf_11 => ?_)
  have hc_10 : σ_9 b = .inr (9, [.ref (q_h G + (b + 1)), .int (nI (0)), .int (nI (0)), .int (nI (0)), .int (nI (0)), .int (nI (0))]) := hc_10
  have hc_12 : σ_9 (b + 1) = q_an G 0 (fun _ => 0) := (hf_11 _ (by omega)).trans hc_8
  refine A_aload_n hg dX9_init_16 rfl rfl ?_
  refine A_iconst (v := (nI (0))) hg dX9_init_17 (by decide) ?_
  refine A_putf hg fl_RX9_19 dX9_init_18 hc_10 (by omega) (Nat.le_of_ble_eq_true rfl) rfl rfl rfl (fun σ_13 hc_14 hf_15 => ?_)
  have hc_14 : σ_13 b = .inr (9, [.ref (q_h G + (b + 1)), .int (nI (0)), .int (nI (0)), .int (nI (0)), .int (nI (0)), .int (nI (0))]) := hc_14
  have hc_16 : σ_13 (b + 1) = q_an G 0 (fun _ => 0) := (hf_15 _ (by omega)).trans hc_12
  refine A_aload_n hg dX9_init_21 rfl rfl ?_
  refine A_iconst (v := (nI (0))) hg dX9_init_22 (by decide) ?_
  refine A_putf hg fl_RX9_22 dX9_init_23 hc_14 (by omega) (Nat.le_of_ble_eq_true rfl) rfl rfl rfl (fun σ_17 hc_18 hf_19 => ?_)
  have hc_18 : σ_17 b = .inr (9, [.ref (q_h G + (b + 1)), .int (nI (0)), .int (nI (0)), .int (nI (0)), .int (nI (0)), .int (nI (0))]) := hc_18
  have hc_20 : σ_17 (b + 1) = q_an G 0 (fun _ => 0) := (hf_19 _ (by omega)).trans hc_16
  refine A_aload_n hg dX9_init_26 rfl rfl ?_
  refine A_iconst (v := (nI (0))) hg dX9_init_27 (by decide) ?_
  refine A_putf hg fl_RX9_25 dX9_init_28 hc_18 (by omega) (Nat.le_of_ble_eq_true rfl) rfl rfl rfl (fun σ_21 hc_22 hf_23 => ?_)
  have hc_22 : σ_21 b = .inr (9, [.ref (q_h G + (b + 1)), .int (nI (0)), .int (nI (0)), .int (nI (0)), .int (nI (0)), .int (nI (0))]) := hc_22
  have hc_24 : σ_21 (b + 1) = q_an G 0 (fun _ => 0) := (hf_23 _ (by omega)).trans hc_20
  refine A_aload_n hg dX9_init_31 rfl rfl ?_
  refine A_iconst (v := (nI (0))) hg dX9_init_32 (by decide) ?_
  refine A_putf hg fl_RX9_28 dX9_init_33 hc_22 (by omega) (Nat.le_of_ble_eq_true rfl) rfl rfl rfl (fun σ_25 hc_26 hf_27 => ?_)
  have hc_26 : σ_25 b = .inr (9, [.ref (q_h G + (b + 1)), .int (nI (0)), .int (nI (0)), .int (nI (0)), .int (nI (0)), .int (nI (0))]) := hc_26
  have hc_28 : σ_25 (b + 1) = q_an G 0 (fun _ => 0) := (hf_27 _ (by omega)).trans hc_24
  rw [hQ]
  exact A_returnN hg (by decide) (by decide) rfl dX9_init_36 ⟨rfl, ⟨rfl, hc_26, hc_28, (fun i hi => ((hf_27 i (by omega)).trans ((hf_23 i (by omega)).trans ((hf_19 i (by omega)).trans ((hf_15 i (by omega)).trans ((hf_11 i (by omega)).trans ((hf_7 i (by omega)).trans (hf_3 i (by omega)))))))))⟩⟩
set_option maxRecDepth 100000 in
set_option maxHeartbeats 4000000 in
theorem c_X5_init (G : GL) (σ : Nat → va_E) (b : Nat) (hc0 : σ b = .inr (5, [.null, .int (nI (0))]))  : CtN G yX5_init cX5_init 1 none ⟨1, 1, 256, 20⟩ [.ref (q_h G + b)] true (b + 1) σ (fun v9 n' σ' => n' = (b + 2) ∧ (fun v9 σ2 => v9 = none ∧ σ2 b = o5 G (b) (nI (0)) ∧ σ2 (b + 1) = q_an G 256 (fun _ => 0) ∧ (∀ i : Nat, i < b → σ2 i = σ i)) v9 σ') q_noX := by
  refine q_enterI [some (.ref (q_h G + b))] (by decide) (Nat.le_of_ble_eq_true rfl) rfl ?_
  intro K hg hme
  obtain ⟨Q, hQ⟩ : ∃ Q, Q = q_Q G K true (b + 1) 1 256 (fun v9 n' σ' => n' = (b + 2) ∧ (fun v9 σ2 => v9 = none ∧ σ2 b = o5 G (b) (nI (0)) ∧ σ2 (b + 1) = q_an G 256 (fun _ => 0) ∧ (∀ i : Nat, i < b → σ2 i = σ i)) v9 σ') q_noX := ⟨_, rfl⟩
  refine (?_ : AJ G K (q_Q G K true (b + 1) 1 256 _ _) 0 0 true (b + 1) 0 _ _ σ)
  rw [← hQ]
  refine A_aload_n hg dX5_init_0 rfl rfl ?_
  refine A_objInit hg (q_mt 206 (by decide +kernel)) (q_mt 34 (by decide +kernel)) (q_mt 35 (by decide +kernel)) dX5_init_1 ⟨by decide, by decide⟩ (Nat.le_of_ble_eq_true rfl) ?_
  refine A_aload_n hg dX5_init_4 rfl rfl ?_
  refine A_sipush (v := (nI (256))) hg dX5_init_5 (by decide) ?_
  refine A_newa (t := 0) (N := 256) (a0 := (256, .inl (fun _ => nI 0))) hg (by decide) rfl (fun C h => by cases h) (q_mt 70 (by decide +kernel)) (fun _ => rfl) (by decide) (by decide) (by decide) (by decide) dX5_init_8 (fun σ_1 hc_2 hf_3 => ?_)
  have hc_2 : σ_1 (b + 1) = q_an G 256 (fun _ => 0) := hc_2
  have hc_4 : σ_1 b = .inr (5, [.null, .int (nI (0))]) := (hf_3 _ (by omega)).trans hc0
  refine A_putF (fs' := [.ref (q_h G + (b + 1)), .int (nI (0))]) hg fl_RX5_9 hme rfl (by intro C T N h; cases h; exact q_mt 207 (by decide +kernel)) dX5_init_10 hc_4 (by omega) (Nat.le_of_ble_eq_true rfl) rfl rfl rfl (fun σ_5 hc_6 hf_7 => ?_)
  have hc_6 : σ_5 b = .inr (5, [.ref (q_h G + (b + 1)), .int (nI (0))]) := hc_6
  have hc_8 : σ_5 (b + 1) = q_an G 256 (fun _ => 0) := (hf_7 _ (by omega)).trans hc_2
  refine A_aload_n hg dX5_init_13 rfl rfl ?_
  refine A_iconst (v := (nI (0))) hg dX5_init_14 (by decide) ?_
  refine A_putf hg fl_RX5_15 dX5_init_15 hc_6 (by omega) (Nat.le_of_ble_eq_true rfl) rfl rfl rfl (fun σ_9 hc_10 hf_11 => ?_)
  have hc_10 : σ_9 b = .inr (5, [.ref (q_h G + (b + 1)), .int (nI (0))]) := hc_10
  have hc_12 : σ_9 (b + 1) = q_an G 256 (fun _ => 0) := (hf_11 _ (by omega)).trans hc_8
  rw [hQ]
  exact A_returnN hg (by decide) (by decide) rfl dX5_init_18 ⟨rfl, ⟨rfl, hc_10, hc_12, (fun i hi => ((hf_11 i (by omega)).trans ((hf_7 i (by omega)).trans (hf_3 i (by omega)))))⟩⟩
set_option maxRecDepth 100000 in
set_option maxHeartbeats 4000000 in
theorem c_X8_init (G : GL) (σ : Nat → va_E) (b : Nat) (hc0 : σ b = .inr (8, [.null, .int (nI (0)), .null, .null, .int (nI (0)), .null, .null, .null, .int (nI (0)), .int (nI (0)), .int (nI (0)), .int (nI (0))]))  : CtN G yX8_init cX8_init 1 none ⟨2, 7, 8416, 40⟩ [.ref (q_h G + b)] true (b + 1) σ (fun v9 n' σ' => n' = (b + 8) ∧ (fun v9 σ2 => v9 = none ∧ σ2 b = o8 G (b) (nI (0)) (nI (0)) (nI (0)) (nI (0)) (nI (0)) (nI (0)) ∧ σ2 (b + 1) = o7 G (b + 1) (lN (0)) (lN (0)) (nI (1)) (nI (40)) (nI (0)) ∧ σ2 (b + 2) = q_an G 5 (fun _ => 0) ∧ σ2 (b + 3) = q_an G 1681 (fun _ => 0) ∧ σ2 (b + 4) = q_an G 1681 (fun _ => 0) ∧ σ2 (b + 5) = q_an G 1681 (fun _ => 0) ∧ σ2 (b + 6) = q_an G 1681 (fun _ => 0) ∧ σ2 (b + 7) = q_an G 1681 (fun _ => 0) ∧ (∀ i : Nat, i < b → σ2 i = σ i)) v9 σ') q_noX := by
  refine q_enterI [some (.ref (q_h G + b))] (by decide) (Nat.le_of_ble_eq_true rfl) rfl ?_
  intro K hg hme
  obtain ⟨Q, hQ⟩ : ∃ Q, Q = q_Q G K true (b + 1) 7 8416 (fun v9 n' σ' => n' = (b + 8) ∧ (fun v9 σ2 => v9 = none ∧ σ2 b = o8 G (b) (nI (0)) (nI (0)) (nI (0)) (nI (0)) (nI (0)) (nI (0)) ∧ σ2 (b + 1) = o7 G (b + 1) (lN (0)) (lN (0)) (nI (1)) (nI (40)) (nI (0)) ∧ σ2 (b + 2) = q_an G 5 (fun _ => 0) ∧ σ2 (b + 3) = q_an G 1681 (fun _ => 0) ∧ σ2 (b + 4) = q_an G 1681 (fun _ => 0) ∧ σ2 (b + 5) = q_an G 1681 (fun _ => 0) ∧ σ2 (b + 6) = q_an G 1681 (fun _ => 0) ∧ σ2 (b + 7) = q_an G 1681 (fun _ => 0) ∧ (∀ i : Nat, i < b → σ2 i = σ i)) v9 σ') q_noX := ⟨_, rfl⟩
  refine (?_ : AJ G K (q_Q G K true (b + 1) 7 8416 _ _) 0 0 true (b + 1) 0 _ _ σ)
  rw [← hQ]
  refine A_aload_n hg dX8_init_0 rfl rfl ?_
  refine A_objInit hg (q_mt 263 (by decide +kernel)) (q_mt 34 (by decide +kernel)) (q_mt 35 (by decide +kernel)) dX8_init_1 ⟨by decide, by decide⟩ (Nat.le_of_ble_eq_true rfl) ?_
  refine A_aload_n hg dX8_init_4 rfl rfl ?_
  refine A_newo (ci := 7) (fs := [.long (lN (0)), .long (lN (0)), .int (nI (0)), .int (nI (0)), .int (nI (0)), .null]) (C := RX7) (T := TX7) (N := 6) hg tyX7 rfl uw_7 tyX7_ok (q_mt 264 (by decide +kernel)) (q_mt 112 (by decide +kernel)) (q_mt 6 (by decide +kernel)) nd_7 (by decide) (by decide) dX8_init_5 (fun σ_1 hc_2 hf_3 => ?_)
  have hc_2 : σ_1 (b + 1) = .inr (7, [.long (lN (0)), .long (lN (0)), .int (nI (0)), .int (nI (0)), .int (nI (0)), .null]) := hc_2
  have hc_4 : σ_1 b = .inr (8, [.null, .int (nI (0)), .null, .null, .int (nI (0)), .null, .null, .null, .int (nI (0)), .int (nI (0)), .int (nI (0)), .int (nI (0))]) := (hf_3 _ (by omega)).trans hc0
  refine A_dup hg dX8_init_8 rfl ?_
  refine A_callI (id := (b + 1)) (As := []) (rest := [.ref (q_h G + (b + 1)), .ref (q_h G + b)]) hg lk_RX8_11 rfl in_X7_init dX8_init_9 ⟨by decide, by decide⟩ ⟨by decide, by decide⟩ rfl rfl (Nat.le_of_ble_eq_true rfl) (c_X7_init G σ_1 (b + 1) hc_2) q_nx ?_
  rintro _ _ σ_8 ⟨rfl, rfl, hc_5, hc_6, hf_7⟩
  refine (?_ : AJ G K Q 2 11 true (b + 3) 12 [some (.ref (q_h G + b))] [.ref (q_h G + (b + 1)), .ref (q_h G + b)] σ_8)
  have hc_9 : σ_8 b = .inr (8, [.null, .int (nI (0)), .null, .null, .int (nI (0)), .null, .null, .null, .int (nI (0)), .int (nI (0)), .int (nI (0)), .int (nI (0))]) := (hf_7 _ (by omega)).trans hc_4
  refine A_putF (fs' := [.ref (q_h G + (b + 1)), .int (nI (0)), .null, .null, .int (nI (0)), .null, .null, .null, .int (nI (0)), .int (nI (0)), .int (nI (0)), .int (nI (0))]) hg fl_RX8_12 hme rfl (by intro C T N h; cases h; exact q_mt 266 (by decide +kernel)) dX8_init_12 hc_9 (by omega) (Nat.le_of_ble_eq_true rfl) rfl rfl rfl (fun σ_10 hc_11 hf_12 => ?_)
  have hc_11 : σ_10 b = .inr (8, [.ref (q_h G + (b + 1)), .int (nI (0)), .null, .null, .int (nI (0)), .null, .null, .null, .int (nI (0)), .int (nI (0)), .int (nI (0)), .int (nI (0))]) := hc_11
  have hc_13 : σ_10 (b + 1) = o7 G (b + 1) (lN (0)) (lN (0)) (nI (1)) (nI (40)) (nI (0)) := (hf_12 _ (by omega)).trans hc_5
  have hc_14 : σ_10 (b + 2) = q_an G 5 (fun _ => 0) := (hf_12 _ (by omega)).trans hc_6
  refine A_aload_n hg dX8_init_15 rfl rfl ?_
  refine A_iconst (v := (nI (0))) hg dX8_init_16 (by decide) ?_
  refine A_putf hg fl_RX8_18 dX8_init_17 hc_11 (by omega) (Nat.le_of_ble_eq_true rfl) rfl rfl rfl (fun σ_15 hc_16 hf_17 => ?_)
  have hc_16 : σ_15 b = .inr (8, [.ref (q_h G + (b + 1)), .int (nI (0)), .null, .null, .int (nI (0)), .null, .null, .null, .int (nI (0)), .int (nI (0)), .int (nI (0)), .int (nI (0))]) := hc_16
  have hc_18 : σ_15 (b + 1) = o7 G (b + 1) (lN (0)) (lN (0)) (nI (1)) (nI (40)) (nI (0)) := (hf_17 _ (by omega)).trans hc_13
  have hc_19 : σ_15 (b + 2) = q_an G 5 (fun _ => 0) := (hf_17 _ (by omega)).trans hc_14
  refine A_aload_n hg dX8_init_20 rfl rfl ?_
  refine A_sipush (v := (nI (1681))) hg dX8_init_21 (by decide) ?_
  refine A_newa (t := 0) (N := 1681) (a0 := (1681, .inl (fun _ => nI 0))) hg (by decide) rfl (fun C h => by cases h) (q_mt 70 (by decide +kernel)) (fun _ => rfl) (by decide) (by decide) (by decide) (by decide) dX8_init_24 (fun σ_20 hc_21 hf_22 => ?_)
  have hc_21 : σ_20 (b + 3) = q_an G 1681 (fun _ => 0) := hc_21
  have hc_23 : σ_20 (b + 1) = o7 G (b + 1) (lN (0)) (lN (0)) (nI (1)) (nI (40)) (nI (0)) := (hf_22 _ (by omega)).trans hc_18
  have hc_24 : σ_20 (b + 2) = q_an G 5 (fun _ => 0) := (hf_22 _ (by omega)).trans hc_19
  have hc_25 : σ_20 b = .inr (8, [.ref (q_h G + (b + 1)), .int (nI (0)), .null, .null, .int (nI (0)), .null, .null, .null, .int (nI (0)), .int (nI (0)), .int (nI (0)), .int (nI (0))]) := (hf_22 _ (by omega)).trans hc_16
  refine A_putF (fs' := [.ref (q_h G + (b + 1)), .int (nI (0)), .ref (q_h G + (b + 3)), .null, .int (nI (0)), .null, .null, .null, .int (nI (0)), .int (nI (0)), .int (nI (0)), .int (nI (0))]) hg fl_RX8_22 hme rfl (by intro C T N h; cases h; exact q_mt 268 (by decide +kernel)) dX8_init_26 hc_25 (by omega) (Nat.le_of_ble_eq_true rfl) rfl rfl rfl (fun σ_26 hc_27 hf_28 => ?_)
  have hc_27 : σ_26 b = .inr (8, [.ref (q_h G + (b + 1)), .int (nI (0)), .ref (q_h G + (b + 3)), .null, .int (nI (0)), .null, .null, .null, .int (nI (0)), .int (nI (0)), .int (nI (0)), .int (nI (0))]) := hc_27
  have hc_29 : σ_26 (b + 1) = o7 G (b + 1) (lN (0)) (lN (0)) (nI (1)) (nI (40)) (nI (0)) := (hf_28 _ (by omega)).trans hc_23
  have hc_30 : σ_26 (b + 2) = q_an G 5 (fun _ => 0) := (hf_28 _ (by omega)).trans hc_24
  have hc_31 : σ_26 (b + 3) = q_an G 1681 (fun _ => 0) := (hf_28 _ (by omega)).trans hc_21
  refine A_aload_n hg dX8_init_29 rfl rfl ?_
  refine A_sipush (v := (nI (1681))) hg dX8_init_30 (by decide) ?_
  refine A_newa (t := 0) (N := 1681) (a0 := (1681, .inl (fun _ => nI 0))) hg (by decide) rfl (fun C h => by cases h) (q_mt 70 (by decide +kernel)) (fun _ => rfl) (by decide) (by decide) (by decide) (by decide) dX8_init_33 (fun σ_32 hc_33 hf_34 => ?_)
  have hc_33 : σ_32 (b + 4) = q_an G 1681 (fun _ => 0) := hc_33
  have hc_35 : σ_32 (b + 1) = o7 G (b + 1) (lN (0)) (lN (0)) (nI (1)) (nI (40)) (nI (0)) := (hf_34 _ (by omega)).trans hc_29
  have hc_36 : σ_32 (b + 2) = q_an G 5 (fun _ => 0) := (hf_34 _ (by omega)).trans hc_30
  have hc_37 : σ_32 (b + 3) = q_an G 1681 (fun _ => 0) := (hf_34 _ (by omega)).trans hc_31
  have hc_38 : σ_32 b = .inr (8, [.ref (q_h G + (b + 1)), .int (nI (0)), .ref (q_h G + (b + 3)), .null, .int (nI (0)), .null, .null, .null, .int (nI (0)), .int (nI (0)), .int (nI (0)), .int (nI (0))]) := (hf_34 _ (by omega)).trans hc_27
  refine A_putF (fs' := [.ref (q_h G + (b + 1)), .int (nI (0)), .ref (q_h G + (b + 3)), .ref (q_h G + (b + 4)), .int (nI (0)), .null, .null, .null, .int (nI (0)), .int (nI (0)), .int (nI (0)), .int (nI (0))]) hg fl_RX8_26 hme rfl (by intro C T N h; cases h; exact q_mt 269 (by decide +kernel)) dX8_init_35 hc_38 (by omega) (Nat.le_of_ble_eq_true rfl) rfl rfl rfl (fun σ_39 hc_40 hf_41 => ?_)
  have hc_40 : σ_39 b = .inr (8, [.ref (q_h G + (b + 1)), .int (nI (0)), .ref (q_h G + (b + 3)), .ref (q_h G + (b + 4)), .int (nI (0)), .null, .null, .null, .int (nI (0)), .int (nI (0)), .int (nI (0)), .int (nI (0))]) := hc_40
  have hc_42 : σ_39 (b + 1) = o7 G (b + 1) (lN (0)) (lN (0)) (nI (1)) (nI (40)) (nI (0)) := (hf_41 _ (by omega)).trans hc_35
  have hc_43 : σ_39 (b + 2) = q_an G 5 (fun _ => 0) := (hf_41 _ (by omega)).trans hc_36
  have hc_44 : σ_39 (b + 3) = q_an G 1681 (fun _ => 0) := (hf_41 _ (by omega)).trans hc_37
  have hc_45 : σ_39 (b + 4) = q_an G 1681 (fun _ => 0) := (hf_41 _ (by omega)).trans hc_33
  refine A_aload_n hg dX8_init_38 rfl rfl ?_
  refine A_iconst (v := (nI (0))) hg dX8_init_39 (by decide) ?_
  refine A_putf hg fl_RX8_29 dX8_init_40 hc_40 (by omega) (Nat.le_of_ble_eq_true rfl) rfl rfl rfl (fun σ_46 hc_47 hf_48 => ?_)
  have hc_47 : σ_46 b = .inr (8, [.ref (q_h G + (b + 1)), .int (nI (0)), .ref (q_h G + (b + 3)), .ref (q_h G + (b + 4)), .int (nI (0)), .null, .null, .null, .int (nI (0)), .int (nI (0)), .int (nI (0)), .int (nI (0))]) := hc_47
  have hc_49 : σ_46 (b + 1) = o7 G (b + 1) (lN (0)) (lN (0)) (nI (1)) (nI (40)) (nI (0)) := (hf_48 _ (by omega)).trans hc_42
  have hc_50 : σ_46 (b + 2) = q_an G 5 (fun _ => 0) := (hf_48 _ (by omega)).trans hc_43
  have hc_51 : σ_46 (b + 3) = q_an G 1681 (fun _ => 0) := (hf_48 _ (by omega)).trans hc_44
  have hc_52 : σ_46 (b + 4) = q_an G 1681 (fun _ => 0) := (hf_48 _ (by omega)).trans hc_45
  refine A_aload_n hg dX8_init_43 rfl rfl ?_
  refine A_sipush (v := (nI (1681))) hg dX8_init_44 (by decide) ?_
  refine A_newa (t := 0) (N := 1681) (a0 := (1681, .inl (fun _ => nI 0))) hg (by decide) rfl (fun C h => by cases h) (q_mt 70 (by decide +kernel)) (fun _ => rfl) (by decide) (by decide) (by decide) (by decide) dX8_init_47 (fun σ_53 hc_54 hf_55 => ?_)
  have hc_54 : σ_53 (b + 5) = q_an G 1681 (fun _ => 0) := hc_54
  have hc_56 : σ_53 (b + 1) = o7 G (b + 1) (lN (0)) (lN (0)) (nI (1)) (nI (40)) (nI (0)) := (hf_55 _ (by omega)).trans hc_49
  have hc_57 : σ_53 (b + 2) = q_an G 5 (fun _ => 0) := (hf_55 _ (by omega)).trans hc_50
  have hc_58 : σ_53 (b + 3) = q_an G 1681 (fun _ => 0) := (hf_55 _ (by omega)).trans hc_51
  have hc_59 : σ_53 (b + 4) = q_an G 1681 (fun _ => 0) := (hf_55 _ (by omega)).trans hc_52
  have hc_60 : σ_53 b = .inr (8, [.ref (q_h G + (b + 1)), .int (nI (0)), .ref (q_h G + (b + 3)), .ref (q_h G + (b + 4)), .int (nI (0)), .null, .null, .null, .int (nI (0)), .int (nI (0)), .int (nI (0)), .int (nI (0))]) := (hf_55 _ (by omega)).trans hc_47
  refine A_putF (fs' := [.ref (q_h G + (b + 1)), .int (nI (0)), .ref (q_h G + (b + 3)), .ref (q_h G + (b + 4)), .int (nI (0)), .ref (q_h G + (b + 5)), .null, .null, .int (nI (0)), .int (nI (0)), .int (nI (0)), .int (nI (0))]) hg fl_RX8_33 hme rfl (by intro C T N h; cases h; exact q_mt 271 (by decide +kernel)) dX8_init_49 hc_60 (by omega) (Nat.le_of_ble_eq_true rfl) rfl rfl rfl (fun σ_61 hc_62 hf_63 => ?_)
  have hc_62 : σ_61 b = .inr (8, [.ref (q_h G + (b + 1)), .int (nI (0)), .ref (q_h G + (b + 3)), .ref (q_h G + (b + 4)), .int (nI (0)), .ref (q_h G + (b + 5)), .null, .null, .int (nI (0)), .int (nI (0)), .int (nI (0)), .int (nI (0))]) := hc_62
  have hc_64 : σ_61 (b + 1) = o7 G (b + 1) (lN (0)) (lN (0)) (nI (1)) (nI (40)) (nI (0)) := (hf_63 _ (by omega)).trans hc_56
  have hc_65 : σ_61 (b + 2) = q_an G 5 (fun _ => 0) := (hf_63 _ (by omega)).trans hc_57
  have hc_66 : σ_61 (b + 3) = q_an G 1681 (fun _ => 0) := (hf_63 _ (by omega)).trans hc_58
  have hc_67 : σ_61 (b + 4) = q_an G 1681 (fun _ => 0) := (hf_63 _ (by omega)).trans hc_59
  have hc_68 : σ_61 (b + 5) = q_an G 1681 (fun _ => 0) := (hf_63 _ (by omega)).trans hc_54
  refine A_aload_n hg dX8_init_52 rfl rfl ?_
  refine A_sipush (v := (nI (1681))) hg dX8_init_53 (by decide) ?_
  refine A_newa (t := 0) (N := 1681) (a0 := (1681, .inl (fun _ => nI 0))) hg (by decide) rfl (fun C h => by cases h) (q_mt 70 (by decide +kernel)) (fun _ => rfl) (by decide) (by decide) (by decide) (by decide) dX8_init_56 (fun σ_69 hc_70 hf_71 => ?_)
  have hc_70 : σ_69 (b + 6) = q_an G 1681 (fun _ => 0) := hc_70
  have hc_72 : σ_69 (b + 1) = o7 G (b + 1) (lN (0)) (lN (0)) (nI (1)) (nI (40)) (nI (0)) := (hf_71 _ (by omega)).trans hc_64
  have hc_73 : σ_69 (b + 2) = q_an G 5 (fun _ => 0) := (hf_71 _ (by omega)).trans hc_65
  have hc_74 : σ_69 (b + 3) = q_an G 1681 (fun _ => 0) := (hf_71 _ (by omega)).trans hc_66
  have hc_75 : σ_69 (b + 4) = q_an G 1681 (fun _ => 0) := (hf_71 _ (by omega)).trans hc_67
  have hc_76 : σ_69 (b + 5) = q_an G 1681 (fun _ => 0) := (hf_71 _ (by omega)).trans hc_68
  have hc_77 : σ_69 b = .inr (8, [.ref (q_h G + (b + 1)), .int (nI (0)), .ref (q_h G + (b + 3)), .ref (q_h G + (b + 4)), .int (nI (0)), .ref (q_h G + (b + 5)), .null, .null, .int (nI (0)), .int (nI (0)), .int (nI (0)), .int (nI (0))]) := (hf_71 _ (by omega)).trans hc_62
  refine A_putF (fs' := [.ref (q_h G + (b + 1)), .int (nI (0)), .ref (q_h G + (b + 3)), .ref (q_h G + (b + 4)), .int (nI (0)), .ref (q_h G + (b + 5)), .ref (q_h G + (b + 6)), .null, .int (nI (0)), .int (nI (0)), .int (nI (0)), .int (nI (0))]) hg fl_RX8_36 hme rfl (by intro C T N h; cases h; exact q_mt 272 (by decide +kernel)) dX8_init_58 hc_77 (by omega) (Nat.le_of_ble_eq_true rfl) rfl rfl rfl (fun σ_78 hc_79 hf_80 => ?_)
  have hc_79 : σ_78 b = .inr (8, [.ref (q_h G + (b + 1)), .int (nI (0)), .ref (q_h G + (b + 3)), .ref (q_h G + (b + 4)), .int (nI (0)), .ref (q_h G + (b + 5)), .ref (q_h G + (b + 6)), .null, .int (nI (0)), .int (nI (0)), .int (nI (0)), .int (nI (0))]) := hc_79
  have hc_81 : σ_78 (b + 1) = o7 G (b + 1) (lN (0)) (lN (0)) (nI (1)) (nI (40)) (nI (0)) := (hf_80 _ (by omega)).trans hc_72
  have hc_82 : σ_78 (b + 2) = q_an G 5 (fun _ => 0) := (hf_80 _ (by omega)).trans hc_73
  have hc_83 : σ_78 (b + 3) = q_an G 1681 (fun _ => 0) := (hf_80 _ (by omega)).trans hc_74
  have hc_84 : σ_78 (b + 4) = q_an G 1681 (fun _ => 0) := (hf_80 _ (by omega)).trans hc_75
  have hc_85 : σ_78 (b + 5) = q_an G 1681 (fun _ => 0) := (hf_80 _ (by omega)).trans hc_76
  have hc_86 : σ_78 (b + 6) = q_an G 1681 (fun _ => 0) := (hf_80 _ (by omega)).trans hc_70
  refine A_aload_n hg dX8_init_61 rfl rfl ?_
  refine A_sipush (v := (nI (1681))) hg dX8_init_62 (by decide) ?_
  refine A_newa (t := 0) (N := 1681) (a0 := (1681, .inl (fun _ => nI 0))) hg (by decide) rfl (fun C h => by cases h) (q_mt 70 (by decide +kernel)) (fun _ => rfl) (by decide) (by decide) (by decide) (by decide) dX8_init_65 (fun σ_87 hc_88 hf_89 => ?_)
  have hc_88 : σ_87 (b + 7) = q_an G 1681 (fun _ => 0) := hc_88
  have hc_90 : σ_87 (b + 1) = o7 G (b + 1) (lN (0)) (lN (0)) (nI (1)) (nI (40)) (nI (0)) := (hf_89 _ (by omega)).trans hc_81
  have hc_91 : σ_87 (b + 2) = q_an G 5 (fun _ => 0) := (hf_89 _ (by omega)).trans hc_82
  have hc_92 : σ_87 (b + 3) = q_an G 1681 (fun _ => 0) := (hf_89 _ (by omega)).trans hc_83
  have hc_93 : σ_87 (b + 4) = q_an G 1681 (fun _ => 0) := (hf_89 _ (by omega)).trans hc_84
  have hc_94 : σ_87 (b + 5) = q_an G 1681 (fun _ => 0) := (hf_89 _ (by omega)).trans hc_85
  have hc_95 : σ_87 (b + 6) = q_an G 1681 (fun _ => 0) := (hf_89 _ (by omega)).trans hc_86
  have hc_96 : σ_87 b = .inr (8, [.ref (q_h G + (b + 1)), .int (nI (0)), .ref (q_h G + (b + 3)), .ref (q_h G + (b + 4)), .int (nI (0)), .ref (q_h G + (b + 5)), .ref (q_h G + (b + 6)), .null, .int (nI (0)), .int (nI (0)), .int (nI (0)), .int (nI (0))]) := (hf_89 _ (by omega)).trans hc_79
  refine A_putF (fs' := [.ref (q_h G + (b + 1)), .int (nI (0)), .ref (q_h G + (b + 3)), .ref (q_h G + (b + 4)), .int (nI (0)), .ref (q_h G + (b + 5)), .ref (q_h G + (b + 6)), .ref (q_h G + (b + 7)), .int (nI (0)), .int (nI (0)), .int (nI (0)), .int (nI (0))]) hg fl_RX8_39 hme rfl (by intro C T N h; cases h; exact q_mt 273 (by decide +kernel)) dX8_init_67 hc_96 (by omega) (Nat.le_of_ble_eq_true rfl) rfl rfl rfl (fun σ_97 hc_98 hf_99 => ?_)
  have hc_98 : σ_97 b = .inr (8, [.ref (q_h G + (b + 1)), .int (nI (0)), .ref (q_h G + (b + 3)), .ref (q_h G + (b + 4)), .int (nI (0)), .ref (q_h G + (b + 5)), .ref (q_h G + (b + 6)), .ref (q_h G + (b + 7)), .int (nI (0)), .int (nI (0)), .int (nI (0)), .int (nI (0))]) := hc_98
  have hc_100 : σ_97 (b + 1) = o7 G (b + 1) (lN (0)) (lN (0)) (nI (1)) (nI (40)) (nI (0)) := (hf_99 _ (by omega)).trans hc_90
  have hc_101 : σ_97 (b + 2) = q_an G 5 (fun _ => 0) := (hf_99 _ (by omega)).trans hc_91
  have hc_102 : σ_97 (b + 3) = q_an G 1681 (fun _ => 0) := (hf_99 _ (by omega)).trans hc_92
  have hc_103 : σ_97 (b + 4) = q_an G 1681 (fun _ => 0) := (hf_99 _ (by omega)).trans hc_93
  have hc_104 : σ_97 (b + 5) = q_an G 1681 (fun _ => 0) := (hf_99 _ (by omega)).trans hc_94
  have hc_105 : σ_97 (b + 6) = q_an G 1681 (fun _ => 0) := (hf_99 _ (by omega)).trans hc_95
  have hc_106 : σ_97 (b + 7) = q_an G 1681 (fun _ => 0) := (hf_99 _ (by omega)).trans hc_88
  refine A_aload_n hg dX8_init_70 rfl rfl ?_
  refine A_iconst (v := (nI (0))) hg dX8_init_71 (by decide) ?_
  refine A_putf hg fl_RX8_42 dX8_init_72 hc_98 (by omega) (Nat.le_of_ble_eq_true rfl) rfl rfl rfl (fun σ_107 hc_108 hf_109 => ?_)
  have hc_108 : σ_107 b = .inr (8, [.ref (q_h G + (b + 1)), .int (nI (0)), .ref (q_h G + (b + 3)), .ref (q_h G + (b + 4)), .int (nI (0)), .ref (q_h G + (b + 5)), .ref (q_h G + (b + 6)), .ref (q_h G + (b + 7)), .int (nI (0)), .int (nI (0)), .int (nI (0)), .int (nI (0))]) := hc_108
  have hc_110 : σ_107 (b + 1) = o7 G (b + 1) (lN (0)) (lN (0)) (nI (1)) (nI (40)) (nI (0)) := (hf_109 _ (by omega)).trans hc_100
  have hc_111 : σ_107 (b + 2) = q_an G 5 (fun _ => 0) := (hf_109 _ (by omega)).trans hc_101
  have hc_112 : σ_107 (b + 3) = q_an G 1681 (fun _ => 0) := (hf_109 _ (by omega)).trans hc_102
  have hc_113 : σ_107 (b + 4) = q_an G 1681 (fun _ => 0) := (hf_109 _ (by omega)).trans hc_103
  have hc_114 : σ_107 (b + 5) = q_an G 1681 (fun _ => 0) := (hf_109 _ (by omega)).trans hc_104
  have hc_115 : σ_107 (b + 6) = q_an G 1681 (fun _ => 0) := (hf_109 _ (by omega)).trans hc_105
  have hc_116 : σ_107 (b + 7) = q_an G 1681 (fun _ => 0) := (hf_109 _ (by omega)).trans hc_106
  refine A_aload_n hg dX8_init_75 rfl rfl ?_
  refine A_iconst (v := (nI (0))) hg dX8_init_76 (by decide) ?_
  refine A_putf hg fl_RX8_45 dX8_init_77 hc_108 (by omega) (Nat.le_of_ble_eq_true rfl) rfl rfl rfl (fun σ_117 hc_118 hf_119 => ?_)
  have hc_118 : σ_117 b = .inr (8, [.ref (q_h G + (b + 1)), .int (nI (0)), .ref (q_h G + (b + 3)), .ref (q_h G + (b + 4)), .int (nI (0)), .ref (q_h G + (b + 5)), .ref (q_h G + (b + 6)), .ref (q_h G + (b + 7)), .int (nI (0)), .int (nI (0)), .int (nI (0)), .int (nI (0))]) := hc_118
  have hc_120 : σ_117 (b + 1) = o7 G (b + 1) (lN (0)) (lN (0)) (nI (1)) (nI (40)) (nI (0)) := (hf_119 _ (by omega)).trans hc_110
  have hc_121 : σ_117 (b + 2) = q_an G 5 (fun _ => 0) := (hf_119 _ (by omega)).trans hc_111
  have hc_122 : σ_117 (b + 3) = q_an G 1681 (fun _ => 0) := (hf_119 _ (by omega)).trans hc_112
  have hc_123 : σ_117 (b + 4) = q_an G 1681 (fun _ => 0) := (hf_119 _ (by omega)).trans hc_113
  have hc_124 : σ_117 (b + 5) = q_an G 1681 (fun _ => 0) := (hf_119 _ (by omega)).trans hc_114
  have hc_125 : σ_117 (b + 6) = q_an G 1681 (fun _ => 0) := (hf_119 _ (by omega)).trans hc_115
  have hc_126 : σ_117 (b + 7) = q_an G 1681 (fun _ => 0) := (hf_119 _ (by omega)).trans hc_116
  refine A_aload_n hg dX8_init_80 rfl rfl ?_
  refine A_iconst (v := (nI (0))) hg dX8_init_81 (by decide) ?_
  refine A_putf hg fl_RX8_48 dX8_init_82 hc_118 (by omega) (Nat.le_of_ble_eq_true rfl) rfl rfl rfl (fun σ_127 hc_128 hf_129 => ?_)
  have hc_128 : σ_127 b = .inr (8, [.ref (q_h G + (b + 1)), .int (nI (0)), .ref (q_h G + (b + 3)), .ref (q_h G + (b + 4)), .int (nI (0)), .ref (q_h G + (b + 5)), .ref (q_h G + (b + 6)), .ref (q_h G + (b + 7)), .int (nI (0)), .int (nI (0)), .int (nI (0)), .int (nI (0))]) := hc_128
  have hc_130 : σ_127 (b + 1) = o7 G (b + 1) (lN (0)) (lN (0)) (nI (1)) (nI (40)) (nI (0)) := (hf_129 _ (by omega)).trans hc_120
  have hc_131 : σ_127 (b + 2) = q_an G 5 (fun _ => 0) := (hf_129 _ (by omega)).trans hc_121
  have hc_132 : σ_127 (b + 3) = q_an G 1681 (fun _ => 0) := (hf_129 _ (by omega)).trans hc_122
  have hc_133 : σ_127 (b + 4) = q_an G 1681 (fun _ => 0) := (hf_129 _ (by omega)).trans hc_123
  have hc_134 : σ_127 (b + 5) = q_an G 1681 (fun _ => 0) := (hf_129 _ (by omega)).trans hc_124
  have hc_135 : σ_127 (b + 6) = q_an G 1681 (fun _ => 0) := (hf_129 _ (by omega)).trans hc_125
  have hc_136 : σ_127 (b + 7) = q_an G 1681 (fun _ => 0) := (hf_129 _ (by omega)).trans hc_126
  refine A_aload_n hg dX8_init_85 rfl rfl ?_
  refine A_iconst (v := (nI (0))) hg dX8_init_86 (by decide) ?_
  refine A_putf hg fl_RX8_51 dX8_init_87 hc_128 (by omega) (Nat.le_of_ble_eq_true rfl) rfl rfl rfl (fun σ_137 hc_138 hf_139 => ?_)
  have hc_138 : σ_137 b = .inr (8, [.ref (q_h G + (b + 1)), .int (nI (0)), .ref (q_h G + (b + 3)), .ref (q_h G + (b + 4)), .int (nI (0)), .ref (q_h G + (b + 5)), .ref (q_h G + (b + 6)), .ref (q_h G + (b + 7)), .int (nI (0)), .int (nI (0)), .int (nI (0)), .int (nI (0))]) := hc_138
  have hc_140 : σ_137 (b + 1) = o7 G (b + 1) (lN (0)) (lN (0)) (nI (1)) (nI (40)) (nI (0)) := (hf_139 _ (by omega)).trans hc_130
  have hc_141 : σ_137 (b + 2) = q_an G 5 (fun _ => 0) := (hf_139 _ (by omega)).trans hc_131
  have hc_142 : σ_137 (b + 3) = q_an G 1681 (fun _ => 0) := (hf_139 _ (by omega)).trans hc_132
  have hc_143 : σ_137 (b + 4) = q_an G 1681 (fun _ => 0) := (hf_139 _ (by omega)).trans hc_133
  have hc_144 : σ_137 (b + 5) = q_an G 1681 (fun _ => 0) := (hf_139 _ (by omega)).trans hc_134
  have hc_145 : σ_137 (b + 6) = q_an G 1681 (fun _ => 0) := (hf_139 _ (by omega)).trans hc_135
  have hc_146 : σ_137 (b + 7) = q_an G 1681 (fun _ => 0) := (hf_139 _ (by omega)).trans hc_136
  rw [hQ]
  exact A_returnN hg (by decide) (by decide) rfl dX8_init_90 ⟨rfl, ⟨rfl, hc_138, hc_140, hc_141, hc_142, hc_143, hc_144, hc_145, hc_146, (fun i hi => ((hf_139 i (by omega)).trans ((hf_129 i (by omega)).trans ((hf_119 i (by omega)).trans ((hf_109 i (by omega)).trans ((hf_99 i (by omega)).trans ((hf_89 i (by omega)).trans ((hf_80 i (by omega)).trans ((hf_71 i (by omega)).trans ((hf_63 i (by omega)).trans ((hf_55 i (by omega)).trans ((hf_48 i (by omega)).trans ((hf_41 i (by omega)).trans ((hf_34 i (by omega)).trans ((hf_28 i (by omega)).trans ((hf_22 i (by omega)).trans ((hf_17 i (by omega)).trans ((hf_12 i (by omega)).trans ((hf_7 i (by omega)).trans (hf_3 i (by omega)))))))))))))))))))))⟩⟩
end
