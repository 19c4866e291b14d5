section
set_option maxRecDepth 100000 in
set_option maxHeartbeats 4000000 in
theorem c_X11_init (G : GL) (σ : Nat → va_E)  (hc0 : σ 279 = .inr (11, [.null, .null, .null, .null, .null, .int (nI (0)), .int (nI (0)), .int (nI (0)), .null, .null, .null, .null, .int (nI (0)), .null, .null, .null, .int (nI (0)), .int (nI (0)), .int (nI (0)), .int (nI (0)), .null, .int (nI (0)), .int (nI (0)), .int (nI (0)), .int (nI (0)), .int (nI (0)), .int (nI (0)), .int (nI (0)), .int (nI (0)), .int (nI (0)), .int (nI (0)), .int (nI (0)), .null, .int (nI (0))]))  : CtN G yX11_init cX11_init 1 none ⟨2, 14, 24916, 47⟩ [.ref (q_h G + 279)] true 280 σ (fun v9 n' σ' => n' = 294 ∧ (fun v9 σ2 => v9 = none ∧ σ2 279 = o11 G (upd (fun _ => nI 0) 23 (q_d (0))) ∧ σ2 280 = q_an G 265 (s_addB (va_up (va_up (va_up (va_up (va_up (va_up (va_up (va_up (va_up rd_g0 17 5) 18 16) 19 12) 20 1) 21 9) 22 14) (17 + 29 * 0 + 18) 1) (17 + 29 * 0 + 19) 40) 0 1) 0 5 8) ∧ σ2 281 = q_an G 265 (fun _ => 0) ∧ σ2 282 = q_an G 265 (fun _ => 0) ∧ σ2 283 = q_an G 530 (fun _ => 0) ∧ σ2 284 = q_an G 2120 (fun _ => 0) ∧ σ2 286 = q_an G 1681 (fun _ => 0) ∧ σ2 287 = q_an G 1681 (fun _ => 0) ∧ σ2 288 = q_an G 2000 (fun _ => 0) ∧ σ2 289 = q_an G 6724 (fun _ => 0) ∧ σ2 290 = q_an G 6724 (fun _ => 0) ∧ σ2 291 = q_an G 80 (fun _ => 0) ∧ σ2 292 = q_an G 600 (fun _ => 0) ∧ σ2 293 = q_an G 300 (fun _ => 0) ∧ σ2 285 = q_bn G 1681 (fun _ => 0) ∧ (∀ i : Nat, i < 279 → σ2 i = σ i)) v9 σ') q_noX := by
  refine q_enterI [some (.ref (q_h G + 279))] (by decide) (Nat.le_of_ble_eq_true rfl) rfl ?_
  intro K hg hme
  obtain ⟨Q, hQ⟩ : ∃ Q, Q = q_Q G K true 280 14 24916 (fun v9 n' σ' => n' = 294 ∧ (fun v9 σ2 => v9 = none ∧ σ2 279 = o11 G (upd (fun _ => nI 0) 23 (q_d (0))) ∧ σ2 280 = q_an G 265 (s_addB (va_up (va_up (va_up (va_up (va_up (va_up (va_up (va_up (va_up rd_g0 17 5) 18 16) 19 12) 20 1) 21 9) 22 14) (17 + 29 * 0 + 18) 1) (17 + 29 * 0 + 19) 40) 0 1) 0 5 8) ∧ σ2 281 = q_an G 265 (fun _ => 0) ∧ σ2 282 = q_an G 265 (fun _ => 0) ∧ σ2 283 = q_an G 530 (fun _ => 0) ∧ σ2 284 = q_an G 2120 (fun _ => 0) ∧ σ2 286 = q_an G 1681 (fun _ => 0) ∧ σ2 287 = q_an G 1681 (fun _ => 0) ∧ σ2 288 = q_an G 2000 (fun _ => 0) ∧ σ2 289 = q_an G 6724 (fun _ => 0) ∧ σ2 290 = q_an G 6724 (fun _ => 0) ∧ σ2 291 = q_an G 80 (fun _ => 0) ∧ σ2 292 = q_an G 600 (fun _ => 0) ∧ σ2 293 = q_an G 300 (fun _ => 0) ∧ σ2 285 = q_bn G 1681 (fun _ => 0) ∧ (∀ i : Nat, i < 279 → σ2 i = σ i)) v9 σ') q_noX := ⟨_, rfl⟩
  refine (?_ : AJ G K (q_Q G K true 280 14 24916 _ _) 0 0 true 280 0 _ _ σ)
  rw [← hQ]
  refine A_aload_n hg dX11_init_0 rfl rfl ?_
  refine A_objInit hg (q_mt 1401 (by decide +kernel)) (q_mt 34 (by decide +kernel)) (q_mt 35 (by decide +kernel)) dX11_init_1 ⟨by decide, by decide⟩ (Nat.le_of_ble_eq_true rfl) ?_
  refine A_aload_n hg dX11_init_4 rfl rfl ?_
  refine A_sipush (v := (nI (265))) hg dX11_init_5 (by decide) ?_
  refine A_newa (t := 0) (N := 265) (a0 := (265, .inl (fun _ => nI 0))) hg (by decide) rfl (fun C h => by cases h) (q_mt 70 (by decide +kernel)) (fun _ => rfl) (by decide) (by decide) (by decide) (by decide) dX11_init_8 (fun σ_1 hc_2 hf_3 => ?_)
  have hc_2 : σ_1 280 = q_an G 265 (fun _ => 0) := hc_2
  have hc_4 : σ_1 279 = .inr (11, [.null, .null, .null, .null, .null, .int (nI (0)), .int (nI (0)), .int (nI (0)), .null, .null, .null, .null, .int (nI (0)), .null, .null, .null, .int (nI (0)), .int (nI (0)), .int (nI (0)), .int (nI (0)), .null, .int (nI (0)), .int (nI (0)), .int (nI (0)), .int (nI (0)), .int (nI (0)), .int (nI (0)), .int (nI (0)), .int (nI (0)), .int (nI (0)), .int (nI (0)), .int (nI (0)), .null, .int (nI (0))]) := (hf_3 _ (by omega)).trans hc0
  refine A_putF (fs' := [.ref (q_h G + 280), .null, .null, .null, .null, .int (nI (0)), .int (nI (0)), .int (nI (0)), .null, .null, .null, .null, .int (nI (0)), .null, .null, .null, .int (nI (0)), .int (nI (0)), .int (nI (0)), .int (nI (0)), .null, .int (nI (0)), .int (nI (0)), .int (nI (0)), .int (nI (0)), .int (nI (0)), .int (nI (0)), .int (nI (0)), .int (nI (0)), .int (nI (0)), .int (nI (0)), .int (nI (0)), .null, .int (nI (0))]) hg fl_RX11_7 hme rfl (by intro C T N h; cases h; exact q_mt 1418 (by decide +kernel)) dX11_init_10 hc_4 (by omega) (Nat.le_of_ble_eq_true rfl) rfl rfl rfl (fun σ_5 hc_6 hf_7 => ?_)
  have hc_6 : σ_5 279 = .inr (11, [.ref (q_h G + 280), .null, .null, .null, .null, .int (nI (0)), .int (nI (0)), .int (nI (0)), .null, .null, .null, .null, .int (nI (0)), .null, .null, .null, .int (nI (0)), .int (nI (0)), .int (nI (0)), .int (nI (0)), .null, .int (nI (0)), .int (nI (0)), .int (nI (0)), .int (nI (0)), .int (nI (0)), .int (nI (0)), .int (nI (0)), .int (nI (0)), .int (nI (0)), .int (nI (0)), .int (nI (0)), .null, .int (nI (0))]) := hc_6
  have hc_8 : σ_5 280 = q_an G 265 (fun _ => 0) := (hf_7 _ (by omega)).trans hc_2
  refine A_aload_n hg dX11_init_13 rfl rfl ?_
  refine A_sipush (v := (nI (265))) hg dX11_init_14 (by decide) ?_
  refine A_newa (t := 0) (N := 265) (a0 := (265, .inl (fun _ => nI 0))) hg (by decide) rfl (fun C h => by cases h) (q_mt 70 (by decide +kernel)) (fun _ => rfl) (by decide) (by decide) (by decide) (by decide) dX11_init_17 (fun σ_9 hc_10 hf_11 => ?_)
  have hc_10 : σ_9 281 = q_an G 265 (fun _ => 0) := hc_10
  have hc_12 : σ_9 280 = q_an G 265 (fun _ => 0) := (hf_11 _ (by omega)).trans hc_8
  have hc_13 : σ_9 279 = .inr (11, [.ref (q_h G + 280), .null, .null, .null, .null, .int (nI (0)), .int (nI (0)), .int (nI (0)), .null, .null, .null, .null, .int (nI (0)), .null, .null, .null, .int (nI (0)), .int (nI (0)), .int (nI (0)), .int (nI (0)), .null, .int (nI (0)), .int (nI (0)), .int (nI (0)), .int (nI (0)), .int (nI (0)), .int (nI (0)), .int (nI (0)), .int (nI (0)), .int (nI (0)), .int (nI (0)), .int (nI (0)), .null, .int (nI (0))]) := (hf_11 _ (by omega)).trans hc_6
  refine A_putF (fs' := [.ref (q_h G + 280), .ref (q_h G + 281), .null, .null, .null, .int (nI (0)), .int (nI (0)), .int (nI (0)), .null, .null, .null, .null, .int (nI (0)), .null, .null, .null, .int (nI (0)), .int (nI (0)), .int (nI (0)), .int (nI (0)), .null, .int (nI (0)), .int (nI (0)), .int (nI (0)), .int (nI (0)), .int (nI (0)), .int (nI (0)), .int (nI (0)), .int (nI (0)), .int (nI (0)), .int (nI (0)), .int (nI (0)), .null, .int (nI (0))]) hg fl_RX11_13 hme rfl (by intro C T N h; cases h; exact q_mt 1419 (by decide +kernel)) dX11_init_19 hc_13 (by omega) (Nat.le_of_ble_eq_true rfl) rfl rfl rfl (fun σ_14 hc_15 hf_16 => ?_)
  have hc_15 : σ_14 279 = .inr (11, [.ref (q_h G + 280), .ref (q_h G + 281), .null, .null, .null, .int (nI (0)), .int (nI (0)), .int (nI (0)), .null, .null, .null, .null, .int (nI (0)), .null, .null, .null, .int (nI (0)), .int (nI (0)), .int (nI (0)), .int (nI (0)), .null, .int (nI (0)), .int (nI (0)), .int (nI (0)), .int (nI (0)), .int (nI (0)), .int (nI (0)), .int (nI (0)), .int (nI (0)), .int (nI (0)), .int (nI (0)), .int (nI (0)), .null, .int (nI (0))]) := hc_15
  have hc_17 : σ_14 280 = q_an G 265 (fun _ => 0) := (hf_16 _ (by omega)).trans hc_12
  have hc_18 : σ_14 281 = q_an G 265 (fun _ => 0) := (hf_16 _ (by omega)).trans hc_10
  refine A_aload_n hg dX11_init_22 rfl rfl ?_
  refine A_sipush (v := (nI (265))) hg dX11_init_23 (by decide) ?_
  refine A_newa (t := 0) (N := 265) (a0 := (265, .inl (fun _ => nI 0))) hg (by decide) rfl (fun C h => by cases h) (q_mt 70 (by decide +kernel)) (fun _ => rfl) (by decide) (by decide) (by decide) (by decide) dX11_init_26 (fun σ_19 hc_20 hf_21 => ?_)
  have hc_20 : σ_19 282 = q_an G 265 (fun _ => 0) := hc_20
  have hc_22 : σ_19 280 = q_an G 265 (fun _ => 0) := (hf_21 _ (by omega)).trans hc_17
  have hc_23 : σ_19 281 = q_an G 265 (fun _ => 0) := (hf_21 _ (by omega)).trans hc_18
  have hc_24 : σ_19 279 = .inr (11, [.ref (q_h G + 280), .ref (q_h G + 281), .null, .null, .null, .int (nI (0)), .int (nI (0)), .int (nI (0)), .null, .null, .null, .null, .int (nI (0)), .null, .null, .null, .int (nI (0)), .int (nI (0)), .int (nI (0)), .int (nI (0)), .null, .int (nI (0)), .int (nI (0)), .int (nI (0)), .int (nI (0)), .int (nI (0)), .int (nI (0)), .int (nI (0)), .int (nI (0)), .int (nI (0)), .int (nI (0)), .int (nI (0)), .null, .int (nI (0))]) := (hf_21 _ (by omega)).trans hc_15
  refine A_putF (fs' := [.ref (q_h G + 280), .ref (q_h G + 281), .ref (q_h G + 282), .null, .null, .int (nI (0)), .int (nI (0)), .int (nI (0)), .null, .null, .null, .null, .int (nI (0)), .null, .null, .null, .int (nI (0)), .int (nI (0)), .int (nI (0)), .int (nI (0)), .null, .int (nI (0)), .int (nI (0)), .int (nI (0)), .int (nI (0)), .int (nI (0)), .int (nI (0)), .int (nI (0)), .int (nI (0)), .int (nI (0)), .int (nI (0)), .int (nI (0)), .null, .int (nI (0))]) hg fl_RX11_16 hme rfl (by intro C T N h; cases h; exact q_mt 1420 (by decide +kernel)) dX11_init_28 hc_24 (by omega) (Nat.le_of_ble_eq_true rfl) rfl rfl rfl (fun σ_25 hc_26 hf_27 => ?_)
  have hc_26 : σ_25 279 = .inr (11, [.ref (q_h G + 280), .ref (q_h G + 281), .ref (q_h G + 282), .null, .null, .int (nI (0)), .int (nI (0)), .int (nI (0)), .null, .null, .null, .null, .int (nI (0)), .null, .null, .null, .int (nI (0)), .int (nI (0)), .int (nI (0)), .int (nI (0)), .null, .int (nI (0)), .int (nI (0)), .int (nI (0)), .int (nI (0)), .int (nI (0)), .int (nI (0)), .int (nI (0)), .int (nI (0)), .int (nI (0)), .int (nI (0)), .int (nI (0)), .null, .int (nI (0))]) := hc_26
  have hc_28 : σ_25 280 = q_an G 265 (fun _ => 0) := (hf_27 _ (by omega)).trans hc_22
  have hc_29 : σ_25 281 = q_an G 265 (fun _ => 0) := (hf_27 _ (by omega)).trans hc_23
  have hc_30 : σ_25 282 = q_an G 265 (fun _ => 0) := (hf_27 _ (by omega)).trans hc_20
  refine A_aload_n hg dX11_init_31 rfl rfl ?_
  refine A_sipush (v := (nI (530))) hg dX11_init_32 (by decide) ?_
  refine A_newa (t := 0) (N := 530) (a0 := (530, .inl (fun _ => nI 0))) hg (by decide) rfl (fun C h => by cases h) (q_mt 70 (by decide +kernel)) (fun _ => rfl) (by decide) (by decide) (by decide) (by decide) dX11_init_35 (fun σ_31 hc_32 hf_33 => ?_)
  have hc_32 : σ_31 283 = q_an G 530 (fun _ => 0) := hc_32
  have hc_34 : σ_31 280 = q_an G 265 (fun _ => 0) := (hf_33 _ (by omega)).trans hc_28
  have hc_35 : σ_31 281 = q_an G 265 (fun _ => 0) := (hf_33 _ (by omega)).trans hc_29
  have hc_36 : σ_31 282 = q_an G 265 (fun _ => 0) := (hf_33 _ (by omega)).trans hc_30
  have hc_37 : σ_31 279 = .inr (11, [.ref (q_h G + 280), .ref (q_h G + 281), .ref (q_h G + 282), .null, .null, .int (nI (0)), .int (nI (0)), .int (nI (0)), .null, .null, .null, .null, .int (nI (0)), .null, .null, .null, .int (nI (0)), .int (nI (0)), .int (nI (0)), .int (nI (0)), .null, .int (nI (0)), .int (nI (0)), .int (nI (0)), .int (nI (0)), .int (nI (0)), .int (nI (0)), .int (nI (0)), .int (nI (0)), .int (nI (0)), .int (nI (0)), .int (nI (0)), .null, .int (nI (0))]) := (hf_33 _ (by omega)).trans hc_26
  refine A_putF (fs' := [.ref (q_h G + 280), .ref (q_h G + 281), .ref (q_h G + 282), .ref (q_h G + 283), .null, .int (nI (0)), .int (nI (0)), .int (nI (0)), .null, .null, .null, .null, .int (nI (0)), .null, .null, .null, .int (nI (0)), .int (nI (0)), .int (nI (0)), .int (nI (0)), .null, .int (nI (0)), .int (nI (0)), .int (nI (0)), .int (nI (0)), .int (nI (0)), .int (nI (0)), .int (nI (0)), .int (nI (0)), .int (nI (0)), .int (nI (0)), .int (nI (0)), .null, .int (nI (0))]) hg fl_RX11_19 hme rfl (by intro C T N h; cases h; exact q_mt 1421 (by decide +kernel)) dX11_init_37 hc_37 (by omega) (Nat.le_of_ble_eq_true rfl) rfl rfl rfl (fun σ_38 hc_39 hf_40 => ?_)
  have hc_39 : σ_38 279 = .inr (11, [.ref (q_h G + 280), .ref (q_h G + 281), .ref (q_h G + 282), .ref (q_h G + 283), .null, .int (nI (0)), .int (nI (0)), .int (nI (0)), .null, .null, .null, .null, .int (nI (0)), .null, .null, .null, .int (nI (0)), .int (nI (0)), .int (nI (0)), .int (nI (0)), .null, .int (nI (0)), .int (nI (0)), .int (nI (0)), .int (nI (0)), .int (nI (0)), .int (nI (0)), .int (nI (0)), .int (nI (0)), .int (nI (0)), .int (nI (0)), .int (nI (0)), .null, .int (nI (0))]) := hc_39
  have hc_41 : σ_38 280 = q_an G 265 (fun _ => 0) := (hf_40 _ (by omega)).trans hc_34
  have hc_42 : σ_38 281 = q_an G 265 (fun _ => 0) := (hf_40 _ (by omega)).trans hc_35
  have hc_43 : σ_38 282 = q_an G 265 (fun _ => 0) := (hf_40 _ (by omega)).trans hc_36
  have hc_44 : σ_38 283 = q_an G 530 (fun _ => 0) := (hf_40 _ (by omega)).trans hc_32
  refine A_aload_n hg dX11_init_40 rfl rfl ?_
  refine A_sipush (v := (nI (2120))) hg dX11_init_41 (by decide) ?_
  refine A_newa (t := 0) (N := 2120) (a0 := (2120, .inl (fun _ => nI 0))) hg (by decide) rfl (fun C h => by cases h) (q_mt 70 (by decide +kernel)) (fun _ => rfl) (by decide) (by decide) (by decide) (by decide) dX11_init_44 (fun σ_45 hc_46 hf_47 => ?_)
  have hc_46 : σ_45 284 = q_an G 2120 (fun _ => 0) := hc_46
  have hc_48 : σ_45 280 = q_an G 265 (fun _ => 0) := (hf_47 _ (by omega)).trans hc_41
  have hc_49 : σ_45 281 = q_an G 265 (fun _ => 0) := (hf_47 _ (by omega)).trans hc_42
  have hc_50 : σ_45 282 = q_an G 265 (fun _ => 0) := (hf_47 _ (by omega)).trans hc_43
  have hc_51 : σ_45 283 = q_an G 530 (fun _ => 0) := (hf_47 _ (by omega)).trans hc_44
  have hc_52 : σ_45 279 = .inr (11, [.ref (q_h G + 280), .ref (q_h G + 281), .ref (q_h G + 282), .ref (q_h G + 283), .null, .int (nI (0)), .int (nI (0)), .int (nI (0)), .null, .null, .null, .null, .int (nI (0)), .null, .null, .null, .int (nI (0)), .int (nI (0)), .int (nI (0)), .int (nI (0)), .null, .int (nI (0)), .int (nI (0)), .int (nI (0)), .int (nI (0)), .int (nI (0)), .int (nI (0)), .int (nI (0)), .int (nI (0)), .int (nI (0)), .int (nI (0)), .int (nI (0)), .null, .int (nI (0))]) := (hf_47 _ (by omega)).trans hc_39
  refine A_putF (fs' := [.ref (q_h G + 280), .ref (q_h G + 281), .ref (q_h G + 282), .ref (q_h G + 283), .ref (q_h G + 284), .int (nI (0)), .int (nI (0)), .int (nI (0)), .null, .null, .null, .null, .int (nI (0)), .null, .null, .null, .int (nI (0)), .int (nI (0)), .int (nI (0)), .int (nI (0)), .null, .int (nI (0)), .int (nI (0)), .int (nI (0)), .int (nI (0)), .int (nI (0)), .int (nI (0)), .int (nI (0)), .int (nI (0)), .int (nI (0)), .int (nI (0)), .int (nI (0)), .null, .int (nI (0))]) hg fl_RX11_22 hme rfl (by intro C T N h; cases h; exact q_mt 1422 (by decide +kernel)) dX11_init_46 hc_52 (by omega) (Nat.le_of_ble_eq_true rfl) rfl rfl rfl (fun σ_53 hc_54 hf_55 => ?_)
  have hc_54 : σ_53 279 = .inr (11, [.ref (q_h G + 280), .ref (q_h G + 281), .ref (q_h G + 282), .ref (q_h G + 283), .ref (q_h G + 284), .int (nI (0)), .int (nI (0)), .int (nI (0)), .null, .null, .null, .null, .int (nI (0)), .null, .null, .null, .int (nI (0)), .int (nI (0)), .int (nI (0)), .int (nI (0)), .null, .int (nI (0)), .int (nI (0)), .int (nI (0)), .int (nI (0)), .int (nI (0)), .int (nI (0)), .int (nI (0)), .int (nI (0)), .int (nI (0)), .int (nI (0)), .int (nI (0)), .null, .int (nI (0))]) := hc_54
  have hc_56 : σ_53 280 = q_an G 265 (fun _ => 0) := (hf_55 _ (by omega)).trans hc_48
  have hc_57 : σ_53 281 = q_an G 265 (fun _ => 0) := (hf_55 _ (by omega)).trans hc_49
  have hc_58 : σ_53 282 = q_an G 265 (fun _ => 0) := (hf_55 _ (by omega)).trans hc_50
  have hc_59 : σ_53 283 = q_an G 530 (fun _ => 0) := (hf_55 _ (by omega)).trans hc_51
  have hc_60 : σ_53 284 = q_an G 2120 (fun _ => 0) := (hf_55 _ (by omega)).trans hc_46
  refine A_aload_n hg dX11_init_49 rfl rfl ?_
  refine A_sipush (v := (nI (1681))) hg dX11_init_50 (by decide) ?_
  refine A_newa (t := 1) (N := 1681) (a0 := (1681, .inl (fun _ => nI 0))) hg (by decide) rfl (fun C h => by cases h) (q_mt 478 (by decide +kernel)) (fun _ => rfl) (by decide) (by decide) (by decide) (by decide) dX11_init_53 (fun σ_61 hc_62 hf_63 => ?_)
  have hc_62 : σ_61 285 = q_bn G 1681 (fun _ => 0) := hc_62
  have hc_64 : σ_61 280 = q_an G 265 (fun _ => 0) := (hf_63 _ (by omega)).trans hc_56
  have hc_65 : σ_61 281 = q_an G 265 (fun _ => 0) := (hf_63 _ (by omega)).trans hc_57
  have hc_66 : σ_61 282 = q_an G 265 (fun _ => 0) := (hf_63 _ (by omega)).trans hc_58
  have hc_67 : σ_61 283 = q_an G 530 (fun _ => 0) := (hf_63 _ (by omega)).trans hc_59
  have hc_68 : σ_61 284 = q_an G 2120 (fun _ => 0) := (hf_63 _ (by omega)).trans hc_60
  have hc_69 : σ_61 279 = .inr (11, [.ref (q_h G + 280), .ref (q_h G + 281), .ref (q_h G + 282), .ref (q_h G + 283), .ref (q_h G + 284), .int (nI (0)), .int (nI (0)), .int (nI (0)), .null, .null, .null, .null, .int (nI (0)), .null, .null, .null, .int (nI (0)), .int (nI (0)), .int (nI (0)), .int (nI (0)), .null, .int (nI (0)), .int (nI (0)), .int (nI (0)), .int (nI (0)), .int (nI (0)), .int (nI (0)), .int (nI (0)), .int (nI (0)), .int (nI (0)), .int (nI (0)), .int (nI (0)), .null, .int (nI (0))]) := (hf_63 _ (by omega)).trans hc_54
  refine A_putF (fs' := [.ref (q_h G + 280), .ref (q_h G + 281), .ref (q_h G + 282), .ref (q_h G + 283), .ref (q_h G + 284), .int (nI (0)), .int (nI (0)), .int (nI (0)), .ref (q_h G + 285), .null, .null, .null, .int (nI (0)), .null, .null, .null, .int (nI (0)), .int (nI (0)), .int (nI (0)), .int (nI (0)), .null, .int (nI (0)), .int (nI (0)), .int (nI (0)), .int (nI (0)), .int (nI (0)), .int (nI (0)), .int (nI (0)), .int (nI (0)), .int (nI (0)), .int (nI (0)), .int (nI (0)), .null, .int (nI (0))]) hg fl_RX11_25 hme rfl (by intro C T N h; cases h; exact q_mt 1426 (by decide +kernel)) dX11_init_55 hc_69 (by omega) (Nat.le_of_ble_eq_true rfl) rfl rfl rfl (fun σ_70 hc_71 hf_72 => ?_)
  have hc_71 : σ_70 279 = .inr (11, [.ref (q_h G + 280), .ref (q_h G + 281), .ref (q_h G + 282), .ref (q_h G + 283), .ref (q_h G + 284), .int (nI (0)), .int (nI (0)), .int (nI (0)), .ref (q_h G + 285), .null, .null, .null, .int (nI (0)), .null, .null, .null, .int (nI (0)), .int (nI (0)), .int (nI (0)), .int (nI (0)), .null, .int (nI (0)), .int (nI (0)), .int (nI (0)), .int (nI (0)), .int (nI (0)), .int (nI (0)), .int (nI (0)), .int (nI (0)), .int (nI (0)), .int (nI (0)), .int (nI (0)), .null, .int (nI (0))]) := hc_71
  have hc_73 : σ_70 280 = q_an G 265 (fun _ => 0) := (hf_72 _ (by omega)).trans hc_64
  have hc_74 : σ_70 281 = q_an G 265 (fun _ => 0) := (hf_72 _ (by omega)).trans hc_65
  have hc_75 : σ_70 282 = q_an G 265 (fun _ => 0) := (hf_72 _ (by omega)).trans hc_66
  have hc_76 : σ_70 283 = q_an G 530 (fun _ => 0) := (hf_72 _ (by omega)).trans hc_67
  have hc_77 : σ_70 284 = q_an G 2120 (fun _ => 0) := (hf_72 _ (by omega)).trans hc_68
  have hc_78 : σ_70 285 = q_bn G 1681 (fun _ => 0) := (hf_72 _ (by omega)).trans hc_62
  refine A_aload_n hg dX11_init_58 rfl rfl ?_
  refine A_sipush (v := (nI (1681))) hg dX11_init_59 (by decide) ?_
  refine A_newa (t := 0) (N := 1681) (a0 := (1681, .inl (fun _ => nI 0))) hg (by decide) rfl (fun C h => by cases h) (q_mt 70 (by decide +kernel)) (fun _ => rfl) (by decide) (by decide) (by decide) (by decide) dX11_init_62 (fun σ_79 hc_80 hf_81 => ?_)
  have hc_80 : σ_79 286 = q_an G 1681 (fun _ => 0) := hc_80
  have hc_82 : σ_79 280 = q_an G 265 (fun _ => 0) := (hf_81 _ (by omega)).trans hc_73
  have hc_83 : σ_79 281 = q_an G 265 (fun _ => 0) := (hf_81 _ (by omega)).trans hc_74
  have hc_84 : σ_79 282 = q_an G 265 (fun _ => 0) := (hf_81 _ (by omega)).trans hc_75
  have hc_85 : σ_79 283 = q_an G 530 (fun _ => 0) := (hf_81 _ (by omega)).trans hc_76
  have hc_86 : σ_79 284 = q_an G 2120 (fun _ => 0) := (hf_81 _ (by omega)).trans hc_77
  have hc_87 : σ_79 285 = q_bn G 1681 (fun _ => 0) := (hf_81 _ (by omega)).trans hc_78
  have hc_88 : σ_79 279 = .inr (11, [.ref (q_h G + 280), .ref (q_h G + 281), .ref (q_h G + 282), .ref (q_h G + 283), .ref (q_h G + 284), .int (nI (0)), .int (nI (0)), .int (nI (0)), .ref (q_h G + 285), .null, .null, .null, .int (nI (0)), .null, .null, .null, .int (nI (0)), .int (nI (0)), .int (nI (0)), .int (nI (0)), .null, .int (nI (0)), .int (nI (0)), .int (nI (0)), .int (nI (0)), .int (nI (0)), .int (nI (0)), .int (nI (0)), .int (nI (0)), .int (nI (0)), .int (nI (0)), .int (nI (0)), .null, .int (nI (0))]) := (hf_81 _ (by omega)).trans hc_71
  refine A_putF (fs' := [.ref (q_h G + 280), .ref (q_h G + 281), .ref (q_h G + 282), .ref (q_h G + 283), .ref (q_h G + 284), .int (nI (0)), .int (nI (0)), .int (nI (0)), .ref (q_h G + 285), .ref (q_h G + 286), .null, .null, .int (nI (0)), .null, .null, .null, .int (nI (0)), .int (nI (0)), .int (nI (0)), .int (nI (0)), .null, .int (nI (0)), .int (nI (0)), .int (nI (0)), .int (nI (0)), .int (nI (0)), .int (nI (0)), .int (nI (0)), .int (nI (0)), .int (nI (0)), .int (nI (0)), .int (nI (0)), .null, .int (nI (0))]) hg fl_RX11_29 hme rfl (by intro C T N h; cases h; exact q_mt 1427 (by decide +kernel)) dX11_init_64 hc_88 (by omega) (Nat.le_of_ble_eq_true rfl) rfl rfl rfl (fun σ_89 hc_90 hf_91 => ?_)
  have hc_90 : σ_89 279 = .inr (11, [.ref (q_h G + 280), .ref (q_h G + 281), .ref (q_h G + 282), .ref (q_h G + 283), .ref (q_h G + 284), .int (nI (0)), .int (nI (0)), .int (nI (0)), .ref (q_h G + 285), .ref (q_h G + 286), .null, .null, .int (nI (0)), .null, .null, .null, .int (nI (0)), .int (nI (0)), .int (nI (0)), .int (nI (0)), .null, .int (nI (0)), .int (nI (0)), .int (nI (0)), .int (nI (0)), .int (nI (0)), .int (nI (0)), .int (nI (0)), .int (nI (0)), .int (nI (0)), .int (nI (0)), .int (nI (0)), .null, .int (nI (0))]) := hc_90
  have hc_92 : σ_89 280 = q_an G 265 (fun _ => 0) := (hf_91 _ (by omega)).trans hc_82
  have hc_93 : σ_89 281 = q_an G 265 (fun _ => 0) := (hf_91 _ (by omega)).trans hc_83
  have hc_94 : σ_89 282 = q_an G 265 (fun _ => 0) := (hf_91 _ (by omega)).trans hc_84
  have hc_95 : σ_89 283 = q_an G 530 (fun _ => 0) := (hf_91 _ (by omega)).trans hc_85
  have hc_96 : σ_89 284 = q_an G 2120 (fun _ => 0) := (hf_91 _ (by omega)).trans hc_86
  have hc_97 : σ_89 285 = q_bn G 1681 (fun _ => 0) := (hf_91 _ (by omega)).trans hc_87
  have hc_98 : σ_89 286 = q_an G 1681 (fun _ => 0) := (hf_91 _ (by omega)).trans hc_80
  refine A_aload_n hg dX11_init_67 rfl rfl ?_
  refine A_sipush (v := (nI (1681))) hg dX11_init_68 (by decide) ?_
  refine A_newa (t := 0) (N := 1681) (a0 := (1681, .inl (fun _ => nI 0))) hg (by decide) rfl (fun C h => by cases h) (q_mt 70 (by decide +kernel)) (fun _ => rfl) (by decide) (by decide) (by decide) (by decide) dX11_init_71 (fun σ_99 hc_100 hf_101 => ?_)
  have hc_100 : σ_99 287 = q_an G 1681 (fun _ => 0) := hc_100
  have hc_102 : σ_99 280 = q_an G 265 (fun _ => 0) := (hf_101 _ (by omega)).trans hc_92
  have hc_103 : σ_99 281 = q_an G 265 (fun _ => 0) := (hf_101 _ (by omega)).trans hc_93
  have hc_104 : σ_99 282 = q_an G 265 (fun _ => 0) := (hf_101 _ (by omega)).trans hc_94
  have hc_105 : σ_99 283 = q_an G 530 (fun _ => 0) := (hf_101 _ (by omega)).trans hc_95
  have hc_106 : σ_99 284 = q_an G 2120 (fun _ => 0) := (hf_101 _ (by omega)).trans hc_96
  have hc_107 : σ_99 285 = q_bn G 1681 (fun _ => 0) := (hf_101 _ (by omega)).trans hc_97
  have hc_108 : σ_99 286 = q_an G 1681 (fun _ => 0) := (hf_101 _ (by omega)).trans hc_98
  have hc_109 : σ_99 279 = .inr (11, [.ref (q_h G + 280), .ref (q_h G + 281), .ref (q_h G + 282), .ref (q_h G + 283), .ref (q_h G + 284), .int (nI (0)), .int (nI (0)), .int (nI (0)), .ref (q_h G + 285), .ref (q_h G + 286), .null, .null, .int (nI (0)), .null, .null, .null, .int (nI (0)), .int (nI (0)), .int (nI (0)), .int (nI (0)), .null, .int (nI (0)), .int (nI (0)), .int (nI (0)), .int (nI (0)), .int (nI (0)), .int (nI (0)), .int (nI (0)), .int (nI (0)), .int (nI (0)), .int (nI (0)), .int (nI (0)), .null, .int (nI (0))]) := (hf_101 _ (by omega)).trans hc_90
  refine A_putF (fs' := [.ref (q_h G + 280), .ref (q_h G + 281), .ref (q_h G + 282), .ref (q_h G + 283), .ref (q_h G + 284), .int (nI (0)), .int (nI (0)), .int (nI (0)), .ref (q_h G + 285), .ref (q_h G + 286), .ref (q_h G + 287), .null, .int (nI (0)), .null, .null, .null, .int (nI (0)), .int (nI (0)), .int (nI (0)), .int (nI (0)), .null, .int (nI (0)), .int (nI (0)), .int (nI (0)), .int (nI (0)), .int (nI (0)), .int (nI (0)), .int (nI (0)), .int (nI (0)), .int (nI (0)), .int (nI (0)), .int (nI (0)), .null, .int (nI (0))]) hg fl_RX11_32 hme rfl (by intro C T N h; cases h; exact q_mt 1428 (by decide +kernel)) dX11_init_73 hc_109 (by omega) (Nat.le_of_ble_eq_true rfl) rfl rfl rfl (fun σ_110 hc_111 hf_112 => ?_)
  have hc_111 : σ_110 279 = .inr (11, [.ref (q_h G + 280), .ref (q_h G + 281), .ref (q_h G + 282), .ref (q_h G + 283), .ref (q_h G + 284), .int (nI (0)), .int (nI (0)), .int (nI (0)), .ref (q_h G + 285), .ref (q_h G + 286), .ref (q_h G + 287), .null, .int (nI (0)), .null, .null, .null, .int (nI (0)), .int (nI (0)), .int (nI (0)), .int (nI (0)), .null, .int (nI (0)), .int (nI (0)), .int (nI (0)), .int (nI (0)), .int (nI (0)), .int (nI (0)), .int (nI (0)), .int (nI (0)), .int (nI (0)), .int (nI (0)), .int (nI (0)), .null, .int (nI (0))]) := hc_111
  have hc_113 : σ_110 280 = q_an G 265 (fun _ => 0) := (hf_112 _ (by omega)).trans hc_102
  have hc_114 : σ_110 281 = q_an G 265 (fun _ => 0) := (hf_112 _ (by omega)).trans hc_103
  have hc_115 : σ_110 282 = q_an G 265 (fun _ => 0) := (hf_112 _ (by omega)).trans hc_104
  have hc_116 : σ_110 283 = q_an G 530 (fun _ => 0) := (hf_112 _ (by omega)).trans hc_105
  have hc_117 : σ_110 284 = q_an G 2120 (fun _ => 0) := (hf_112 _ (by omega)).trans hc_106
  have hc_118 : σ_110 285 = q_bn G 1681 (fun _ => 0) := (hf_112 _ (by omega)).trans hc_107
  have hc_119 : σ_110 286 = q_an G 1681 (fun _ => 0) := (hf_112 _ (by omega)).trans hc_108
  have hc_120 : σ_110 287 = q_an G 1681 (fun _ => 0) := (hf_112 _ (by omega)).trans hc_100
  refine A_aload_n hg dX11_init_76 rfl rfl ?_
  refine A_sipush (v := (nI (2000))) hg dX11_init_77 (by decide) ?_
  refine A_newa (t := 0) (N := 2000) (a0 := (2000, .inl (fun _ => nI 0))) hg (by decide) rfl (fun C h => by cases h) (q_mt 70 (by decide +kernel)) (fun _ => rfl) (by decide) (by decide) (by decide) (by decide) dX11_init_80 (fun σ_121 hc_122 hf_123 => ?_)
  have hc_122 : σ_121 288 = q_an G 2000 (fun _ => 0) := hc_122
  have hc_124 : σ_121 280 = q_an G 265 (fun _ => 0) := (hf_123 _ (by omega)).trans hc_113
  have hc_125 : σ_121 281 = q_an G 265 (fun _ => 0) := (hf_123 _ (by omega)).trans hc_114
  have hc_126 : σ_121 282 = q_an G 265 (fun _ => 0) := (hf_123 _ (by omega)).trans hc_115
  have hc_127 : σ_121 283 = q_an G 530 (fun _ => 0) := (hf_123 _ (by omega)).trans hc_116
  have hc_128 : σ_121 284 = q_an G 2120 (fun _ => 0) := (hf_123 _ (by omega)).trans hc_117
  have hc_129 : σ_121 285 = q_bn G 1681 (fun _ => 0) := (hf_123 _ (by omega)).trans hc_118
  have hc_130 : σ_121 286 = q_an G 1681 (fun _ => 0) := (hf_123 _ (by omega)).trans hc_119
  have hc_131 : σ_121 287 = q_an G 1681 (fun _ => 0) := (hf_123 _ (by omega)).trans hc_120
  have hc_132 : σ_121 279 = .inr (11, [.ref (q_h G + 280), .ref (q_h G + 281), .ref (q_h G + 282), .ref (q_h G + 283), .ref (q_h G + 284), .int (nI (0)), .int (nI (0)), .int (nI (0)), .ref (q_h G + 285), .ref (q_h G + 286), .ref (q_h G + 287), .null, .int (nI (0)), .null, .null, .null, .int (nI (0)), .int (nI (0)), .int (nI (0)), .int (nI (0)), .null, .int (nI (0)), .int (nI (0)), .int (nI (0)), .int (nI (0)), .int (nI (0)), .int (nI (0)), .int (nI (0)), .int (nI (0)), .int (nI (0)), .int (nI (0)), .int (nI (0)), .null, .int (nI (0))]) := (hf_123 _ (by omega)).trans hc_111
  refine A_putF (fs' := [.ref (q_h G + 280), .ref (q_h G + 281), .ref (q_h G + 282), .ref (q_h G + 283), .ref (q_h G + 284), .int (nI (0)), .int (nI (0)), .int (nI (0)), .ref (q_h G + 285), .ref (q_h G + 286), .ref (q_h G + 287), .ref (q_h G + 288), .int (nI (0)), .null, .null, .null, .int (nI (0)), .int (nI (0)), .int (nI (0)), .int (nI (0)), .null, .int (nI (0)), .int (nI (0)), .int (nI (0)), .int (nI (0)), .int (nI (0)), .int (nI (0)), .int (nI (0)), .int (nI (0)), .int (nI (0)), .int (nI (0)), .int (nI (0)), .null, .int (nI (0))]) hg fl_RX11_35 hme rfl (by intro C T N h; cases h; exact q_mt 1429 (by decide +kernel)) dX11_init_82 hc_132 (by omega) (Nat.le_of_ble_eq_true rfl) rfl rfl rfl (fun σ_133 hc_134 hf_135 => ?_)
  have hc_134 : σ_133 279 = .inr (11, [.ref (q_h G + 280), .ref (q_h G + 281), .ref (q_h G + 282), .ref (q_h G + 283), .ref (q_h G + 284), .int (nI (0)), .int (nI (0)), .int (nI (0)), .ref (q_h G + 285), .ref (q_h G + 286), .ref (q_h G + 287), .ref (q_h G + 288), .int (nI (0)), .null, .null, .null, .int (nI (0)), .int (nI (0)), .int (nI (0)), .int (nI (0)), .null, .int (nI (0)), .int (nI (0)), .int (nI (0)), .int (nI (0)), .int (nI (0)), .int (nI (0)), .int (nI (0)), .int (nI (0)), .int (nI (0)), .int (nI (0)), .int (nI (0)), .null, .int (nI (0))]) := hc_134
  have hc_136 : σ_133 280 = q_an G 265 (fun _ => 0) := (hf_135 _ (by omega)).trans hc_124
  have hc_137 : σ_133 281 = q_an G 265 (fun _ => 0) := (hf_135 _ (by omega)).trans hc_125
  have hc_138 : σ_133 282 = q_an G 265 (fun _ => 0) := (hf_135 _ (by omega)).trans hc_126
  have hc_139 : σ_133 283 = q_an G 530 (fun _ => 0) := (hf_135 _ (by omega)).trans hc_127
  have hc_140 : σ_133 284 = q_an G 2120 (fun _ => 0) := (hf_135 _ (by omega)).trans hc_128
  have hc_141 : σ_133 285 = q_bn G 1681 (fun _ => 0) := (hf_135 _ (by omega)).trans hc_129
  have hc_142 : σ_133 286 = q_an G 1681 (fun _ => 0) := (hf_135 _ (by omega)).trans hc_130
  have hc_143 : σ_133 287 = q_an G 1681 (fun _ => 0) := (hf_135 _ (by omega)).trans hc_131
  have hc_144 : σ_133 288 = q_an G 2000 (fun _ => 0) := (hf_135 _ (by omega)).trans hc_122
  refine A_aload_n hg dX11_init_85 rfl rfl ?_
  refine A_sipush (v := (nI (6724))) hg dX11_init_86 (by decide) ?_
  refine A_newa (t := 0) (N := 6724) (a0 := (6724, .inl (fun _ => nI 0))) hg (by decide) rfl (fun C h => by cases h) (q_mt 70 (by decide +kernel)) (fun _ => rfl) (by decide) (by decide) (by decide) (by decide) dX11_init_89 (fun σ_145 hc_146 hf_147 => ?_)
  have hc_146 : σ_145 289 = q_an G 6724 (fun _ => 0) := hc_146
  have hc_148 : σ_145 280 = q_an G 265 (fun _ => 0) := (hf_147 _ (by omega)).trans hc_136
  have hc_149 : σ_145 281 = q_an G 265 (fun _ => 0) := (hf_147 _ (by omega)).trans hc_137
  have hc_150 : σ_145 282 = q_an G 265 (fun _ => 0) := (hf_147 _ (by omega)).trans hc_138
  have hc_151 : σ_145 283 = q_an G 530 (fun _ => 0) := (hf_147 _ (by omega)).trans hc_139
  have hc_152 : σ_145 284 = q_an G 2120 (fun _ => 0) := (hf_147 _ (by omega)).trans hc_140
  have hc_153 : σ_145 285 = q_bn G 1681 (fun _ => 0) := (hf_147 _ (by omega)).trans hc_141
  have hc_154 : σ_145 286 = q_an G 1681 (fun _ => 0) := (hf_147 _ (by omega)).trans hc_142
  have hc_155 : σ_145 287 = q_an G 1681 (fun _ => 0) := (hf_147 _ (by omega)).trans hc_143
  have hc_156 : σ_145 288 = q_an G 2000 (fun _ => 0) := (hf_147 _ (by omega)).trans hc_144
  have hc_157 : σ_145 279 = .inr (11, [.ref (q_h G + 280), .ref (q_h G + 281), .ref (q_h G + 282), .ref (q_h G + 283), .ref (q_h G + 284), .int (nI (0)), .int (nI (0)), .int (nI (0)), .ref (q_h G + 285), .ref (q_h G + 286), .ref (q_h G + 287), .ref (q_h G + 288), .int (nI (0)), .null, .null, .null, .int (nI (0)), .int (nI (0)), .int (nI (0)), .int (nI (0)), .null, .int (nI (0)), .int (nI (0)), .int (nI (0)), .int (nI (0)), .int (nI (0)), .int (nI (0)), .int (nI (0)), .int (nI (0)), .int (nI (0)), .int (nI (0)), .int (nI (0)), .null, .int (nI (0))]) := (hf_147 _ (by omega)).trans hc_134
  refine A_putF (fs' := [.ref (q_h G + 280), .ref (q_h G + 281), .ref (q_h G + 282), .ref (q_h G + 283), .ref (q_h G + 284), .int (nI (0)), .int (nI (0)), .int (nI (0)), .ref (q_h G + 285), .ref (q_h G + 286), .ref (q_h G + 287), .ref (q_h G + 288), .int (nI (0)), .ref (q_h G + 289), .null, .null, .int (nI (0)), .int (nI (0)), .int (nI (0)), .int (nI (0)), .null, .int (nI (0)), .int (nI (0)), .int (nI (0)), .int (nI (0)), .int (nI (0)), .int (nI (0)), .int (nI (0)), .int (nI (0)), .int (nI (0)), .int (nI (0)), .int (nI (0)), .null, .int (nI (0))]) hg fl_RX11_38 hme rfl (by intro C T N h; cases h; exact q_mt 1431 (by decide +kernel)) dX11_init_91 hc_157 (by omega) (Nat.le_of_ble_eq_true rfl) rfl rfl rfl (fun σ_158 hc_159 hf_160 => ?_)
  have hc_159 : σ_158 279 = .inr (11, [.ref (q_h G + 280), .ref (q_h G + 281), .ref (q_h G + 282), .ref (q_h G + 283), .ref (q_h G + 284), .int (nI (0)), .int (nI (0)), .int (nI (0)), .ref (q_h G + 285), .ref (q_h G + 286), .ref (q_h G + 287), .ref (q_h G + 288), .int (nI (0)), .ref (q_h G + 289), .null, .null, .int (nI (0)), .int (nI (0)), .int (nI (0)), .int (nI (0)), .null, .int (nI (0)), .int (nI (0)), .int (nI (0)), .int (nI (0)), .int (nI (0)), .int (nI (0)), .int (nI (0)), .int (nI (0)), .int (nI (0)), .int (nI (0)), .int (nI (0)), .null, .int (nI (0))]) := hc_159
  have hc_161 : σ_158 280 = q_an G 265 (fun _ => 0) := (hf_160 _ (by omega)).trans hc_148
  have hc_162 : σ_158 281 = q_an G 265 (fun _ => 0) := (hf_160 _ (by omega)).trans hc_149
  have hc_163 : σ_158 282 = q_an G 265 (fun _ => 0) := (hf_160 _ (by omega)).trans hc_150
  have hc_164 : σ_158 283 = q_an G 530 (fun _ => 0) := (hf_160 _ (by omega)).trans hc_151
  have hc_165 : σ_158 284 = q_an G 2120 (fun _ => 0) := (hf_160 _ (by omega)).trans hc_152
  have hc_166 : σ_158 285 = q_bn G 1681 (fun _ => 0) := (hf_160 _ (by omega)).trans hc_153
  have hc_167 : σ_158 286 = q_an G 1681 (fun _ => 0) := (hf_160 _ (by omega)).trans hc_154
  have hc_168 : σ_158 287 = q_an G 1681 (fun _ => 0) := (hf_160 _ (by omega)).trans hc_155
  have hc_169 : σ_158 288 = q_an G 2000 (fun _ => 0) := (hf_160 _ (by omega)).trans hc_156
  have hc_170 : σ_158 289 = q_an G 6724 (fun _ => 0) := (hf_160 _ (by omega)).trans hc_146
  refine A_aload_n hg dX11_init_94 rfl rfl ?_
  refine A_sipush (v := (nI (6724))) hg dX11_init_95 (by decide) ?_
  refine A_newa (t := 0) (N := 6724) (a0 := (6724, .inl (fun _ => nI 0))) hg (by decide) rfl (fun C h => by cases h) (q_mt 70 (by decide +kernel)) (fun _ => rfl) (by decide) (by decide) (by decide) (by decide) dX11_init_98 (fun σ_171 hc_172 hf_173 => ?_)
  have hc_172 : σ_171 290 = q_an G 6724 (fun _ => 0) := hc_172
  have hc_174 : σ_171 280 = q_an G 265 (fun _ => 0) := (hf_173 _ (by omega)).trans hc_161
  have hc_175 : σ_171 281 = q_an G 265 (fun _ => 0) := (hf_173 _ (by omega)).trans hc_162
  have hc_176 : σ_171 282 = q_an G 265 (fun _ => 0) := (hf_173 _ (by omega)).trans hc_163
  have hc_177 : σ_171 283 = q_an G 530 (fun _ => 0) := (hf_173 _ (by omega)).trans hc_164
  have hc_178 : σ_171 284 = q_an G 2120 (fun _ => 0) := (hf_173 _ (by omega)).trans hc_165
  have hc_179 : σ_171 285 = q_bn G 1681 (fun _ => 0) := (hf_173 _ (by omega)).trans hc_166
  have hc_180 : σ_171 286 = q_an G 1681 (fun _ => 0) := (hf_173 _ (by omega)).trans hc_167
  have hc_181 : σ_171 287 = q_an G 1681 (fun _ => 0) := (hf_173 _ (by omega)).trans hc_168
  have hc_182 : σ_171 288 = q_an G 2000 (fun _ => 0) := (hf_173 _ (by omega)).trans hc_169
  have hc_183 : σ_171 289 = q_an G 6724 (fun _ => 0) := (hf_173 _ (by omega)).trans hc_170
  have hc_184 : σ_171 279 = .inr (11, [.ref (q_h G + 280), .ref (q_h G + 281), .ref (q_h G + 282), .ref (q_h G + 283), .ref (q_h G + 284), .int (nI (0)), .int (nI (0)), .int (nI (0)), .ref (q_h G + 285), .ref (q_h G + 286), .ref (q_h G + 287), .ref (q_h G + 288), .int (nI (0)), .ref (q_h G + 289), .null, .null, .int (nI (0)), .int (nI (0)), .int (nI (0)), .int (nI (0)), .null, .int (nI (0)), .int (nI (0)), .int (nI (0)), .int (nI (0)), .int (nI (0)), .int (nI (0)), .int (nI (0)), .int (nI (0)), .int (nI (0)), .int (nI (0)), .int (nI (0)), .null, .int (nI (0))]) := (hf_173 _ (by omega)).trans hc_159
  refine A_putF (fs' := [.ref (q_h G + 280), .ref (q_h G + 281), .ref (q_h G + 282), .ref (q_h G + 283), .ref (q_h G + 284), .int (nI (0)), .int (nI (0)), .int (nI (0)), .ref (q_h G + 285), .ref (q_h G + 286), .ref (q_h G + 287), .ref (q_h G + 288), .int (nI (0)), .ref (q_h G + 289), .ref (q_h G + 290), .null, .int (nI (0)), .int (nI (0)), .int (nI (0)), .int (nI (0)), .null, .int (nI (0)), .int (nI (0)), .int (nI (0)), .int (nI (0)), .int (nI (0)), .int (nI (0)), .int (nI (0)), .int (nI (0)), .int (nI (0)), .int (nI (0)), .int (nI (0)), .null, .int (nI (0))]) hg fl_RX11_41 hme rfl (by intro C T N h; cases h; exact q_mt 1432 (by decide +kernel)) dX11_init_100 hc_184 (by omega) (Nat.le_of_ble_eq_true rfl) rfl rfl rfl (fun σ_185 hc_186 hf_187 => ?_)
  have hc_186 : σ_185 279 = .inr (11, [.ref (q_h G + 280), .ref (q_h G + 281), .ref (q_h G + 282), .ref (q_h G + 283), .ref (q_h G + 284), .int (nI (0)), .int (nI (0)), .int (nI (0)), .ref (q_h G + 285), .ref (q_h G + 286), .ref (q_h G + 287), .ref (q_h G + 288), .int (nI (0)), .ref (q_h G + 289), .ref (q_h G + 290), .null, .int (nI (0)), .int (nI (0)), .int (nI (0)), .int (nI (0)), .null, .int (nI (0)), .int (nI (0)), .int (nI (0)), .int (nI (0)), .int (nI (0)), .int (nI (0)), .int (nI (0)), .int (nI (0)), .int (nI (0)), .int (nI (0)), .int (nI (0)), .null, .int (nI (0))]) := hc_186
  have hc_188 : σ_185 280 = q_an G 265 (fun _ => 0) := (hf_187 _ (by omega)).trans hc_174
  have hc_189 : σ_185 281 = q_an G 265 (fun _ => 0) := (hf_187 _ (by omega)).trans hc_175
  have hc_190 : σ_185 282 = q_an G 265 (fun _ => 0) := (hf_187 _ (by omega)).trans hc_176
  have hc_191 : σ_185 283 = q_an G 530 (fun _ => 0) := (hf_187 _ (by omega)).trans hc_177
  have hc_192 : σ_185 284 = q_an G 2120 (fun _ => 0) := (hf_187 _ (by omega)).trans hc_178
  have hc_193 : σ_185 285 = q_bn G 1681 (fun _ => 0) := (hf_187 _ (by omega)).trans hc_179
  have hc_194 : σ_185 286 = q_an G 1681 (fun _ => 0) := (hf_187 _ (by omega)).trans hc_180
  have hc_195 : σ_185 287 = q_an G 1681 (fun _ => 0) := (hf_187 _ (by omega)).trans hc_181
  have hc_196 : σ_185 288 = q_an G 2000 (fun _ => 0) := (hf_187 _ (by omega)).trans hc_182
  have hc_197 : σ_185 289 = q_an G 6724 (fun _ => 0) := (hf_187 _ (by omega)).trans hc_183
  have hc_198 : σ_185 290 = q_an G 6724 (fun _ => 0) := (hf_187 _ (by omega)).trans hc_172
  refine A_aload_n hg dX11_init_103 rfl rfl ?_
  refine A_bipush (v := (nI (80))) hg dX11_init_104 (by decide) ?_
  refine A_newa (t := 0) (N := 80) (a0 := (80, .inl (fun _ => nI 0))) hg (by decide) rfl (fun C h => by cases h) (q_mt 70 (by decide +kernel)) (fun _ => rfl) (by decide) (by decide) (by decide) (by decide) dX11_init_106 (fun σ_199 hc_200 hf_201 => ?_)
  have hc_200 : σ_199 291 = q_an G 80 (fun _ => 0) := hc_200
  have hc_202 : σ_199 280 = q_an G 265 (fun _ => 0) := (hf_201 _ (by omega)).trans hc_188
  have hc_203 : σ_199 281 = q_an G 265 (fun _ => 0) := (hf_201 _ (by omega)).trans hc_189
  have hc_204 : σ_199 282 = q_an G 265 (fun _ => 0) := (hf_201 _ (by omega)).trans hc_190
  have hc_205 : σ_199 283 = q_an G 530 (fun _ => 0) := (hf_201 _ (by omega)).trans hc_191
  have hc_206 : σ_199 284 = q_an G 2120 (fun _ => 0) := (hf_201 _ (by omega)).trans hc_192
  have hc_207 : σ_199 285 = q_bn G 1681 (fun _ => 0) := (hf_201 _ (by omega)).trans hc_193
  have hc_208 : σ_199 286 = q_an G 1681 (fun _ => 0) := (hf_201 _ (by omega)).trans hc_194
  have hc_209 : σ_199 287 = q_an G 1681 (fun _ => 0) := (hf_201 _ (by omega)).trans hc_195
  have hc_210 : σ_199 288 = q_an G 2000 (fun _ => 0) := (hf_201 _ (by omega)).trans hc_196
  have hc_211 : σ_199 289 = q_an G 6724 (fun _ => 0) := (hf_201 _ (by omega)).trans hc_197
  have hc_212 : σ_199 290 = q_an G 6724 (fun _ => 0) := (hf_201 _ (by omega)).trans hc_198
  have hc_213 : σ_199 279 = .inr (11, [.ref (q_h G + 280), .ref (q_h G + 281), .ref (q_h G + 282), .ref (q_h G + 283), .ref (q_h G + 284), .int (nI (0)), .int (nI (0)), .int (nI (0)), .ref (q_h G + 285), .ref (q_h G + 286), .ref (q_h G + 287), .ref (q_h G + 288), .int (nI (0)), .ref (q_h G + 289), .ref (q_h G + 290), .null, .int (nI (0)), .int (nI (0)), .int (nI (0)), .int (nI (0)), .null, .int (nI (0)), .int (nI (0)), .int (nI (0)), .int (nI (0)), .int (nI (0)), .int (nI (0)), .int (nI (0)), .int (nI (0)), .int (nI (0)), .int (nI (0)), .int (nI (0)), .null, .int (nI (0))]) := (hf_201 _ (by omega)).trans hc_186
  refine A_putF (fs' := [.ref (q_h G + 280), .ref (q_h G + 281), .ref (q_h G + 282), .ref (q_h G + 283), .ref (q_h G + 284), .int (nI (0)), .int (nI (0)), .int (nI (0)), .ref (q_h G + 285), .ref (q_h G + 286), .ref (q_h G + 287), .ref (q_h G + 288), .int (nI (0)), .ref (q_h G + 289), .ref (q_h G + 290), .ref (q_h G + 291), .int (nI (0)), .int (nI (0)), .int (nI (0)), .int (nI (0)), .null, .int (nI (0)), .int (nI (0)), .int (nI (0)), .int (nI (0)), .int (nI (0)), .int (nI (0)), .int (nI (0)), .int (nI (0)), .int (nI (0)), .int (nI (0)), .int (nI (0)), .null, .int (nI (0))]) hg fl_RX11_44 hme rfl (by intro C T N h; cases h; exact q_mt 1433 (by decide +kernel)) dX11_init_108 hc_213 (by omega) (Nat.le_of_ble_eq_true rfl) rfl rfl rfl (fun σ_214 hc_215 hf_216 => ?_)
  have hc_215 : σ_214 279 = .inr (11, [.ref (q_h G + 280), .ref (q_h G + 281), .ref (q_h G + 282), .ref (q_h G + 283), .ref (q_h G + 284), .int (nI (0)), .int (nI (0)), .int (nI (0)), .ref (q_h G + 285), .ref (q_h G + 286), .ref (q_h G + 287), .ref (q_h G + 288), .int (nI (0)), .ref (q_h G + 289), .ref (q_h G + 290), .ref (q_h G + 291), .int (nI (0)), .int (nI (0)), .int (nI (0)), .int (nI (0)), .null, .int (nI (0)), .int (nI (0)), .int (nI (0)), .int (nI (0)), .int (nI (0)), .int (nI (0)), .int (nI (0)), .int (nI (0)), .int (nI (0)), .int (nI (0)), .int (nI (0)), .null, .int (nI (0))]) := hc_215
  have hc_217 : σ_214 280 = q_an G 265 (fun _ => 0) := (hf_216 _ (by omega)).trans hc_202
  have hc_218 : σ_214 281 = q_an G 265 (fun _ => 0) := (hf_216 _ (by omega)).trans hc_203
  have hc_219 : σ_214 282 = q_an G 265 (fun _ => 0) := (hf_216 _ (by omega)).trans hc_204
  have hc_220 : σ_214 283 = q_an G 530 (fun _ => 0) := (hf_216 _ (by omega)).trans hc_205
  have hc_221 : σ_214 284 = q_an G 2120 (fun _ => 0) := (hf_216 _ (by omega)).trans hc_206
  have hc_222 : σ_214 285 = q_bn G 1681 (fun _ => 0) := (hf_216 _ (by omega)).trans hc_207
  have hc_223 : σ_214 286 = q_an G 1681 (fun _ => 0) := (hf_216 _ (by omega)).trans hc_208
  have hc_224 : σ_214 287 = q_an G 1681 (fun _ => 0) := (hf_216 _ (by omega)).trans hc_209
  have hc_225 : σ_214 288 = q_an G 2000 (fun _ => 0) := (hf_216 _ (by omega)).trans hc_210
  have hc_226 : σ_214 289 = q_an G 6724 (fun _ => 0) := (hf_216 _ (by omega)).trans hc_211
  have hc_227 : σ_214 290 = q_an G 6724 (fun _ => 0) := (hf_216 _ (by omega)).trans hc_212
  have hc_228 : σ_214 291 = q_an G 80 (fun _ => 0) := (hf_216 _ (by omega)).trans hc_200
  refine A_aload_n hg dX11_init_111 rfl rfl ?_
  refine A_sipush (v := (nI (600))) hg dX11_init_112 (by decide) ?_
  refine A_newa (t := 0) (N := 600) (a0 := (600, .inl (fun _ => nI 0))) hg (by decide) rfl (fun C h => by cases h) (q_mt 70 (by decide +kernel)) (fun _ => rfl) (by decide) (by decide) (by decide) (by decide) dX11_init_115 (fun σ_229 hc_230 hf_231 => ?_)
  have hc_230 : σ_229 292 = q_an G 600 (fun _ => 0) := hc_230
  have hc_232 : σ_229 280 = q_an G 265 (fun _ => 0) := (hf_231 _ (by omega)).trans hc_217
  have hc_233 : σ_229 281 = q_an G 265 (fun _ => 0) := (hf_231 _ (by omega)).trans hc_218
  have hc_234 : σ_229 282 = q_an G 265 (fun _ => 0) := (hf_231 _ (by omega)).trans hc_219
  have hc_235 : σ_229 283 = q_an G 530 (fun _ => 0) := (hf_231 _ (by omega)).trans hc_220
  have hc_236 : σ_229 284 = q_an G 2120 (fun _ => 0) := (hf_231 _ (by omega)).trans hc_221
  have hc_237 : σ_229 285 = q_bn G 1681 (fun _ => 0) := (hf_231 _ (by omega)).trans hc_222
  have hc_238 : σ_229 286 = q_an G 1681 (fun _ => 0) := (hf_231 _ (by omega)).trans hc_223
  have hc_239 : σ_229 287 = q_an G 1681 (fun _ => 0) := (hf_231 _ (by omega)).trans hc_224
  have hc_240 : σ_229 288 = q_an G 2000 (fun _ => 0) := (hf_231 _ (by omega)).trans hc_225
  have hc_241 : σ_229 289 = q_an G 6724 (fun _ => 0) := (hf_231 _ (by omega)).trans hc_226
  have hc_242 : σ_229 290 = q_an G 6724 (fun _ => 0) := (hf_231 _ (by omega)).trans hc_227
  have hc_243 : σ_229 291 = q_an G 80 (fun _ => 0) := (hf_231 _ (by omega)).trans hc_228
  have hc_244 : σ_229 279 = .inr (11, [.ref (q_h G + 280), .ref (q_h G + 281), .ref (q_h G + 282), .ref (q_h G + 283), .ref (q_h G + 284), .int (nI (0)), .int (nI (0)), .int (nI (0)), .ref (q_h G + 285), .ref (q_h G + 286), .ref (q_h G + 287), .ref (q_h G + 288), .int (nI (0)), .ref (q_h G + 289), .ref (q_h G + 290), .ref (q_h G + 291), .int (nI (0)), .int (nI (0)), .int (nI (0)), .int (nI (0)), .null, .int (nI (0)), .int (nI (0)), .int (nI (0)), .int (nI (0)), .int (nI (0)), .int (nI (0)), .int (nI (0)), .int (nI (0)), .int (nI (0)), .int (nI (0)), .int (nI (0)), .null, .int (nI (0))]) := (hf_231 _ (by omega)).trans hc_215
  refine A_putF (fs' := [.ref (q_h G + 280), .ref (q_h G + 281), .ref (q_h G + 282), .ref (q_h G + 283), .ref (q_h G + 284), .int (nI (0)), .int (nI (0)), .int (nI (0)), .ref (q_h G + 285), .ref (q_h G + 286), .ref (q_h G + 287), .ref (q_h G + 288), .int (nI (0)), .ref (q_h G + 289), .ref (q_h G + 290), .ref (q_h G + 291), .int (nI (0)), .int (nI (0)), .int (nI (0)), .int (nI (0)), .ref (q_h G + 292), .int (nI (0)), .int (nI (0)), .int (nI (0)), .int (nI (0)), .int (nI (0)), .int (nI (0)), .int (nI (0)), .int (nI (0)), .int (nI (0)), .int (nI (0)), .int (nI (0)), .null, .int (nI (0))]) hg fl_RX11_47 hme rfl (by intro C T N h; cases h; exact q_mt 1438 (by decide +kernel)) dX11_init_117 hc_244 (by omega) (Nat.le_of_ble_eq_true rfl) rfl rfl rfl (fun σ_245 hc_246 hf_247 => ?_)
  have hc_246 : σ_245 279 = .inr (11, [.ref (q_h G + 280), .ref (q_h G + 281), .ref (q_h G + 282), .ref (q_h G + 283), .ref (q_h G + 284), .int (nI (0)), .int (nI (0)), .int (nI (0)), .ref (q_h G + 285), .ref (q_h G + 286), .ref (q_h G + 287), .ref (q_h G + 288), .int (nI (0)), .ref (q_h G + 289), .ref (q_h G + 290), .ref (q_h G + 291), .int (nI (0)), .int (nI (0)), .int (nI (0)), .int (nI (0)), .ref (q_h G + 292), .int (nI (0)), .int (nI (0)), .int (nI (0)), .int (nI (0)), .int (nI (0)), .int (nI (0)), .int (nI (0)), .int (nI (0)), .int (nI (0)), .int (nI (0)), .int (nI (0)), .null, .int (nI (0))]) := hc_246
  have hc_248 : σ_245 280 = q_an G 265 (fun _ => 0) := (hf_247 _ (by omega)).trans hc_232
  have hc_249 : σ_245 281 = q_an G 265 (fun _ => 0) := (hf_247 _ (by omega)).trans hc_233
  have hc_250 : σ_245 282 = q_an G 265 (fun _ => 0) := (hf_247 _ (by omega)).trans hc_234
  have hc_251 : σ_245 283 = q_an G 530 (fun _ => 0) := (hf_247 _ (by omega)).trans hc_235
  have hc_252 : σ_245 284 = q_an G 2120 (fun _ => 0) := (hf_247 _ (by omega)).trans hc_236
  have hc_253 : σ_245 285 = q_bn G 1681 (fun _ => 0) := (hf_247 _ (by omega)).trans hc_237
  have hc_254 : σ_245 286 = q_an G 1681 (fun _ => 0) := (hf_247 _ (by omega)).trans hc_238
  have hc_255 : σ_245 287 = q_an G 1681 (fun _ => 0) := (hf_247 _ (by omega)).trans hc_239
  have hc_256 : σ_245 288 = q_an G 2000 (fun _ => 0) := (hf_247 _ (by omega)).trans hc_240
  have hc_257 : σ_245 289 = q_an G 6724 (fun _ => 0) := (hf_247 _ (by omega)).trans hc_241
  have hc_258 : σ_245 290 = q_an G 6724 (fun _ => 0) := (hf_247 _ (by omega)).trans hc_242
  have hc_259 : σ_245 291 = q_an G 80 (fun _ => 0) := (hf_247 _ (by omega)).trans hc_243
  have hc_260 : σ_245 292 = q_an G 600 (fun _ => 0) := (hf_247 _ (by omega)).trans hc_230
  refine A_aload_n hg dX11_init_120 rfl rfl ?_
  refine A_iconst (v := (q_d (0))) hg dX11_init_121 (by decide) ?_
  refine A_putf hg fl_RX11_50 dX11_init_122 hc_246 (by omega) (Nat.le_of_ble_eq_true rfl) rfl rfl rfl (fun σ_261 hc_262 hf_263 => ?_)
  have hc_262 : σ_261 279 = .inr (11, [.ref (q_h G + 280), .ref (q_h G + 281), .ref (q_h G + 282), .ref (q_h G + 283), .ref (q_h G + 284), .int (nI (0)), .int (nI (0)), .int (nI (0)), .ref (q_h G + 285), .ref (q_h G + 286), .ref (q_h G + 287), .ref (q_h G + 288), .int (nI (0)), .ref (q_h G + 289), .ref (q_h G + 290), .ref (q_h G + 291), .int (nI (0)), .int (nI (0)), .int (nI (0)), .int (nI (0)), .ref (q_h G + 292), .int (nI (0)), .int (nI (0)), .int (q_d (0)), .int (nI (0)), .int (nI (0)), .int (nI (0)), .int (nI (0)), .int (nI (0)), .int (nI (0)), .int (nI (0)), .int (nI (0)), .null, .int (nI (0))]) := hc_262
  have hc_264 : σ_261 280 = q_an G 265 (fun _ => 0) := (hf_263 _ (by omega)).trans hc_248
  have hc_265 : σ_261 281 = q_an G 265 (fun _ => 0) := (hf_263 _ (by omega)).trans hc_249
  have hc_266 : σ_261 282 = q_an G 265 (fun _ => 0) := (hf_263 _ (by omega)).trans hc_250
  have hc_267 : σ_261 283 = q_an G 530 (fun _ => 0) := (hf_263 _ (by omega)).trans hc_251
  have hc_268 : σ_261 284 = q_an G 2120 (fun _ => 0) := (hf_263 _ (by omega)).trans hc_252
  have hc_269 : σ_261 285 = q_bn G 1681 (fun _ => 0) := (hf_263 _ (by omega)).trans hc_253
  have hc_270 : σ_261 286 = q_an G 1681 (fun _ => 0) := (hf_263 _ (by omega)).trans hc_254
  have hc_271 : σ_261 287 = q_an G 1681 (fun _ => 0) := (hf_263 _ (by omega)).trans hc_255
  have hc_272 : σ_261 288 = q_an G 2000 (fun _ => 0) := (hf_263 _ (by omega)).trans hc_256
  have hc_273 : σ_261 289 = q_an G 6724 (fun _ => 0) := (hf_263 _ (by omega)).trans hc_257
  have hc_274 : σ_261 290 = q_an G 6724 (fun _ => 0) := (hf_263 _ (by omega)).trans hc_258
  have hc_275 : σ_261 291 = q_an G 80 (fun _ => 0) := (hf_263 _ (by omega)).trans hc_259
  have hc_276 : σ_261 292 = q_an G 600 (fun _ => 0) := (hf_263 _ (by omega)).trans hc_260
  refine A_aload_n hg dX11_init_125 rfl rfl ?_
  refine A_sipush (v := (nI (300))) hg dX11_init_126 (by decide) ?_
  refine A_newa (t := 0) (N := 300) (a0 := (300, .inl (fun _ => nI 0))) hg (by decide) rfl (fun C h => by cases h) (q_mt 70 (by decide +kernel)) (fun _ => rfl) (by decide) (by decide) (by decide) (by decide) dX11_init_129 (fun σ_277 hc_278 hf_279 => ?_)
  have hc_278 : σ_277 293 = q_an G 300 (fun _ => 0) := hc_278
  have hc_280 : σ_277 280 = q_an G 265 (fun _ => 0) := (hf_279 _ (by omega)).trans hc_264
  have hc_281 : σ_277 281 = q_an G 265 (fun _ => 0) := (hf_279 _ (by omega)).trans hc_265
  have hc_282 : σ_277 282 = q_an G 265 (fun _ => 0) := (hf_279 _ (by omega)).trans hc_266
  have hc_283 : σ_277 283 = q_an G 530 (fun _ => 0) := (hf_279 _ (by omega)).trans hc_267
  have hc_284 : σ_277 284 = q_an G 2120 (fun _ => 0) := (hf_279 _ (by omega)).trans hc_268
  have hc_285 : σ_277 285 = q_bn G 1681 (fun _ => 0) := (hf_279 _ (by omega)).trans hc_269
  have hc_286 : σ_277 286 = q_an G 1681 (fun _ => 0) := (hf_279 _ (by omega)).trans hc_270
  have hc_287 : σ_277 287 = q_an G 1681 (fun _ => 0) := (hf_279 _ (by omega)).trans hc_271
  have hc_288 : σ_277 288 = q_an G 2000 (fun _ => 0) := (hf_279 _ (by omega)).trans hc_272
  have hc_289 : σ_277 289 = q_an G 6724 (fun _ => 0) := (hf_279 _ (by omega)).trans hc_273
  have hc_290 : σ_277 290 = q_an G 6724 (fun _ => 0) := (hf_279 _ (by omega)).trans hc_274
  have hc_291 : σ_277 291 = q_an G 80 (fun _ => 0) := (hf_279 _ (by omega)).trans hc_275
  have hc_292 : σ_277 292 = q_an G 600 (fun _ => 0) := (hf_279 _ (by omega)).trans hc_276
  have hc_293 : σ_277 279 = .inr (11, [.ref (q_h G + 280), .ref (q_h G + 281), .ref (q_h G + 282), .ref (q_h G + 283), .ref (q_h G + 284), .int (nI (0)), .int (nI (0)), .int (nI (0)), .ref (q_h G + 285), .ref (q_h G + 286), .ref (q_h G + 287), .ref (q_h G + 288), .int (nI (0)), .ref (q_h G + 289), .ref (q_h G + 290), .ref (q_h G + 291), .int (nI (0)), .int (nI (0)), .int (nI (0)), .int (nI (0)), .ref (q_h G + 292), .int (nI (0)), .int (nI (0)), .int (q_d (0)), .int (nI (0)), .int (nI (0)), .int (nI (0)), .int (nI (0)), .int (nI (0)), .int (nI (0)), .int (nI (0)), .int (nI (0)), .null, .int (nI (0))]) := (hf_279 _ (by omega)).trans hc_262
  refine A_putF (fs' := [.ref (q_h G + 280), .ref (q_h G + 281), .ref (q_h G + 282), .ref (q_h G + 283), .ref (q_h G + 284), .int (nI (0)), .int (nI (0)), .int (nI (0)), .ref (q_h G + 285), .ref (q_h G + 286), .ref (q_h G + 287), .ref (q_h G + 288), .int (nI (0)), .ref (q_h G + 289), .ref (q_h G + 290), .ref (q_h G + 291), .int (nI (0)), .int (nI (0)), .int (nI (0)), .int (nI (0)), .ref (q_h G + 292), .int (nI (0)), .int (nI (0)), .int (q_d (0)), .int (nI (0)), .int (nI (0)), .int (nI (0)), .int (nI (0)), .int (nI (0)), .int (nI (0)), .int (nI (0)), .int (nI (0)), .ref (q_h G + 293), .int (nI (0))]) hg fl_RX11_54 hme rfl (by intro C T N h; cases h; exact q_mt 1450 (by decide +kernel)) dX11_init_131 hc_293 (by omega) (Nat.le_of_ble_eq_true rfl) rfl rfl rfl (fun σ_294 hc_295 hf_296 => ?_)
  have hc_295 : σ_294 279 = .inr (11, [.ref (q_h G + 280), .ref (q_h G + 281), .ref (q_h G + 282), .ref (q_h G + 283), .ref (q_h G + 284), .int (nI (0)), .int (nI (0)), .int (nI (0)), .ref (q_h G + 285), .ref (q_h G + 286), .ref (q_h G + 287), .ref (q_h G + 288), .int (nI (0)), .ref (q_h G + 289), .ref (q_h G + 290), .ref (q_h G + 291), .int (nI (0)), .int (nI (0)), .int (nI (0)), .int (nI (0)), .ref (q_h G + 292), .int (nI (0)), .int (nI (0)), .int (q_d (0)), .int (nI (0)), .int (nI (0)), .int (nI (0)), .int (nI (0)), .int (nI (0)), .int (nI (0)), .int (nI (0)), .int (nI (0)), .ref (q_h G + 293), .int (nI (0))]) := hc_295
  have hc_297 : σ_294 280 = q_an G 265 (fun _ => 0) := (hf_296 _ (by omega)).trans hc_280
  have hc_298 : σ_294 281 = q_an G 265 (fun _ => 0) := (hf_296 _ (by omega)).trans hc_281
  have hc_299 : σ_294 282 = q_an G 265 (fun _ => 0) := (hf_296 _ (by omega)).trans hc_282
  have hc_300 : σ_294 283 = q_an G 530 (fun _ => 0) := (hf_296 _ (by omega)).trans hc_283
  have hc_301 : σ_294 284 = q_an G 2120 (fun _ => 0) := (hf_296 _ (by omega)).trans hc_284
  have hc_302 : σ_294 285 = q_bn G 1681 (fun _ => 0) := (hf_296 _ (by omega)).trans hc_285
  have hc_303 : σ_294 286 = q_an G 1681 (fun _ => 0) := (hf_296 _ (by omega)).trans hc_286
  have hc_304 : σ_294 287 = q_an G 1681 (fun _ => 0) := (hf_296 _ (by omega)).trans hc_287
  have hc_305 : σ_294 288 = q_an G 2000 (fun _ => 0) := (hf_296 _ (by omega)).trans hc_288
  have hc_306 : σ_294 289 = q_an G 6724 (fun _ => 0) := (hf_296 _ (by omega)).trans hc_289
  have hc_307 : σ_294 290 = q_an G 6724 (fun _ => 0) := (hf_296 _ (by omega)).trans hc_290
  have hc_308 : σ_294 291 = q_an G 80 (fun _ => 0) := (hf_296 _ (by omega)).trans hc_291
  have hc_309 : σ_294 292 = q_an G 600 (fun _ => 0) := (hf_296 _ (by omega)).trans hc_292
  have hc_310 : σ_294 293 = q_an G 300 (fun _ => 0) := (hf_296 _ (by omega)).trans hc_278
  have hc_311 : σ_294 279 = o11 G (upd (fun _ => nI 0) 23 (q_d (0))) := hc_295
  refine A_aload_n hg dX11_init_134 rfl rfl ?_
  refine A_vV (kc2 := 14) (ks2 := 24916) (As := []) (rest := []) hg lk_RX11_57 in_X11_begins se_X11_begins rfl dX11_init_135 ⟨by decide, by decide⟩ rfl rfl ⟨by decide, by decide⟩ hc_311 (by omega) rfl rfl (Nat.le_of_ble_eq_true rfl) (c_X11_begins G true 294 σ_294 (upd (fun _ => nI 0) 23 (q_d (0))) (fun _ => 0) hc_311 hc_297 (by omega)) ?_
  rintro σ_314 ⟨gz, hgz, hc_312, hf_313⟩
  have hc_315 : σ_314 281 = q_an G 265 (fun _ => 0) := (hf_313 _ (by omega)).trans hc_298
  have hc_316 : σ_314 282 = q_an G 265 (fun _ => 0) := (hf_313 _ (by omega)).trans hc_299
  have hc_317 : σ_314 283 = q_an G 530 (fun _ => 0) := (hf_313 _ (by omega)).trans hc_300
  have hc_318 : σ_314 284 = q_an G 2120 (fun _ => 0) := (hf_313 _ (by omega)).trans hc_301
  have hc_319 : σ_314 285 = q_bn G 1681 (fun _ => 0) := (hf_313 _ (by omega)).trans hc_302
  have hc_320 : σ_314 286 = q_an G 1681 (fun _ => 0) := (hf_313 _ (by omega)).trans hc_303
  have hc_321 : σ_314 287 = q_an G 1681 (fun _ => 0) := (hf_313 _ (by omega)).trans hc_304
  have hc_322 : σ_314 288 = q_an G 2000 (fun _ => 0) := (hf_313 _ (by omega)).trans hc_305
  have hc_323 : σ_314 289 = q_an G 6724 (fun _ => 0) := (hf_313 _ (by omega)).trans hc_306
  have hc_324 : σ_314 290 = q_an G 6724 (fun _ => 0) := (hf_313 _ (by omega)).trans hc_307
  have hc_325 : σ_314 291 = q_an G 80 (fun _ => 0) := (hf_313 _ (by omega)).trans hc_308
  have hc_326 : σ_314 292 = q_an G 600 (fun _ => 0) := (hf_313 _ (by omega)).trans hc_309
  have hc_327 : σ_314 293 = q_an G 300 (fun _ => 0) := (hf_313 _ (by omega)).trans hc_310
  have hc_328 : σ_314 279 = o11 G (upd (fun _ => nI 0) 23 (q_d (0))) := (hf_313 _ (by omega)).trans hc_311
  refine A_canon rd_g0 hc_312 (fun jj hj => hgz jj hj) (fun σ_329 hc_330 hf_331 => ?_)
  have hc_332 : σ_329 281 = q_an G 265 (fun _ => 0) := (hf_331 _ (by omega)).trans hc_315
  have hc_333 : σ_329 282 = q_an G 265 (fun _ => 0) := (hf_331 _ (by omega)).trans hc_316
  have hc_334 : σ_329 283 = q_an G 530 (fun _ => 0) := (hf_331 _ (by omega)).trans hc_317
  have hc_335 : σ_329 284 = q_an G 2120 (fun _ => 0) := (hf_331 _ (by omega)).trans hc_318
  have hc_336 : σ_329 285 = q_bn G 1681 (fun _ => 0) := (hf_331 _ (by omega)).trans hc_319
  have hc_337 : σ_329 286 = q_an G 1681 (fun _ => 0) := (hf_331 _ (by omega)).trans hc_320
  have hc_338 : σ_329 287 = q_an G 1681 (fun _ => 0) := (hf_331 _ (by omega)).trans hc_321
  have hc_339 : σ_329 288 = q_an G 2000 (fun _ => 0) := (hf_331 _ (by omega)).trans hc_322
  have hc_340 : σ_329 289 = q_an G 6724 (fun _ => 0) := (hf_331 _ (by omega)).trans hc_323
  have hc_341 : σ_329 290 = q_an G 6724 (fun _ => 0) := (hf_331 _ (by omega)).trans hc_324
  have hc_342 : σ_329 291 = q_an G 80 (fun _ => 0) := (hf_331 _ (by omega)).trans hc_325
  have hc_343 : σ_329 292 = q_an G 600 (fun _ => 0) := (hf_331 _ (by omega)).trans hc_326
  have hc_344 : σ_329 293 = q_an G 300 (fun _ => 0) := (hf_331 _ (by omega)).trans hc_327
  have hc_345 : σ_329 279 = o11 G (upd (fun _ => nI 0) 23 (q_d (0))) := (hf_331 _ (by omega)).trans hc_328
  refine A_aload_n hg dX11_init_138 rfl rfl ?_
  refine A_getf (v := .ref (q_h G + 280)) hg fl_RX11_7 dX11_init_139 hc_345 (by omega) rfl ?_
  refine A_bipush (v := (nI (17))) hg dX11_init_142 (by decide) ?_
  refine A_iconst (v := (nI (5))) hg dX11_init_144 (by decide) ?_
  refine A_iast (j := 17) (x := 5) hg dX11_init_145 hc_330 (by omega) (by omega) (by decide) (fun σ_346 hc_347 hf_348 => ?_)
  have hc_349 : σ_346 281 = q_an G 265 (fun _ => 0) := (hf_348 _ (by omega)).trans hc_332
  have hc_350 : σ_346 282 = q_an G 265 (fun _ => 0) := (hf_348 _ (by omega)).trans hc_333
  have hc_351 : σ_346 283 = q_an G 530 (fun _ => 0) := (hf_348 _ (by omega)).trans hc_334
  have hc_352 : σ_346 284 = q_an G 2120 (fun _ => 0) := (hf_348 _ (by omega)).trans hc_335
  have hc_353 : σ_346 285 = q_bn G 1681 (fun _ => 0) := (hf_348 _ (by omega)).trans hc_336
  have hc_354 : σ_346 286 = q_an G 1681 (fun _ => 0) := (hf_348 _ (by omega)).trans hc_337
  have hc_355 : σ_346 287 = q_an G 1681 (fun _ => 0) := (hf_348 _ (by omega)).trans hc_338
  have hc_356 : σ_346 288 = q_an G 2000 (fun _ => 0) := (hf_348 _ (by omega)).trans hc_339
  have hc_357 : σ_346 289 = q_an G 6724 (fun _ => 0) := (hf_348 _ (by omega)).trans hc_340
  have hc_358 : σ_346 290 = q_an G 6724 (fun _ => 0) := (hf_348 _ (by omega)).trans hc_341
  have hc_359 : σ_346 291 = q_an G 80 (fun _ => 0) := (hf_348 _ (by omega)).trans hc_342
  have hc_360 : σ_346 292 = q_an G 600 (fun _ => 0) := (hf_348 _ (by omega)).trans hc_343
  have hc_361 : σ_346 293 = q_an G 300 (fun _ => 0) := (hf_348 _ (by omega)).trans hc_344
  have hc_362 : σ_346 279 = o11 G (upd (fun _ => nI 0) 23 (q_d (0))) := (hf_348 _ (by omega)).trans hc_345
  refine A_aload_n hg dX11_init_146 rfl rfl ?_
  refine A_getf (v := .ref (q_h G + 280)) hg fl_RX11_7 dX11_init_147 hc_362 (by omega) rfl ?_
  refine A_bipush (v := (nI (18))) hg dX11_init_150 (by decide) ?_
  refine A_bipush (v := (nI (16))) hg dX11_init_152 (by decide) ?_
  refine A_iast (j := 18) (x := 16) hg dX11_init_154 hc_347 (by omega) (by omega) (by decide) (fun σ_363 hc_364 hf_365 => ?_)
  have hc_366 : σ_363 281 = q_an G 265 (fun _ => 0) := (hf_365 _ (by omega)).trans hc_349
  have hc_367 : σ_363 282 = q_an G 265 (fun _ => 0) := (hf_365 _ (by omega)).trans hc_350
  have hc_368 : σ_363 283 = q_an G 530 (fun _ => 0) := (hf_365 _ (by omega)).trans hc_351
  have hc_369 : σ_363 284 = q_an G 2120 (fun _ => 0) := (hf_365 _ (by omega)).trans hc_352
  have hc_370 : σ_363 285 = q_bn G 1681 (fun _ => 0) := (hf_365 _ (by omega)).trans hc_353
  have hc_371 : σ_363 286 = q_an G 1681 (fun _ => 0) := (hf_365 _ (by omega)).trans hc_354
  have hc_372 : σ_363 287 = q_an G 1681 (fun _ => 0) := (hf_365 _ (by omega)).trans hc_355
  have hc_373 : σ_363 288 = q_an G 2000 (fun _ => 0) := (hf_365 _ (by omega)).trans hc_356
  have hc_374 : σ_363 289 = q_an G 6724 (fun _ => 0) := (hf_365 _ (by omega)).trans hc_357
  have hc_375 : σ_363 290 = q_an G 6724 (fun _ => 0) := (hf_365 _ (by omega)).trans hc_358
  have hc_376 : σ_363 291 = q_an G 80 (fun _ => 0) := (hf_365 _ (by omega)).trans hc_359
  have hc_377 : σ_363 292 = q_an G 600 (fun _ => 0) := (hf_365 _ (by omega)).trans hc_360
  have hc_378 : σ_363 293 = q_an G 300 (fun _ => 0) := (hf_365 _ (by omega)).trans hc_361
  have hc_379 : σ_363 279 = o11 G (upd (fun _ => nI 0) 23 (q_d (0))) := (hf_365 _ (by omega)).trans hc_362
  refine A_aload_n hg dX11_init_155 rfl rfl ?_
  refine A_getf (v := .ref (q_h G + 280)) hg fl_RX11_7 dX11_init_156 hc_379 (by omega) rfl ?_
  refine A_bipush (v := (nI (19))) hg dX11_init_159 (by decide) ?_
  refine A_bipush (v := (nI (12))) hg dX11_init_161 (by decide) ?_
  refine A_iast (j := 19) (x := 12) hg dX11_init_163 hc_364 (by omega) (by omega) (by decide) (fun σ_380 hc_381 hf_382 => ?_)
  have hc_383 : σ_380 281 = q_an G 265 (fun _ => 0) := (hf_382 _ (by omega)).trans hc_366
  have hc_384 : σ_380 282 = q_an G 265 (fun _ => 0) := (hf_382 _ (by omega)).trans hc_367
  have hc_385 : σ_380 283 = q_an G 530 (fun _ => 0) := (hf_382 _ (by omega)).trans hc_368
  have hc_386 : σ_380 284 = q_an G 2120 (fun _ => 0) := (hf_382 _ (by omega)).trans hc_369
  have hc_387 : σ_380 285 = q_bn G 1681 (fun _ => 0) := (hf_382 _ (by omega)).trans hc_370
  have hc_388 : σ_380 286 = q_an G 1681 (fun _ => 0) := (hf_382 _ (by omega)).trans hc_371
  have hc_389 : σ_380 287 = q_an G 1681 (fun _ => 0) := (hf_382 _ (by omega)).trans hc_372
  have hc_390 : σ_380 288 = q_an G 2000 (fun _ => 0) := (hf_382 _ (by omega)).trans hc_373
  have hc_391 : σ_380 289 = q_an G 6724 (fun _ => 0) := (hf_382 _ (by omega)).trans hc_374
  have hc_392 : σ_380 290 = q_an G 6724 (fun _ => 0) := (hf_382 _ (by omega)).trans hc_375
  have hc_393 : σ_380 291 = q_an G 80 (fun _ => 0) := (hf_382 _ (by omega)).trans hc_376
  have hc_394 : σ_380 292 = q_an G 600 (fun _ => 0) := (hf_382 _ (by omega)).trans hc_377
  have hc_395 : σ_380 293 = q_an G 300 (fun _ => 0) := (hf_382 _ (by omega)).trans hc_378
  have hc_396 : σ_380 279 = o11 G (upd (fun _ => nI 0) 23 (q_d (0))) := (hf_382 _ (by omega)).trans hc_379
  refine A_aload_n hg dX11_init_164 rfl rfl ?_
  refine A_getf (v := .ref (q_h G + 280)) hg fl_RX11_7 dX11_init_165 hc_396 (by omega) rfl ?_
  refine A_bipush (v := (nI (20))) hg dX11_init_168 (by decide) ?_
  refine A_iconst (v := (nI (1))) hg dX11_init_170 (by decide) ?_
  refine A_iast (j := 20) (x := 1) hg dX11_init_171 hc_381 (by omega) (by omega) (by decide) (fun σ_397 hc_398 hf_399 => ?_)
  have hc_400 : σ_397 281 = q_an G 265 (fun _ => 0) := (hf_399 _ (by omega)).trans hc_383
  have hc_401 : σ_397 282 = q_an G 265 (fun _ => 0) := (hf_399 _ (by omega)).trans hc_384
  have hc_402 : σ_397 283 = q_an G 530 (fun _ => 0) := (hf_399 _ (by omega)).trans hc_385
  have hc_403 : σ_397 284 = q_an G 2120 (fun _ => 0) := (hf_399 _ (by omega)).trans hc_386
  have hc_404 : σ_397 285 = q_bn G 1681 (fun _ => 0) := (hf_399 _ (by omega)).trans hc_387
  have hc_405 : σ_397 286 = q_an G 1681 (fun _ => 0) := (hf_399 _ (by omega)).trans hc_388
  have hc_406 : σ_397 287 = q_an G 1681 (fun _ => 0) := (hf_399 _ (by omega)).trans hc_389
  have hc_407 : σ_397 288 = q_an G 2000 (fun _ => 0) := (hf_399 _ (by omega)).trans hc_390
  have hc_408 : σ_397 289 = q_an G 6724 (fun _ => 0) := (hf_399 _ (by omega)).trans hc_391
  have hc_409 : σ_397 290 = q_an G 6724 (fun _ => 0) := (hf_399 _ (by omega)).trans hc_392
  have hc_410 : σ_397 291 = q_an G 80 (fun _ => 0) := (hf_399 _ (by omega)).trans hc_393
  have hc_411 : σ_397 292 = q_an G 600 (fun _ => 0) := (hf_399 _ (by omega)).trans hc_394
  have hc_412 : σ_397 293 = q_an G 300 (fun _ => 0) := (hf_399 _ (by omega)).trans hc_395
  have hc_413 : σ_397 279 = o11 G (upd (fun _ => nI 0) 23 (q_d (0))) := (hf_399 _ (by omega)).trans hc_396
  refine A_aload_n hg dX11_init_172 rfl rfl ?_
  refine A_getf (v := .ref (q_h G + 280)) hg fl_RX11_7 dX11_init_173 hc_413 (by omega) rfl ?_
  refine A_bipush (v := (nI (21))) hg dX11_init_176 (by decide) ?_
  refine A_bipush (v := (nI (9))) hg dX11_init_178 (by decide) ?_
  refine A_iast (j := 21) (x := 9) hg dX11_init_180 hc_398 (by omega) (by omega) (by decide) (fun σ_414 hc_415 hf_416 => ?_)
  have hc_417 : σ_414 281 = q_an G 265 (fun _ => 0) := (hf_416 _ (by omega)).trans hc_400
  have hc_418 : σ_414 282 = q_an G 265 (fun _ => 0) := (hf_416 _ (by omega)).trans hc_401
  have hc_419 : σ_414 283 = q_an G 530 (fun _ => 0) := (hf_416 _ (by omega)).trans hc_402
  have hc_420 : σ_414 284 = q_an G 2120 (fun _ => 0) := (hf_416 _ (by omega)).trans hc_403
  have hc_421 : σ_414 285 = q_bn G 1681 (fun _ => 0) := (hf_416 _ (by omega)).trans hc_404
  have hc_422 : σ_414 286 = q_an G 1681 (fun _ => 0) := (hf_416 _ (by omega)).trans hc_405
  have hc_423 : σ_414 287 = q_an G 1681 (fun _ => 0) := (hf_416 _ (by omega)).trans hc_406
  have hc_424 : σ_414 288 = q_an G 2000 (fun _ => 0) := (hf_416 _ (by omega)).trans hc_407
  have hc_425 : σ_414 289 = q_an G 6724 (fun _ => 0) := (hf_416 _ (by omega)).trans hc_408
  have hc_426 : σ_414 290 = q_an G 6724 (fun _ => 0) := (hf_416 _ (by omega)).trans hc_409
  have hc_427 : σ_414 291 = q_an G 80 (fun _ => 0) := (hf_416 _ (by omega)).trans hc_410
  have hc_428 : σ_414 292 = q_an G 600 (fun _ => 0) := (hf_416 _ (by omega)).trans hc_411
  have hc_429 : σ_414 293 = q_an G 300 (fun _ => 0) := (hf_416 _ (by omega)).trans hc_412
  have hc_430 : σ_414 279 = o11 G (upd (fun _ => nI 0) 23 (q_d (0))) := (hf_416 _ (by omega)).trans hc_413
  refine A_aload_n hg dX11_init_181 rfl rfl ?_
  refine A_getf (v := .ref (q_h G + 280)) hg fl_RX11_7 dX11_init_182 hc_430 (by omega) rfl ?_
  refine A_bipush (v := (nI (22))) hg dX11_init_185 (by decide) ?_
  refine A_bipush (v := (nI (14))) hg dX11_init_187 (by decide) ?_
  refine A_iast (j := 22) (x := 14) hg dX11_init_189 hc_415 (by omega) (by omega) (by decide) (fun σ_431 hc_432 hf_433 => ?_)
  have hc_434 : σ_431 281 = q_an G 265 (fun _ => 0) := (hf_433 _ (by omega)).trans hc_417
  have hc_435 : σ_431 282 = q_an G 265 (fun _ => 0) := (hf_433 _ (by omega)).trans hc_418
  have hc_436 : σ_431 283 = q_an G 530 (fun _ => 0) := (hf_433 _ (by omega)).trans hc_419
  have hc_437 : σ_431 284 = q_an G 2120 (fun _ => 0) := (hf_433 _ (by omega)).trans hc_420
  have hc_438 : σ_431 285 = q_bn G 1681 (fun _ => 0) := (hf_433 _ (by omega)).trans hc_421
  have hc_439 : σ_431 286 = q_an G 1681 (fun _ => 0) := (hf_433 _ (by omega)).trans hc_422
  have hc_440 : σ_431 287 = q_an G 1681 (fun _ => 0) := (hf_433 _ (by omega)).trans hc_423
  have hc_441 : σ_431 288 = q_an G 2000 (fun _ => 0) := (hf_433 _ (by omega)).trans hc_424
  have hc_442 : σ_431 289 = q_an G 6724 (fun _ => 0) := (hf_433 _ (by omega)).trans hc_425
  have hc_443 : σ_431 290 = q_an G 6724 (fun _ => 0) := (hf_433 _ (by omega)).trans hc_426
  have hc_444 : σ_431 291 = q_an G 80 (fun _ => 0) := (hf_433 _ (by omega)).trans hc_427
  have hc_445 : σ_431 292 = q_an G 600 (fun _ => 0) := (hf_433 _ (by omega)).trans hc_428
  have hc_446 : σ_431 293 = q_an G 300 (fun _ => 0) := (hf_433 _ (by omega)).trans hc_429
  have hc_447 : σ_431 279 = o11 G (upd (fun _ => nI 0) 23 (q_d (0))) := (hf_433 _ (by omega)).trans hc_430
  refine A_aload_n hg dX11_init_190 rfl rfl ?_
  refine A_iconst (v := (nI (0))) hg dX11_init_191 (by decide) ?_
  refine A_bipush (v := (nI (18))) hg dX11_init_192 (by decide) ?_
  refine A_iconst (v := (nI (1))) hg dX11_init_194 (by decide) ?_
  refine A_vV (kc2 := 14) (ks2 := 24916) (As := [.int (nI (0)), .int (nI (18)), .int (nI (1))]) (rest := []) hg lk_RX11_60 in_X11_putsRule se_X11_putsRule rfl dX11_init_195 ⟨by decide, by decide⟩ rfl rfl ⟨by decide, by decide⟩ hc_447 (by omega) rfl rfl (Nat.le_of_ble_eq_true rfl) (c_X11_putsRule G true 294 σ_431 (upd (fun _ => nI 0) 23 (q_d (0))) (va_up (va_up (va_up (va_up (va_up (va_up rd_g0 17 5) 18 16) 19 12) 20 1) 21 9) 22 14) 0 18 1 hc_447 hc_432 (by omega) (by omega)) ?_
  rintro σ_450 ⟨hc_448, hf_449⟩
  have hc_451 : σ_450 281 = q_an G 265 (fun _ => 0) := (hf_449 _ (by omega)).trans hc_434
  have hc_452 : σ_450 282 = q_an G 265 (fun _ => 0) := (hf_449 _ (by omega)).trans hc_435
  have hc_453 : σ_450 283 = q_an G 530 (fun _ => 0) := (hf_449 _ (by omega)).trans hc_436
  have hc_454 : σ_450 284 = q_an G 2120 (fun _ => 0) := (hf_449 _ (by omega)).trans hc_437
  have hc_455 : σ_450 285 = q_bn G 1681 (fun _ => 0) := (hf_449 _ (by omega)).trans hc_438
  have hc_456 : σ_450 286 = q_an G 1681 (fun _ => 0) := (hf_449 _ (by omega)).trans hc_439
  have hc_457 : σ_450 287 = q_an G 1681 (fun _ => 0) := (hf_449 _ (by omega)).trans hc_440
  have hc_458 : σ_450 288 = q_an G 2000 (fun _ => 0) := (hf_449 _ (by omega)).trans hc_441
  have hc_459 : σ_450 289 = q_an G 6724 (fun _ => 0) := (hf_449 _ (by omega)).trans hc_442
  have hc_460 : σ_450 290 = q_an G 6724 (fun _ => 0) := (hf_449 _ (by omega)).trans hc_443
  have hc_461 : σ_450 291 = q_an G 80 (fun _ => 0) := (hf_449 _ (by omega)).trans hc_444
  have hc_462 : σ_450 292 = q_an G 600 (fun _ => 0) := (hf_449 _ (by omega)).trans hc_445
  have hc_463 : σ_450 293 = q_an G 300 (fun _ => 0) := (hf_449 _ (by omega)).trans hc_446
  have hc_464 : σ_450 279 = o11 G (upd (fun _ => nI 0) 23 (q_d (0))) := (hf_449 _ (by omega)).trans hc_447
  refine A_aload_n hg dX11_init_198 rfl rfl ?_
  refine A_iconst (v := (nI (0))) hg dX11_init_199 (by decide) ?_
  refine A_bipush (v := (nI (19))) hg dX11_init_200 (by decide) ?_
  refine A_bipush (v := (nI (40))) hg dX11_init_202 (by decide) ?_
  refine A_vV (kc2 := 14) (ks2 := 24916) (As := [.int (nI (0)), .int (nI (19)), .int (nI (40))]) (rest := []) hg lk_RX11_60 in_X11_putsRule se_X11_putsRule rfl dX11_init_204 ⟨by decide, by decide⟩ rfl rfl ⟨by decide, by decide⟩ hc_464 (by omega) rfl rfl (Nat.le_of_ble_eq_true rfl) (c_X11_putsRule G true 294 σ_450 (upd (fun _ => nI 0) 23 (q_d (0))) (va_up (va_up (va_up (va_up (va_up (va_up (va_up rd_g0 17 5) 18 16) 19 12) 20 1) 21 9) 22 14) (17 + 29 * 0 + 18) 1) 0 19 40 hc_464 hc_448 (by omega) (by omega)) ?_
  rintro σ_467 ⟨hc_465, hf_466⟩
  have hc_468 : σ_467 281 = q_an G 265 (fun _ => 0) := (hf_466 _ (by omega)).trans hc_451
  have hc_469 : σ_467 282 = q_an G 265 (fun _ => 0) := (hf_466 _ (by omega)).trans hc_452
  have hc_470 : σ_467 283 = q_an G 530 (fun _ => 0) := (hf_466 _ (by omega)).trans hc_453
  have hc_471 : σ_467 284 = q_an G 2120 (fun _ => 0) := (hf_466 _ (by omega)).trans hc_454
  have hc_472 : σ_467 285 = q_bn G 1681 (fun _ => 0) := (hf_466 _ (by omega)).trans hc_455
  have hc_473 : σ_467 286 = q_an G 1681 (fun _ => 0) := (hf_466 _ (by omega)).trans hc_456
  have hc_474 : σ_467 287 = q_an G 1681 (fun _ => 0) := (hf_466 _ (by omega)).trans hc_457
  have hc_475 : σ_467 288 = q_an G 2000 (fun _ => 0) := (hf_466 _ (by omega)).trans hc_458
  have hc_476 : σ_467 289 = q_an G 6724 (fun _ => 0) := (hf_466 _ (by omega)).trans hc_459
  have hc_477 : σ_467 290 = q_an G 6724 (fun _ => 0) := (hf_466 _ (by omega)).trans hc_460
  have hc_478 : σ_467 291 = q_an G 80 (fun _ => 0) := (hf_466 _ (by omega)).trans hc_461
  have hc_479 : σ_467 292 = q_an G 600 (fun _ => 0) := (hf_466 _ (by omega)).trans hc_462
  have hc_480 : σ_467 293 = q_an G 300 (fun _ => 0) := (hf_466 _ (by omega)).trans hc_463
  have hc_481 : σ_467 279 = o11 G (upd (fun _ => nI 0) 23 (q_d (0))) := (hf_466 _ (by omega)).trans hc_464
  refine A_aload_n hg dX11_init_207 rfl rfl ?_
  refine A_getf (v := .ref (q_h G + 280)) hg fl_RX11_7 dX11_init_208 hc_481 (by omega) rfl ?_
  refine A_iconst (v := (nI (0))) hg dX11_init_211 (by decide) ?_
  refine A_iconst (v := (nI (1))) hg dX11_init_212 (by decide) ?_
  refine A_iast (j := 0) (x := 1) hg dX11_init_213 hc_465 (by omega) (by omega) (by decide) (fun σ_482 hc_483 hf_484 => ?_)
  have hc_485 : σ_482 281 = q_an G 265 (fun _ => 0) := (hf_484 _ (by omega)).trans hc_468
  have hc_486 : σ_482 282 = q_an G 265 (fun _ => 0) := (hf_484 _ (by omega)).trans hc_469
  have hc_487 : σ_482 283 = q_an G 530 (fun _ => 0) := (hf_484 _ (by omega)).trans hc_470
  have hc_488 : σ_482 284 = q_an G 2120 (fun _ => 0) := (hf_484 _ (by omega)).trans hc_471
  have hc_489 : σ_482 285 = q_bn G 1681 (fun _ => 0) := (hf_484 _ (by omega)).trans hc_472
  have hc_490 : σ_482 286 = q_an G 1681 (fun _ => 0) := (hf_484 _ (by omega)).trans hc_473
  have hc_491 : σ_482 287 = q_an G 1681 (fun _ => 0) := (hf_484 _ (by omega)).trans hc_474
  have hc_492 : σ_482 288 = q_an G 2000 (fun _ => 0) := (hf_484 _ (by omega)).trans hc_475
  have hc_493 : σ_482 289 = q_an G 6724 (fun _ => 0) := (hf_484 _ (by omega)).trans hc_476
  have hc_494 : σ_482 290 = q_an G 6724 (fun _ => 0) := (hf_484 _ (by omega)).trans hc_477
  have hc_495 : σ_482 291 = q_an G 80 (fun _ => 0) := (hf_484 _ (by omega)).trans hc_478
  have hc_496 : σ_482 292 = q_an G 600 (fun _ => 0) := (hf_484 _ (by omega)).trans hc_479
  have hc_497 : σ_482 293 = q_an G 300 (fun _ => 0) := (hf_484 _ (by omega)).trans hc_480
  have hc_498 : σ_482 279 = o11 G (upd (fun _ => nI 0) 23 (q_d (0))) := (hf_484 _ (by omega)).trans hc_481
  refine A_aload_n hg dX11_init_214 rfl rfl ?_
  refine A_iconst (v := (nI (0))) hg dX11_init_215 (by decide) ?_
  refine A_iconst (v := (nI (5))) hg dX11_init_216 (by decide) ?_
  refine A_bipush (v := (nI (8))) hg dX11_init_217 (by decide) ?_
  refine A_vV (kc2 := 14) (ks2 := 24916) (As := [.int (nI (0)), .int (nI (5)), .int (nI (8))]) (rest := []) hg lk_RX11_64 in_X11_makesBoard se_X11_makesBoard rfl dX11_init_219 ⟨by decide, by decide⟩ rfl rfl ⟨by decide, by decide⟩ hc_498 (by omega) rfl rfl (Nat.le_of_ble_eq_true rfl) (c_X11_makesBoard G true 294 σ_482 (upd (fun _ => nI 0) 23 (q_d (0))) (va_up (va_up (va_up (va_up (va_up (va_up (va_up (va_up (va_up rd_g0 17 5) 18 16) 19 12) 20 1) 21 9) 22 14) (17 + 29 * 0 + 18) 1) (17 + 29 * 0 + 19) 40) 0 1) 0 5 8 hc_498 hc_483 (by omega) (by decide)) ?_
  rintro σ_501 ⟨hc_499, hf_500⟩
  have hc_502 : σ_501 281 = q_an G 265 (fun _ => 0) := (hf_500 _ (by omega)).trans hc_485
  have hc_503 : σ_501 282 = q_an G 265 (fun _ => 0) := (hf_500 _ (by omega)).trans hc_486
  have hc_504 : σ_501 283 = q_an G 530 (fun _ => 0) := (hf_500 _ (by omega)).trans hc_487
  have hc_505 : σ_501 284 = q_an G 2120 (fun _ => 0) := (hf_500 _ (by omega)).trans hc_488
  have hc_506 : σ_501 285 = q_bn G 1681 (fun _ => 0) := (hf_500 _ (by omega)).trans hc_489
  have hc_507 : σ_501 286 = q_an G 1681 (fun _ => 0) := (hf_500 _ (by omega)).trans hc_490
  have hc_508 : σ_501 287 = q_an G 1681 (fun _ => 0) := (hf_500 _ (by omega)).trans hc_491
  have hc_509 : σ_501 288 = q_an G 2000 (fun _ => 0) := (hf_500 _ (by omega)).trans hc_492
  have hc_510 : σ_501 289 = q_an G 6724 (fun _ => 0) := (hf_500 _ (by omega)).trans hc_493
  have hc_511 : σ_501 290 = q_an G 6724 (fun _ => 0) := (hf_500 _ (by omega)).trans hc_494
  have hc_512 : σ_501 291 = q_an G 80 (fun _ => 0) := (hf_500 _ (by omega)).trans hc_495
  have hc_513 : σ_501 292 = q_an G 600 (fun _ => 0) := (hf_500 _ (by omega)).trans hc_496
  have hc_514 : σ_501 293 = q_an G 300 (fun _ => 0) := (hf_500 _ (by omega)).trans hc_497
  have hc_515 : σ_501 279 = o11 G (upd (fun _ => nI 0) 23 (q_d (0))) := (hf_500 _ (by omega)).trans hc_498
  refine A_canon (s_addB (va_up (va_up (va_up (va_up (va_up (va_up (va_up (va_up (va_up rd_g0 17 5) 18 16) 19 12) 20 1) 21 9) 22 14) (17 + 29 * 0 + 18) 1) (17 + 29 * 0 + 19) 40) 0 1) 0 5 8) hc_499 (fun _ _ => rfl) (fun σ_516 hc_517 hf_518 => ?_)
  have hc_519 : σ_516 281 = q_an G 265 (fun _ => 0) := (hf_518 _ (by omega)).trans hc_502
  have hc_520 : σ_516 282 = q_an G 265 (fun _ => 0) := (hf_518 _ (by omega)).trans hc_503
  have hc_521 : σ_516 283 = q_an G 530 (fun _ => 0) := (hf_518 _ (by omega)).trans hc_504
  have hc_522 : σ_516 284 = q_an G 2120 (fun _ => 0) := (hf_518 _ (by omega)).trans hc_505
  have hc_523 : σ_516 285 = q_bn G 1681 (fun _ => 0) := (hf_518 _ (by omega)).trans hc_506
  have hc_524 : σ_516 286 = q_an G 1681 (fun _ => 0) := (hf_518 _ (by omega)).trans hc_507
  have hc_525 : σ_516 287 = q_an G 1681 (fun _ => 0) := (hf_518 _ (by omega)).trans hc_508
  have hc_526 : σ_516 288 = q_an G 2000 (fun _ => 0) := (hf_518 _ (by omega)).trans hc_509
  have hc_527 : σ_516 289 = q_an G 6724 (fun _ => 0) := (hf_518 _ (by omega)).trans hc_510
  have hc_528 : σ_516 290 = q_an G 6724 (fun _ => 0) := (hf_518 _ (by omega)).trans hc_511
  have hc_529 : σ_516 291 = q_an G 80 (fun _ => 0) := (hf_518 _ (by omega)).trans hc_512
  have hc_530 : σ_516 292 = q_an G 600 (fun _ => 0) := (hf_518 _ (by omega)).trans hc_513
  have hc_531 : σ_516 293 = q_an G 300 (fun _ => 0) := (hf_518 _ (by omega)).trans hc_514
  have hc_532 : σ_516 279 = o11 G (upd (fun _ => nI 0) 23 (q_d (0))) := (hf_518 _ (by omega)).trans hc_515
  rw [hQ]
  exact A_returnN hg (by decide) (by decide) rfl dX11_init_222 ⟨rfl, ⟨rfl, hc_532, hc_517, hc_519, hc_520, hc_521, hc_522, hc_524, hc_525, hc_526, hc_527, hc_528, hc_529, hc_530, hc_531, hc_523, (fun i hi => ((hf_518 i (by omega)).trans ((hf_500 i (by omega)).trans ((hf_484 i (by omega)).trans ((hf_466 i (by omega)).trans ((hf_449 i (by omega)).trans ((hf_433 i (by omega)).trans ((hf_416 i (by omega)).trans ((hf_399 i (by omega)).trans ((hf_382 i (by omega)).trans ((hf_365 i (by omega)).trans ((hf_348 i (by omega)).trans ((hf_331 i (by omega)).trans ((hf_313 i (by omega)).trans ((hf_296 i (by omega)).trans ((hf_279 i (by omega)).trans ((hf_263 i (by omega)).trans ((hf_247 i (by omega)).trans ((hf_231 i (by omega)).trans ((hf_216 i (by omega)).trans ((hf_201 i (by omega)).trans ((hf_187 i (by omega)).trans ((hf_173 i (by omega)).trans ((hf_160 i (by omega)).trans ((hf_147 i (by omega)).trans ((hf_135 i (by omega)).trans ((hf_123 i (by omega)).trans ((hf_112 i (by omega)).trans ((hf_101 i (by omega)).trans ((hf_91 i (by omega)).trans ((hf_81 i (by omega)).trans ((hf_72 i (by omega)).trans ((hf_63 i (by omega)).trans ((hf_55 i (by omega)).trans ((hf_47 i (by omega)).trans ((hf_40 i (by omega)).trans ((hf_33 i (by omega)).trans ((hf_27 i (by omega)).trans ((hf_21 i (by omega)).trans ((hf_16 i (by omega)).trans ((hf_11 i (by omega)).trans ((hf_7 i (by omega)).trans (hf_3 i (by omega))))))))))))))))))))))))))))))))))))))))))))⟩⟩
end
