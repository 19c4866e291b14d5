section
theorem x_f2 {P : Nat → Prop} (h0 : P 0) (h1 : P 1) : ∀ j : Nat, j < 2 → P j
  | 0, _ => h0
  | 1, _ => h1
  | j + 2, h => absurd h (by omega)
set_option maxRecDepth 100000 in
set_option maxHeartbeats 4000000 in
theorem c_X0_beginPlain (G : GL) (ex : Bool) (n : Nat) (σ : Nat → va_E)   (hn9 : 42 < n) (hJ : x_gj G σ 25) : Ct G yX0_beginPlain cX0_beginPlain 1 none ⟨5, 0, 0, 108⟩ [.ref (q_h G + 25)] ex n σ (fun v9 σ2 => v9 = none ∧ (x_gm G σ2 25 x_gI) ∧ σ2 25 = o0 G (25) (nI (x_gI 0)) (nI (x_gI 3)) (nI (x_gI 4)) (nI (x_gI 5)) (nI (x_gI 6)) ∧ (∀ i : Nat, i < 25 ∨ 42 < i → σ2 i = σ i)) := by
  refine q_enter [some (.ref (q_h G + 25))] (by decide) (Nat.le_of_ble_eq_true rfl) rfl ?_
  intro K hg
  obtain ⟨Q, hQ⟩ : ∃ Q, Q = q_Q G K ex n 0 0 (fun v9 n' σ' => n' = n ∧ (fun v9 σ2 => v9 = none ∧ (x_gm G σ2 25 x_gI) ∧ σ2 25 = o0 G (25) (nI (x_gI 0)) (nI (x_gI 3)) (nI (x_gI 4)) (nI (x_gI 5)) (nI (x_gI 6)) ∧ (∀ i : Nat, i < 25 ∨ 42 < i → σ2 i = σ i)) v9 σ') q_noX := ⟨_, rfl⟩
  refine (?_ : AJ G K (q_Q G K ex n 0 0 _ _) 0 0 ex n 0 _ _ σ)
  rw [← hQ]
  obtain ⟨rm, pl, tn, gm, tk, b, sk, kd, fi, se, tf, ts, ac, tu, nm, on, sl, mo, nb, bm, hj_1, hj_2, hj_3, hj_4, hj_5, hj_6, hj_7, hj_8, hj_9, hj_10, hj_11, hj_12⟩ := hJ
  refine A_aload_n hg dX0_beginPlain_0 rfl rfl ?_
  refine A_vV (kc2 := 0) (ks2 := 0) (As := []) (rest := []) hg lk_RX0_57 in_X0_clear se_X0_clear rfl dX0_beginPlain_1 ⟨by decide, by decide⟩ rfl rfl ⟨by decide, by decide⟩ hj_1 (by omega) rfl rfl (Nat.le_of_ble_eq_true rfl) (c_X0_clear G ex n σ 25 rm pl tn gm tk b sk ac hj_1 hj_2 hj_3 hj_9 (by omega)) ?_
  rintro σ_17 ⟨hc_13, hc_14, hc_15, hf_16⟩
  have hc_18 : σ_17 26 = q_rn G 3 4 (fun j => some (25 + 10 + 2 * j)) := (hf_16 _ (by omega)).trans hj_2
  have hc_19 : σ_17 (27 + 1) = q_an G 8 kd := (hf_16 _ (by omega)).trans hj_4
  have hc_20 : σ_17 (27 + 2) = q_an G 8 fi := (hf_16 _ (by omega)).trans hj_5
  have hc_21 : σ_17 (27 + 3) = q_an G 8 se := (hf_16 _ (by omega)).trans hj_6
  have hc_22 : σ_17 (27 + 4) = q_an G 8 tf := (hf_16 _ (by omega)).trans hj_7
  have hc_23 : σ_17 (27 + 5) = q_an G 8 ts := (hf_16 _ (by omega)).trans hj_8
  have hc_24 : σ_17 (25 + 9) = q_an G 100 tu := (hf_16 _ (by omega)).trans hj_10
  have hc_25 : ∀ j9 : Nat, j9 < 4 → σ_17 (25 + 10 + 2 * j9) = o7 G (25 + 10 + 2 * j9) (lN (nm j9)) (lN (on j9)) (nI (sl j9)) (nI (mo j9)) (nI (nb j9)) := fun j9 hj0 => (hf_16 _ (by omega)).trans (hj_11 j9 (by omega))
  have hc_26 : ∀ j9 : Nat, j9 < 4 → σ_17 (25 + 10 + 2 * j9 + 1) = q_an G 5 (bm j9) := fun j9 hj0 => (hf_16 _ (by omega)).trans (hj_12 j9 (by omega))
  refine A_aload_n hg dX0_beginPlain_4 rfl rfl ?_
  refine A_ldcS hg (sc_RX0_58 hg.2.2.2.2.2.2.1.1).1 dX0_beginPlain_5 ?_
  refine A_eS (kc2 := 0) (ks2 := 0) (As := [.ref (q_sa G RX0 58)]) (rest := [.ref (q_h G + 25)]) hg lk_RX0_60 st_X9_packed dX0_beginPlain_7 ⟨by decide, by decide⟩ rfl rfl ⟨by decide, by decide⟩ rfl rfl (Nat.le_of_ble_eq_true rfl) (c_X9_packed G ex n σ_17 (q_sa G RX0 58) ([112, 108, 97, 105, 110]) ((sc_RX0_58 hg.2.2.2.2.2.2.1.1).2) (by decide) (by decide)) ?_
  refine A_hV (kc2 := 0) (ks2 := 0) (As := [.long (lN (x_pk (x_wu ([112, 108, 97, 105, 110])) ([112, 108, 97, 105, 110]).length))]) (rest := []) hg lk_RX0_66 in_X0_addRule se_X0_addRule rfl dX0_beginPlain_10 ⟨by decide, by decide⟩ rfl rfl ⟨by decide, by decide⟩ hc_13 (by omega) rfl rfl (Nat.le_of_ble_eq_true rfl) (c_X0_addRule G ex n σ_17 25 0 0 0 1 0 nm on sl mo nb bm (x_pk (x_wu ([112, 108, 97, 105, 110])) ([112, 108, 97, 105, 110]).length) hc_13 hc_18 hc_25 hc_26 (by omega) (by omega)) ?_
  rintro _ σ_31 ⟨rfl, hc_27, hc_28, hc_29, hf_30⟩
  refine (?_ : AJ G K Q 0 0 ex n 13 [some (.ref (q_h G + 25))] [.ref (q_h G + (25 + 10 + 2 * 0))] σ_31)
  have hc_32 : σ_31 26 = q_rn G 3 4 (fun j => some (25 + 10 + 2 * j)) := (hf_30 _ (by omega)).trans hc_18
  have hc_33 : σ_31 (27 + 1) = q_an G 8 kd := (hf_30 _ (by omega)).trans hc_19
  have hc_34 : σ_31 (27 + 2) = q_an G 8 fi := (hf_30 _ (by omega)).trans hc_20
  have hc_35 : σ_31 (27 + 3) = q_an G 8 se := (hf_30 _ (by omega)).trans hc_21
  have hc_36 : σ_31 (27 + 4) = q_an G 8 tf := (hf_30 _ (by omega)).trans hc_22
  have hc_37 : σ_31 (27 + 5) = q_an G 8 ts := (hf_30 _ (by omega)).trans hc_23
  have hc_38 : σ_31 (25 + 9) = q_an G 100 tu := (hf_30 _ (by omega)).trans hc_24
  have hc_39 : σ_31 (25 + 2) = o6 G (25 + 2) (nI (0)) (nI (0)) := (hf_30 _ (by omega)).trans hc_14
  have hc_40 : σ_31 (25 + 8) = q_an G 10 (fun _ => 0) := (hf_30 _ (by omega)).trans hc_15
  refine A_pop hg dX0_beginPlain_13 rfl ?_
  refine A_aload_n hg dX0_beginPlain_14 rfl rfl ?_
  refine A_getf (v := .ref (q_h G + 27)) hg fl_RX0_24 dX0_beginPlain_15 hc_27 (by omega) rfl ?_
  refine A_iconst (v := (nI (0))) hg dX0_beginPlain_18 (by decide) ?_
  refine A_iconst (v := (nI (5))) hg dX0_beginPlain_19 (by decide) ?_
  refine A_bipush (v := (nI (8))) hg dX0_beginPlain_20 (by decide) ?_
  refine A_vV (kc2 := 0) (ks2 := 0) (As := [.int (nI (0)), .int (nI (5)), .int (nI (8))]) (rest := []) hg lk_RX0_70 in_X6_addBoard se_X6_addBoard rfl dX0_beginPlain_22 ⟨by decide, by decide⟩ rfl rfl ⟨by decide, by decide⟩ hc_39 (by omega) rfl rfl (Nat.le_of_ble_eq_true rfl) (c_X6_addBoard G ex n σ_31 27 0 0 kd fi se tf ts 0 5 8 hc_39 hc_33 hc_34 hc_35 hc_36 hc_37 (by omega) (by omega)) ?_
  rintro σ_48 ⟨hc_41, hc_42, hc_43, hc_44, hc_45, hc_46, hf_47⟩
  have hc_49 : σ_48 26 = q_rn G 3 4 (fun j => some (25 + 10 + 2 * j)) := (hf_47 _ (by omega)).trans hc_32
  have hc_50 : σ_48 (25 + 9) = q_an G 100 tu := (hf_47 _ (by omega)).trans hc_38
  have hc_51 : σ_48 (25 + 8) = q_an G 10 (fun _ => 0) := (hf_47 _ (by omega)).trans hc_40
  have hc_52 : σ_48 25 = o0 G (25) (nI (0 + 1)) (nI (0)) (nI (0)) (nI (1)) (nI (0)) := (hf_47 _ (by omega)).trans hc_27
  have hc_53 : ∀ j9 : Nat, j9 < 4 → σ_48 (25 + 10 + 2 * j9) = o7 G (25 + 10 + 2 * j9) (lN (va_up nm 0 (x_pk (x_wu ([112, 108, 97, 105, 110])) ([112, 108, 97, 105, 110]).length) j9)) (lN (va_up on 0 0 j9)) (nI (va_up sl 0 1 j9)) (nI (va_up mo 0 40 j9)) (nI (va_up nb 0 0 j9)) := fun j9 hj0 => (hf_47 _ (by omega)).trans (hc_28 j9 (by omega))
  have hc_54 : ∀ j9 : Nat, j9 < 4 → σ_48 (25 + 10 + 2 * j9 + 1) = q_an G 5 (bm j9) := fun j9 hj0 => (hf_47 _ (by omega)).trans (hc_29 j9 (by omega))
  have hc_55 : σ_48 25 = o0 G (25) (nI (x_gI 0)) (nI (x_gI 3)) (nI (x_gI 4)) (nI (x_gI 5)) (nI (x_gI 6)) := hc_52.trans rfl
  have hc_56 : σ_48 27 = o6 G (27) (nI (x_gI 1)) (nI (x_gI 2)) := hc_41.trans rfl
  rw [hQ]
  exact A_return hg (by decide) (by decide) rfl dX0_beginPlain_25 ⟨rfl, ⟨rfl, ⟨_, _, _, _, _, _, _, _, _, _, _, _, _, ⟨hc_55, hc_49, hc_56, hc_42, hc_43, hc_44, hc_45, hc_46, hc_51, hc_50, hc_53, hc_54⟩, x_gr_I rfl rfl rfl rfl rfl (fun _ _ => rfl) rfl rfl rfl rfl rfl⟩, hc_55, (fun i hi => ((hf_47 i (by omega)).trans ((hf_30 i (by omega)).trans (hf_16 i (by omega)))))⟩⟩
set_option maxRecDepth 100000 in
set_option maxHeartbeats 4000000 in
theorem c_X10_init (G : GL) (σ : Nat → va_E)  (hc0 : σ 0 = .inr (10, [.null, .int (nI (0)), .int (nI (0)), .int (nI (0)), .null, .null, .null, .null, .null, .null, .null, .null, .null, .null, .null]))  : CtN G yX10_init cX10_init 2 none ⟨6, 278, 45666, 128⟩ [.ref (q_h G + 0)] true 1 σ (fun v9 n' σ' => n' = 279 ∧ (fun v9 σ2 => v9 = none ∧ (x_lj G σ2) ∧ (x_gm G σ2 25 x_gI) ∧ (x_mx G σ2) ∧ (x_hi G σ2 0 0 (fun _ => x_gI)) ∧ (x_oj G σ2) ∧ (x_pj G σ2) ∧ (x_hn G σ2) ∧ (∀ j : Nat, j < 2 → x_gj G σ2 (243 + 18 * j)) ∧ σ2 0 = o10 G (nI (0)) (nI (0)) (q_d (0)) ∧ σ2 1 = q_an G 600 (fun _ => 0) ∧ σ2 23 = o5 G (23) (nI (0)) ∧ σ2 24 = q_an G 256 (fun _ => 0) ∧ σ2 224 = q_rn G 2 2 (fun j => some (243 + 18 * j)) ∧ σ2 225 = q_bn G 2 (fun _ => 0) ∧ (∀ i : Nat, i < 0 → σ2 i = σ i)) v9 σ') q_noX := by
  refine q_enterI [some (.ref (q_h G + 0)), none] (by decide) (Nat.le_of_ble_eq_true rfl) rfl ?_
  intro K hg hme
  obtain ⟨Q, hQ⟩ : ∃ Q, Q = q_Q G K true 1 278 45666 (fun v9 n' σ' => n' = 279 ∧ (fun v9 σ2 => v9 = none ∧ (x_lj G σ2) ∧ (x_gm G σ2 25 x_gI) ∧ (x_mx G σ2) ∧ (x_hi G σ2 0 0 (fun _ => x_gI)) ∧ (x_oj G σ2) ∧ (x_pj G σ2) ∧ (x_hn G σ2) ∧ (∀ j : Nat, j < 2 → x_gj G σ2 (243 + 18 * j)) ∧ σ2 0 = o10 G (nI (0)) (nI (0)) (q_d (0)) ∧ σ2 1 = q_an G 600 (fun _ => 0) ∧ σ2 23 = o5 G (23) (nI (0)) ∧ σ2 24 = q_an G 256 (fun _ => 0) ∧ σ2 224 = q_rn G 2 2 (fun j => some (243 + 18 * j)) ∧ σ2 225 = q_bn G 2 (fun _ => 0) ∧ (∀ i : Nat, i < 0 → σ2 i = σ i)) v9 σ') q_noX := ⟨_, rfl⟩
  refine (?_ : AJ G K (q_Q G K true 1 278 45666 _ _) 0 0 true 1 0 _ _ σ)
  rw [← hQ]
  refine A_aload_n hg dX10_init_0 rfl rfl ?_
  refine A_objInit hg (q_mt 33 (by decide +kernel)) (q_mt 34 (by decide +kernel)) (q_mt 35 (by decide +kernel)) dX10_init_1 ⟨by decide, by decide⟩ (Nat.le_of_ble_eq_true rfl) ?_
  refine A_aload_n hg dX10_init_4 rfl rfl ?_
  refine A_sipush (v := (nI (600))) hg dX10_init_5 (by decide) ?_
  refine A_newa (t := 0) (N := 600) (a0 := (600, .inl (fun _ => nI 0))) hg (by decide) rfl (fun C h => by cases h) (q_mt 70 (by decide +kernel)) (fun _ => rfl) (by decide) (by decide) (by decide) (by decide) dX10_init_8 (fun σ_1 hc_2 hf_3 => ?_)
  have hc_2 : σ_1 1 = q_an G 600 (fun _ => 0) := hc_2
  have hc_4 : σ_1 0 = .inr (10, [.null, .int (nI (0)), .int (nI (0)), .int (nI (0)), .null, .null, .null, .null, .null, .null, .null, .null, .null, .null, .null]) := (hf_3 _ (by omega)).trans hc0
  refine A_putF (fs' := [.ref (q_h G + 1), .int (nI (0)), .int (nI (0)), .int (nI (0)), .null, .null, .null, .null, .null, .null, .null, .null, .null, .null, .null]) hg fl_RX10_9 hme rfl (by intro C T N h; cases h; exact q_mt 432 (by decide +kernel)) dX10_init_10 hc_4 (by omega) (Nat.le_of_ble_eq_true rfl) rfl rfl rfl (fun σ_5 hc_6 hf_7 => ?_)
  have hc_6 : σ_5 0 = .inr (10, [.ref (q_h G + 1), .int (nI (0)), .int (nI (0)), .int (nI (0)), .null, .null, .null, .null, .null, .null, .null, .null, .null, .null, .null]) := hc_6
  have hc_8 : σ_5 1 = q_an G 600 (fun _ => 0) := (hf_7 _ (by omega)).trans hc_2
  refine A_aload_n hg dX10_init_13 rfl rfl ?_
  refine A_iconst (v := (nI (0))) hg dX10_init_14 (by decide) ?_
  refine A_putf hg fl_RX10_13 dX10_init_15 hc_6 (by omega) (Nat.le_of_ble_eq_true rfl) rfl rfl rfl (fun σ_9 hc_10 hf_11 => ?_)
  have hc_10 : σ_9 0 = .inr (10, [.ref (q_h G + 1), .int (nI (0)), .int (nI (0)), .int (nI (0)), .null, .null, .null, .null, .null, .null, .null, .null, .null, .null, .null]) := hc_10
  have hc_12 : σ_9 1 = q_an G 600 (fun _ => 0) := (hf_11 _ (by omega)).trans hc_8
  refine A_aload_n hg dX10_init_18 rfl rfl ?_
  refine A_iconst (v := (nI (0))) hg dX10_init_19 (by decide) ?_
  refine A_putf hg fl_RX10_17 dX10_init_20 hc_10 (by omega) (Nat.le_of_ble_eq_true rfl) rfl rfl rfl (fun σ_13 hc_14 hf_15 => ?_)
  have hc_14 : σ_13 0 = .inr (10, [.ref (q_h G + 1), .int (nI (0)), .int (nI (0)), .int (nI (0)), .null, .null, .null, .null, .null, .null, .null, .null, .null, .null, .null]) := hc_14
  have hc_16 : σ_13 1 = q_an G 600 (fun _ => 0) := (hf_15 _ (by omega)).trans hc_12
  refine A_aload_n hg dX10_init_23 rfl rfl ?_
  refine A_iconst (v := (q_d (0))) hg dX10_init_24 (by decide) ?_
  refine A_putf hg fl_RX10_20 dX10_init_25 hc_14 (by omega) (Nat.le_of_ble_eq_true rfl) rfl rfl rfl (fun σ_17 hc_18 hf_19 => ?_)
  have hc_18 : σ_17 0 = .inr (10, [.ref (q_h G + 1), .int (nI (0)), .int (nI (0)), .int (q_d (0)), .null, .null, .null, .null, .null, .null, .null, .null, .null, .null, .null]) := hc_18
  have hc_20 : σ_17 1 = q_an G 600 (fun _ => 0) := (hf_19 _ (by omega)).trans hc_16
  refine A_aload_n hg dX10_init_28 rfl rfl ?_
  refine A_newo (ci := 3) (fs := [.null, .null, .int (nI (0)), .int (nI (0)), .int (nI (0))]) (C := RX3) (T := TX3) (N := 5) hg tyX3 rfl uw_3 tyX3_ok (q_mt 36 (by decide +kernel)) (q_mt 37 (by decide +kernel)) (q_mt 2 (by decide +kernel)) nd_3 (by decide) (by decide) dX10_init_29 (fun σ_21 hc_22 hf_23 => ?_)
  have hc_22 : σ_21 2 = .inr (3, [.null, .null, .int (nI (0)), .int (nI (0)), .int (nI (0))]) := hc_22
  have hc_24 : σ_21 1 = q_an G 600 (fun _ => 0) := (hf_23 _ (by omega)).trans hc_20
  have hc_25 : σ_21 0 = .inr (10, [.ref (q_h G + 1), .int (nI (0)), .int (nI (0)), .int (q_d (0)), .null, .null, .null, .null, .null, .null, .null, .null, .null, .null, .null]) := (hf_23 _ (by omega)).trans hc_18
  refine A_dup hg dX10_init_32 rfl ?_
  refine A_callI (id := 2) (As := []) (rest := [.ref (q_h G + 2), .ref (q_h G + 0)]) hg lk_RX10_25 rfl in_X3_init dX10_init_33 ⟨by decide, by decide⟩ ⟨by decide, by decide⟩ rfl rfl (Nat.le_of_ble_eq_true rfl) (c_X3_init G σ_21 hc_22) q_nx ?_
  rintro _ _ σ_27 ⟨rfl, rfl, hLa, hf_26⟩
  refine (?_ : AJ G K Q 22 825 true 23 36 [some (.ref (q_h G + 0)), none] [.ref (q_h G + 2), .ref (q_h G + 0)] σ_27)
  have hc_28 : σ_27 1 = q_an G 600 (fun _ => 0) := (hf_26 _ (by omega)).trans hc_24
  have hc_29 : σ_27 0 = .inr (10, [.ref (q_h G + 1), .int (nI (0)), .int (nI (0)), .int (q_d (0)), .null, .null, .null, .null, .null, .null, .null, .null, .null, .null, .null]) := (hf_26 _ (by omega)).trans hc_25
  refine A_putF (fs' := [.ref (q_h G + 1), .int (nI (0)), .int (nI (0)), .int (q_d (0)), .ref (q_h G + 2), .null, .null, .null, .null, .null, .null, .null, .null, .null, .null]) hg fl_RX10_26 hme rfl (by intro C T N h; cases h; exact q_mt 436 (by decide +kernel)) dX10_init_36 hc_29 (by omega) (Nat.le_of_ble_eq_true rfl) rfl rfl rfl (fun σ_30 hc_31 hf_32 => ?_)
  have hc_31 : σ_30 0 = .inr (10, [.ref (q_h G + 1), .int (nI (0)), .int (nI (0)), .int (q_d (0)), .ref (q_h G + 2), .null, .null, .null, .null, .null, .null, .null, .null, .null, .null]) := hc_31
  have hc_33 : σ_30 1 = q_an G 600 (fun _ => 0) := (hf_32 _ (by omega)).trans hc_28
  refine A_aload_n hg dX10_init_39 rfl rfl ?_
  refine A_newo (ci := 5) (fs := [.null, .int (nI (0))]) (C := RX5) (T := TX5) (N := 2) hg tyX5 rfl uw_5 tyX5_ok (q_mt 201 (by decide +kernel)) (q_mt 202 (by decide +kernel)) (q_mt 7 (by decide +kernel)) nd_5 (by decide) (by decide) dX10_init_40 (fun σ_34 hc_35 hf_36 => ?_)
  have hc_35 : σ_34 23 = .inr (5, [.null, .int (nI (0))]) := hc_35
  have hc_37 : σ_34 1 = q_an G 600 (fun _ => 0) := (hf_36 _ (by omega)).trans hc_33
  have hc_38 : σ_34 0 = .inr (10, [.ref (q_h G + 1), .int (nI (0)), .int (nI (0)), .int (q_d (0)), .ref (q_h G + 2), .null, .null, .null, .null, .null, .null, .null, .null, .null, .null]) := (hf_36 _ (by omega)).trans hc_31
  refine A_dup hg dX10_init_43 rfl ?_
  refine A_callI (id := 23) (As := []) (rest := [.ref (q_h G + 23), .ref (q_h G + 0)]) hg lk_RX10_32 rfl in_X5_init dX10_init_44 ⟨by decide, by decide⟩ ⟨by decide, by decide⟩ rfl rfl (Nat.le_of_ble_eq_true rfl) (c_X5_init G σ_34 23 hc_35) q_nx ?_
  rintro _ _ σ_42 ⟨rfl, rfl, hc_39, hc_40, hf_41⟩
  refine (?_ : AJ G K Q 24 1083 true 25 47 [some (.ref (q_h G + 0)), none] [.ref (q_h G + 23), .ref (q_h G + 0)] σ_42)
  have hc_43 : σ_42 1 = q_an G 600 (fun _ => 0) := (hf_41 _ (by omega)).trans hc_37
  have hc_44 : σ_42 0 = .inr (10, [.ref (q_h G + 1), .int (nI (0)), .int (nI (0)), .int (q_d (0)), .ref (q_h G + 2), .null, .null, .null, .null, .null, .null, .null, .null, .null, .null]) := (hf_41 _ (by omega)).trans hc_38
  refine A_putF (fs' := [.ref (q_h G + 1), .int (nI (0)), .int (nI (0)), .int (q_d (0)), .ref (q_h G + 2), .ref (q_h G + 23), .null, .null, .null, .null, .null, .null, .null, .null, .null]) hg fl_RX10_33 hme rfl (by intro C T N h; cases h; exact q_mt 437 (by decide +kernel)) dX10_init_47 hc_44 (by omega) (Nat.le_of_ble_eq_true rfl) rfl rfl rfl (fun σ_45 hc_46 hf_47 => ?_)
  have hc_46 : σ_45 0 = .inr (10, [.ref (q_h G + 1), .int (nI (0)), .int (nI (0)), .int (q_d (0)), .ref (q_h G + 2), .ref (q_h G + 23), .null, .null, .null, .null, .null, .null, .null, .null, .null]) := hc_46
  have hc_48 : σ_45 1 = q_an G 600 (fun _ => 0) := (hf_47 _ (by omega)).trans hc_43
  have hc_49 : σ_45 23 = o5 G (23) (nI (0)) := (hf_47 _ (by omega)).trans hc_39
  have hc_50 : σ_45 24 = q_an G 256 (fun _ => 0) := (hf_47 _ (by omega)).trans hc_40
  refine A_aload_n hg dX10_init_50 rfl rfl ?_
  refine A_newo (ci := 0) (fs := [.null, .int (nI (0)), .null, .int (nI (0)), .int (nI (0)), .int (nI (0)), .null, .null, .int (nI (0))]) (C := RX0) (T := TX0) (N := 9) hg tyX0 rfl uw_0 tyX0_ok (q_mt 215 (by decide +kernel)) (q_mt 72 (by decide +kernel)) (q_mt 4 (by decide +kernel)) nd_0 (by decide) (by decide) dX10_init_51 (fun σ_51 hc_52 hf_53 => ?_)
  have hc_52 : σ_51 25 = .inr (0, [.null, .int (nI (0)), .null, .int (nI (0)), .int (nI (0)), .int (nI (0)), .null, .null, .int (nI (0))]) := hc_52
  have hc_54 : σ_51 1 = q_an G 600 (fun _ => 0) := (hf_53 _ (by omega)).trans hc_48
  have hc_55 : σ_51 23 = o5 G (23) (nI (0)) := (hf_53 _ (by omega)).trans hc_49
  have hc_56 : σ_51 24 = q_an G 256 (fun _ => 0) := (hf_53 _ (by omega)).trans hc_50
  have hc_57 : σ_51 0 = .inr (10, [.ref (q_h G + 1), .int (nI (0)), .int (nI (0)), .int (q_d (0)), .ref (q_h G + 2), .ref (q_h G + 23), .null, .null, .null, .null, .null, .null, .null, .null, .null]) := (hf_53 _ (by omega)).trans hc_46
  refine A_dup hg dX10_init_54 rfl ?_
  refine A_callI (id := 25) (As := []) (rest := [.ref (q_h G + 25), .ref (q_h G + 0)]) hg lk_RX10_39 rfl in_X0_init dX10_init_55 ⟨by decide, by decide⟩ ⟨by decide, by decide⟩ rfl rfl (Nat.le_of_ble_eq_true rfl) (c_X0_init G σ_51 25 hc_52) q_nx ?_
  rintro _ _ σ_59 ⟨rfl, rfl, hJ25a, hf_58⟩
  refine (?_ : AJ G K Q 42 1297 true 43 58 [some (.ref (q_h G + 0)), none] [.ref (q_h G + 25), .ref (q_h G + 0)] σ_59)
  have hc_60 : σ_59 1 = q_an G 600 (fun _ => 0) := (hf_58 _ (by omega)).trans hc_54
  have hc_61 : σ_59 23 = o5 G (23) (nI (0)) := (hf_58 _ (by omega)).trans hc_55
  have hc_62 : σ_59 24 = q_an G 256 (fun _ => 0) := (hf_58 _ (by omega)).trans hc_56
  have hc_63 : σ_59 0 = .inr (10, [.ref (q_h G + 1), .int (nI (0)), .int (nI (0)), .int (q_d (0)), .ref (q_h G + 2), .ref (q_h G + 23), .null, .null, .null, .null, .null, .null, .null, .null, .null]) := (hf_58 _ (by omega)).trans hc_57
  refine A_putF (fs' := [.ref (q_h G + 1), .int (nI (0)), .int (nI (0)), .int (q_d (0)), .ref (q_h G + 2), .ref (q_h G + 23), .ref (q_h G + 25), .null, .null, .null, .null, .null, .null, .null, .null]) hg fl_RX10_40 hme rfl (by intro C T N h; cases h; exact q_mt 438 (by decide +kernel)) dX10_init_58 hc_63 (by omega) (Nat.le_of_ble_eq_true rfl) rfl rfl rfl (fun σ_64 hc_65 hf_66 => ?_)
  have hc_65 : σ_64 0 = .inr (10, [.ref (q_h G + 1), .int (nI (0)), .int (nI (0)), .int (q_d (0)), .ref (q_h G + 2), .ref (q_h G + 23), .ref (q_h G + 25), .null, .null, .null, .null, .null, .null, .null, .null]) := hc_65
  have hc_67 : σ_64 1 = q_an G 600 (fun _ => 0) := (hf_66 _ (by omega)).trans hc_60
  have hc_68 : σ_64 23 = o5 G (23) (nI (0)) := (hf_66 _ (by omega)).trans hc_61
  have hc_69 : σ_64 24 = q_an G 256 (fun _ => 0) := (hf_66 _ (by omega)).trans hc_62
  refine A_aload_n hg dX10_init_61 rfl rfl ?_
  refine A_newo (ci := 4) (fs := [.null, .null]) (C := RX4) (T := TX4) (N := 2) hg tyX4 rfl uw_4 tyX4_ok (q_mt 217 (by decide +kernel)) (q_mt 218 (by decide +kernel)) (q_mt 8 (by decide +kernel)) nd_4 (by decide) (by decide) dX10_init_62 (fun σ_70 hc_71 hf_72 => ?_)
  have hc_71 : σ_70 43 = .inr (4, [.null, .null]) := hc_71
  have hc_73 : σ_70 1 = q_an G 600 (fun _ => 0) := (hf_72 _ (by omega)).trans hc_67
  have hc_74 : σ_70 23 = o5 G (23) (nI (0)) := (hf_72 _ (by omega)).trans hc_68
  have hc_75 : σ_70 24 = q_an G 256 (fun _ => 0) := (hf_72 _ (by omega)).trans hc_69
  have hc_76 : σ_70 0 = .inr (10, [.ref (q_h G + 1), .int (nI (0)), .int (nI (0)), .int (q_d (0)), .ref (q_h G + 2), .ref (q_h G + 23), .ref (q_h G + 25), .null, .null, .null, .null, .null, .null, .null, .null]) := (hf_72 _ (by omega)).trans hc_65
  refine A_dup hg dX10_init_65 rfl ?_
  refine A_callI (id := 43) (As := []) (rest := [.ref (q_h G + 43), .ref (q_h G + 0)]) hg lk_RX10_46 rfl in_X4_init dX10_init_66 ⟨by decide, by decide⟩ ⟨by decide, by decide⟩ rfl rfl (Nat.le_of_ble_eq_true rfl) (c_X4_init G σ_70 hc_71) q_nx ?_
  rintro _ _ σ_78 ⟨rfl, rfl, hMa, hf_77⟩
  refine (?_ : AJ G K Q 77 35020 true 78 69 [some (.ref (q_h G + 0)), none] [.ref (q_h G + 43), .ref (q_h G + 0)] σ_78)
  have hc_79 : σ_78 1 = q_an G 600 (fun _ => 0) := (hf_77 _ (by omega)).trans hc_73
  have hc_80 : σ_78 23 = o5 G (23) (nI (0)) := (hf_77 _ (by omega)).trans hc_74
  have hc_81 : σ_78 24 = q_an G 256 (fun _ => 0) := (hf_77 _ (by omega)).trans hc_75
  have hc_82 : σ_78 0 = .inr (10, [.ref (q_h G + 1), .int (nI (0)), .int (nI (0)), .int (q_d (0)), .ref (q_h G + 2), .ref (q_h G + 23), .ref (q_h G + 25), .null, .null, .null, .null, .null, .null, .null, .null]) := (hf_77 _ (by omega)).trans hc_76
  refine A_putF (fs' := [.ref (q_h G + 1), .int (nI (0)), .int (nI (0)), .int (q_d (0)), .ref (q_h G + 2), .ref (q_h G + 23), .ref (q_h G + 25), .ref (q_h G + 43), .null, .null, .null, .null, .null, .null, .null]) hg fl_RX10_47 hme rfl (by intro C T N h; cases h; exact q_mt 439 (by decide +kernel)) dX10_init_69 hc_82 (by omega) (Nat.le_of_ble_eq_true rfl) rfl rfl rfl (fun σ_83 hc_84 hf_85 => ?_)
  have hc_84 : σ_83 0 = .inr (10, [.ref (q_h G + 1), .int (nI (0)), .int (nI (0)), .int (q_d (0)), .ref (q_h G + 2), .ref (q_h G + 23), .ref (q_h G + 25), .ref (q_h G + 43), .null, .null, .null, .null, .null, .null, .null]) := hc_84
  have hc_86 : σ_83 1 = q_an G 600 (fun _ => 0) := (hf_85 _ (by omega)).trans hc_79
  have hc_87 : σ_83 23 = o5 G (23) (nI (0)) := (hf_85 _ (by omega)).trans hc_80
  have hc_88 : σ_83 24 = q_an G 256 (fun _ => 0) := (hf_85 _ (by omega)).trans hc_81
  refine A_aload_n hg dX10_init_72 rfl rfl ?_
  refine A_newo (ci := 2) (fs := [.null, .int (nI (0)), .int (nI (0))]) (C := RX2) (T := TX2) (N := 3) hg tyX2 rfl uw_2 tyX2_ok (q_mt 314 (by decide +kernel)) (q_mt 315 (by decide +kernel)) (q_mt 11 (by decide +kernel)) nd_2 (by decide) (by decide) dX10_init_73 (fun σ_89 hc_90 hf_91 => ?_)
  have hc_90 : σ_89 78 = .inr (2, [.null, .int (nI (0)), .int (nI (0))]) := hc_90
  have hc_92 : σ_89 1 = q_an G 600 (fun _ => 0) := (hf_91 _ (by omega)).trans hc_86
  have hc_93 : σ_89 23 = o5 G (23) (nI (0)) := (hf_91 _ (by omega)).trans hc_87
  have hc_94 : σ_89 24 = q_an G 256 (fun _ => 0) := (hf_91 _ (by omega)).trans hc_88
  have hc_95 : σ_89 0 = .inr (10, [.ref (q_h G + 1), .int (nI (0)), .int (nI (0)), .int (q_d (0)), .ref (q_h G + 2), .ref (q_h G + 23), .ref (q_h G + 25), .ref (q_h G + 43), .null, .null, .null, .null, .null, .null, .null]) := (hf_91 _ (by omega)).trans hc_84
  refine A_dup hg dX10_init_76 rfl ?_
  refine A_callI (id := 78) (As := []) (rest := [.ref (q_h G + 78), .ref (q_h G + 0)]) hg lk_RX10_53 rfl in_X2_init dX10_init_77 ⟨by decide, by decide⟩ ⟨by decide, by decide⟩ rfl rfl (Nat.le_of_ble_eq_true rfl) (c_X2_init G σ_89 hc_90) q_nx ?_
  rintro _ _ σ_97 ⟨rfl, rfl, hHia, hf_96⟩
  refine (?_ : AJ G K Q 223 36743 true 224 80 [some (.ref (q_h G + 0)), none] [.ref (q_h G + 78), .ref (q_h G + 0)] σ_97)
  have hc_98 : σ_97 1 = q_an G 600 (fun _ => 0) := (hf_96 _ (by omega)).trans hc_92
  have hc_99 : σ_97 23 = o5 G (23) (nI (0)) := (hf_96 _ (by omega)).trans hc_93
  have hc_100 : σ_97 24 = q_an G 256 (fun _ => 0) := (hf_96 _ (by omega)).trans hc_94
  have hc_101 : σ_97 0 = .inr (10, [.ref (q_h G + 1), .int (nI (0)), .int (nI (0)), .int (q_d (0)), .ref (q_h G + 2), .ref (q_h G + 23), .ref (q_h G + 25), .ref (q_h G + 43), .null, .null, .null, .null, .null, .null, .null]) := (hf_96 _ (by omega)).trans hc_95
  refine A_putF (fs' := [.ref (q_h G + 1), .int (nI (0)), .int (nI (0)), .int (q_d (0)), .ref (q_h G + 2), .ref (q_h G + 23), .ref (q_h G + 25), .ref (q_h G + 43), .ref (q_h G + 78), .null, .null, .null, .null, .null, .null]) hg fl_RX10_54 hme rfl (by intro C T N h; cases h; exact q_mt 440 (by decide +kernel)) dX10_init_80 hc_101 (by omega) (Nat.le_of_ble_eq_true rfl) rfl rfl rfl (fun σ_102 hc_103 hf_104 => ?_)
  have hc_103 : σ_102 0 = .inr (10, [.ref (q_h G + 1), .int (nI (0)), .int (nI (0)), .int (q_d (0)), .ref (q_h G + 2), .ref (q_h G + 23), .ref (q_h G + 25), .ref (q_h G + 43), .ref (q_h G + 78), .null, .null, .null, .null, .null, .null]) := hc_103
  have hc_105 : σ_102 1 = q_an G 600 (fun _ => 0) := (hf_104 _ (by omega)).trans hc_98
  have hc_106 : σ_102 23 = o5 G (23) (nI (0)) := (hf_104 _ (by omega)).trans hc_99
  have hc_107 : σ_102 24 = q_an G 256 (fun _ => 0) := (hf_104 _ (by omega)).trans hc_100
  refine A_aload_n hg dX10_init_83 rfl rfl ?_
  refine A_iconst (v := (nI (2))) hg dX10_init_84 (by decide) ?_
  refine A_newq (C := "GoldenHeaps$Game") (t := 2) (N := 2) hg (by decide) rfl (q_mt 215 (by decide +kernel)) (q_mt 321 (by decide +kernel)) (by decide) (by decide) (by decide) (by decide) dX10_init_85 (fun σ_108 hc_109 hf_110 => ?_)
  have hc_109 : σ_108 224 = q_rn G 2 2 (fun _ => none) := hc_109
  have hc_111 : σ_108 1 = q_an G 600 (fun _ => 0) := (hf_110 _ (by omega)).trans hc_105
  have hc_112 : σ_108 23 = o5 G (23) (nI (0)) := (hf_110 _ (by omega)).trans hc_106
  have hc_113 : σ_108 24 = q_an G 256 (fun _ => 0) := (hf_110 _ (by omega)).trans hc_107
  have hc_114 : σ_108 0 = .inr (10, [.ref (q_h G + 1), .int (nI (0)), .int (nI (0)), .int (q_d (0)), .ref (q_h G + 2), .ref (q_h G + 23), .ref (q_h G + 25), .ref (q_h G + 43), .ref (q_h G + 78), .null, .null, .null, .null, .null, .null]) := (hf_110 _ (by omega)).trans hc_103
  refine A_putF (fs' := [.ref (q_h G + 1), .int (nI (0)), .int (nI (0)), .int (q_d (0)), .ref (q_h G + 2), .ref (q_h G + 23), .ref (q_h G + 25), .ref (q_h G + 43), .ref (q_h G + 78), .ref (q_h G + 224), .null, .null, .null, .null, .null]) hg fl_RX10_58 hme rfl (by intro C T N h; cases h; exact q_mt 441 (by decide +kernel)) dX10_init_88 hc_114 (by omega) (Nat.le_of_ble_eq_true rfl) rfl rfl rfl (fun σ_115 hc_116 hf_117 => ?_)
  have hc_116 : σ_115 0 = .inr (10, [.ref (q_h G + 1), .int (nI (0)), .int (nI (0)), .int (q_d (0)), .ref (q_h G + 2), .ref (q_h G + 23), .ref (q_h G + 25), .ref (q_h G + 43), .ref (q_h G + 78), .ref (q_h G + 224), .null, .null, .null, .null, .null]) := hc_116
  have hc_118 : σ_115 1 = q_an G 600 (fun _ => 0) := (hf_117 _ (by omega)).trans hc_111
  have hc_119 : σ_115 23 = o5 G (23) (nI (0)) := (hf_117 _ (by omega)).trans hc_112
  have hc_120 : σ_115 24 = q_an G 256 (fun _ => 0) := (hf_117 _ (by omega)).trans hc_113
  have hc_121 : σ_115 224 = q_rn G 2 2 (fun _ => none) := (hf_117 _ (by omega)).trans hc_109
  refine A_aload_n hg dX10_init_91 rfl rfl ?_
  refine A_iconst (v := (nI (2))) hg dX10_init_92 (by decide) ?_
  refine A_newa (t := 1) (N := 2) (a0 := (2, .inl (fun _ => nI 0))) hg (by decide) rfl (fun C h => by cases h) (q_mt 478 (by decide +kernel)) (fun _ => rfl) (by decide) (by decide) (by decide) (by decide) dX10_init_93 (fun σ_122 hc_123 hf_124 => ?_)
  have hc_123 : σ_122 225 = q_bn G 2 (fun _ => 0) := hc_123
  have hc_125 : σ_122 1 = q_an G 600 (fun _ => 0) := (hf_124 _ (by omega)).trans hc_118
  have hc_126 : σ_122 23 = o5 G (23) (nI (0)) := (hf_124 _ (by omega)).trans hc_119
  have hc_127 : σ_122 24 = q_an G 256 (fun _ => 0) := (hf_124 _ (by omega)).trans hc_120
  have hc_128 : σ_122 224 = q_rn G 2 2 (fun _ => none) := (hf_124 _ (by omega)).trans hc_121
  have hc_129 : σ_122 0 = .inr (10, [.ref (q_h G + 1), .int (nI (0)), .int (nI (0)), .int (q_d (0)), .ref (q_h G + 2), .ref (q_h G + 23), .ref (q_h G + 25), .ref (q_h G + 43), .ref (q_h G + 78), .ref (q_h G + 224), .null, .null, .null, .null, .null]) := (hf_124 _ (by omega)).trans hc_116
  refine A_putF (fs' := [.ref (q_h G + 1), .int (nI (0)), .int (nI (0)), .int (q_d (0)), .ref (q_h G + 2), .ref (q_h G + 23), .ref (q_h G + 25), .ref (q_h G + 43), .ref (q_h G + 78), .ref (q_h G + 224), .ref (q_h G + 225), .null, .null, .null, .null]) hg fl_RX10_62 hme rfl (by intro C T N h; cases h; exact q_mt 442 (by decide +kernel)) dX10_init_95 hc_129 (by omega) (Nat.le_of_ble_eq_true rfl) rfl rfl rfl (fun σ_130 hc_131 hf_132 => ?_)
  have hc_131 : σ_130 0 = .inr (10, [.ref (q_h G + 1), .int (nI (0)), .int (nI (0)), .int (q_d (0)), .ref (q_h G + 2), .ref (q_h G + 23), .ref (q_h G + 25), .ref (q_h G + 43), .ref (q_h G + 78), .ref (q_h G + 224), .ref (q_h G + 225), .null, .null, .null, .null]) := hc_131
  have hc_133 : σ_130 1 = q_an G 600 (fun _ => 0) := (hf_132 _ (by omega)).trans hc_125
  have hc_134 : σ_130 23 = o5 G (23) (nI (0)) := (hf_132 _ (by omega)).trans hc_126
  have hc_135 : σ_130 24 = q_an G 256 (fun _ => 0) := (hf_132 _ (by omega)).trans hc_127
  have hc_136 : σ_130 224 = q_rn G 2 2 (fun _ => none) := (hf_132 _ (by omega)).trans hc_128
  have hc_137 : σ_130 225 = q_bn G 2 (fun _ => 0) := (hf_132 _ (by omega)).trans hc_123
  refine A_aload_n hg dX10_init_98 rfl rfl ?_
  refine A_newo (ci := 7) (fs := [.long (lN (0)), .long (lN (0)), .int (nI (0)), .int (nI (0)), .int (nI (0)), .null]) (C := RX7) (T := TX7) (N := 6) hg tyX7 rfl uw_7 tyX7_ok (q_mt 334 (by decide +kernel)) (q_mt 112 (by decide +kernel)) (q_mt 6 (by decide +kernel)) nd_7 (by decide) (by decide) dX10_init_99 (fun σ_138 hc_139 hf_140 => ?_)
  have hc_139 : σ_138 226 = .inr (7, [.long (lN (0)), .long (lN (0)), .int (nI (0)), .int (nI (0)), .int (nI (0)), .null]) := hc_139
  have hc_141 : σ_138 1 = q_an G 600 (fun _ => 0) := (hf_140 _ (by omega)).trans hc_133
  have hc_142 : σ_138 23 = o5 G (23) (nI (0)) := (hf_140 _ (by omega)).trans hc_134
  have hc_143 : σ_138 24 = q_an G 256 (fun _ => 0) := (hf_140 _ (by omega)).trans hc_135
  have hc_144 : σ_138 224 = q_rn G 2 2 (fun _ => none) := (hf_140 _ (by omega)).trans hc_136
  have hc_145 : σ_138 225 = q_bn G 2 (fun _ => 0) := (hf_140 _ (by omega)).trans hc_137
  have hc_146 : σ_138 0 = .inr (10, [.ref (q_h G + 1), .int (nI (0)), .int (nI (0)), .int (q_d (0)), .ref (q_h G + 2), .ref (q_h G + 23), .ref (q_h G + 25), .ref (q_h G + 43), .ref (q_h G + 78), .ref (q_h G + 224), .ref (q_h G + 225), .null, .null, .null, .null]) := (hf_140 _ (by omega)).trans hc_131
  refine A_dup hg dX10_init_102 rfl ?_
  refine A_callI (id := 226) (As := []) (rest := [.ref (q_h G + 226), .ref (q_h G + 0)]) hg lk_RX10_68 rfl in_X7_init dX10_init_103 ⟨by decide, by decide⟩ ⟨by decide, by decide⟩ rfl rfl (Nat.le_of_ble_eq_true rfl) (c_X7_init G σ_138 226 hc_139) q_nx ?_
  rintro _ _ σ_150 ⟨rfl, rfl, hc_147, hc_148, hf_149⟩
  refine (?_ : AJ G K Q 227 36758 true 228 106 [some (.ref (q_h G + 0)), none] [.ref (q_h G + 226), .ref (q_h G + 0)] σ_150)
  have hc_151 : σ_150 1 = q_an G 600 (fun _ => 0) := (hf_149 _ (by omega)).trans hc_141
  have hc_152 : σ_150 23 = o5 G (23) (nI (0)) := (hf_149 _ (by omega)).trans hc_142
  have hc_153 : σ_150 24 = q_an G 256 (fun _ => 0) := (hf_149 _ (by omega)).trans hc_143
  have hc_154 : σ_150 224 = q_rn G 2 2 (fun _ => none) := (hf_149 _ (by omega)).trans hc_144
  have hc_155 : σ_150 225 = q_bn G 2 (fun _ => 0) := (hf_149 _ (by omega)).trans hc_145
  have hc_156 : σ_150 0 = .inr (10, [.ref (q_h G + 1), .int (nI (0)), .int (nI (0)), .int (q_d (0)), .ref (q_h G + 2), .ref (q_h G + 23), .ref (q_h G + 25), .ref (q_h G + 43), .ref (q_h G + 78), .ref (q_h G + 224), .ref (q_h G + 225), .null, .null, .null, .null]) := (hf_149 _ (by omega)).trans hc_146
  refine A_putF (fs' := [.ref (q_h G + 1), .int (nI (0)), .int (nI (0)), .int (q_d (0)), .ref (q_h G + 2), .ref (q_h G + 23), .ref (q_h G + 25), .ref (q_h G + 43), .ref (q_h G + 78), .ref (q_h G + 224), .ref (q_h G + 225), .ref (q_h G + 226), .null, .null, .null]) hg fl_RX10_69 hme rfl (by intro C T N h; cases h; exact q_mt 443 (by decide +kernel)) dX10_init_106 hc_156 (by omega) (Nat.le_of_ble_eq_true rfl) rfl rfl rfl (fun σ_157 hc_158 hf_159 => ?_)
  have hc_158 : σ_157 0 = .inr (10, [.ref (q_h G + 1), .int (nI (0)), .int (nI (0)), .int (q_d (0)), .ref (q_h G + 2), .ref (q_h G + 23), .ref (q_h G + 25), .ref (q_h G + 43), .ref (q_h G + 78), .ref (q_h G + 224), .ref (q_h G + 225), .ref (q_h G + 226), .null, .null, .null]) := hc_158
  have hc_160 : σ_157 1 = q_an G 600 (fun _ => 0) := (hf_159 _ (by omega)).trans hc_151
  have hc_161 : σ_157 23 = o5 G (23) (nI (0)) := (hf_159 _ (by omega)).trans hc_152
  have hc_162 : σ_157 24 = q_an G 256 (fun _ => 0) := (hf_159 _ (by omega)).trans hc_153
  have hc_163 : σ_157 224 = q_rn G 2 2 (fun _ => none) := (hf_159 _ (by omega)).trans hc_154
  have hc_164 : σ_157 225 = q_bn G 2 (fun _ => 0) := (hf_159 _ (by omega)).trans hc_155
  have hc_165 : σ_157 226 = o7 G (226) (lN (0)) (lN (0)) (nI (1)) (nI (40)) (nI (0)) := (hf_159 _ (by omega)).trans hc_147
  have hc_166 : σ_157 227 = q_an G 5 (fun _ => 0) := (hf_159 _ (by omega)).trans hc_148
  refine A_aload_n hg dX10_init_109 rfl rfl ?_
  refine A_newo (ci := 8) (fs := [.null, .int (nI (0)), .null, .null, .int (nI (0)), .null, .null, .null, .int (nI (0)), .int (nI (0)), .int (nI (0)), .int (nI (0))]) (C := RX8) (T := TX8) (N := 12) hg tyX8 rfl uw_8 tyX8_ok (q_mt 336 (by decide +kernel)) (q_mt 259 (by decide +kernel)) (q_mt 10 (by decide +kernel)) nd_8 (by decide) (by decide) dX10_init_110 (fun σ_167 hc_168 hf_169 => ?_)
  have hc_168 : σ_167 228 = .inr (8, [.null, .int (nI (0)), .null, .null, .int (nI (0)), .null, .null, .null, .int (nI (0)), .int (nI (0)), .int (nI (0)), .int (nI (0))]) := hc_168
  have hc_170 : σ_167 1 = q_an G 600 (fun _ => 0) := (hf_169 _ (by omega)).trans hc_160
  have hc_171 : σ_167 23 = o5 G (23) (nI (0)) := (hf_169 _ (by omega)).trans hc_161
  have hc_172 : σ_167 24 = q_an G 256 (fun _ => 0) := (hf_169 _ (by omega)).trans hc_162
  have hc_173 : σ_167 224 = q_rn G 2 2 (fun _ => none) := (hf_169 _ (by omega)).trans hc_163
  have hc_174 : σ_167 225 = q_bn G 2 (fun _ => 0) := (hf_169 _ (by omega)).trans hc_164
  have hc_175 : σ_167 226 = o7 G (226) (lN (0)) (lN (0)) (nI (1)) (nI (40)) (nI (0)) := (hf_169 _ (by omega)).trans hc_165
  have hc_176 : σ_167 227 = q_an G 5 (fun _ => 0) := (hf_169 _ (by omega)).trans hc_166
  have hc_177 : σ_167 0 = .inr (10, [.ref (q_h G + 1), .int (nI (0)), .int (nI (0)), .int (q_d (0)), .ref (q_h G + 2), .ref (q_h G + 23), .ref (q_h G + 25), .ref (q_h G + 43), .ref (q_h G + 78), .ref (q_h G + 224), .ref (q_h G + 225), .ref (q_h G + 226), .null, .null, .null]) := (hf_169 _ (by omega)).trans hc_158
  refine A_dup hg dX10_init_113 rfl ?_
  refine A_callI (id := 228) (As := []) (rest := [.ref (q_h G + 228), .ref (q_h G + 0)]) hg lk_RX10_75 rfl in_X8_init dX10_init_114 ⟨by decide, by decide⟩ ⟨by decide, by decide⟩ rfl rfl (Nat.le_of_ble_eq_true rfl) (c_X8_init G σ_167 228 hc_168) q_nx ?_
  rintro _ _ σ_187 ⟨rfl, rfl, hc_178, hc_179, hc_180, hc_181, hc_182, hc_183, hc_184, hc_185, hf_186⟩
  refine (?_ : AJ G K Q 235 45186 true 236 117 [some (.ref (q_h G + 0)), none] [.ref (q_h G + 228), .ref (q_h G + 0)] σ_187)
  have hc_188 : σ_187 1 = q_an G 600 (fun _ => 0) := (hf_186 _ (by omega)).trans hc_170
  have hc_189 : σ_187 23 = o5 G (23) (nI (0)) := (hf_186 _ (by omega)).trans hc_171
  have hc_190 : σ_187 24 = q_an G 256 (fun _ => 0) := (hf_186 _ (by omega)).trans hc_172
  have hc_191 : σ_187 224 = q_rn G 2 2 (fun _ => none) := (hf_186 _ (by omega)).trans hc_173
  have hc_192 : σ_187 225 = q_bn G 2 (fun _ => 0) := (hf_186 _ (by omega)).trans hc_174
  have hc_193 : σ_187 226 = o7 G (226) (lN (0)) (lN (0)) (nI (1)) (nI (40)) (nI (0)) := (hf_186 _ (by omega)).trans hc_175
  have hc_194 : σ_187 227 = q_an G 5 (fun _ => 0) := (hf_186 _ (by omega)).trans hc_176
  have hc_195 : σ_187 0 = .inr (10, [.ref (q_h G + 1), .int (nI (0)), .int (nI (0)), .int (q_d (0)), .ref (q_h G + 2), .ref (q_h G + 23), .ref (q_h G + 25), .ref (q_h G + 43), .ref (q_h G + 78), .ref (q_h G + 224), .ref (q_h G + 225), .ref (q_h G + 226), .null, .null, .null]) := (hf_186 _ (by omega)).trans hc_177
  refine A_putF (fs' := [.ref (q_h G + 1), .int (nI (0)), .int (nI (0)), .int (q_d (0)), .ref (q_h G + 2), .ref (q_h G + 23), .ref (q_h G + 25), .ref (q_h G + 43), .ref (q_h G + 78), .ref (q_h G + 224), .ref (q_h G + 225), .ref (q_h G + 226), .ref (q_h G + 228), .null, .null]) hg fl_RX10_76 hme rfl (by intro C T N h; cases h; exact q_mt 444 (by decide +kernel)) dX10_init_117 hc_195 (by omega) (Nat.le_of_ble_eq_true rfl) rfl rfl rfl (fun σ_196 hc_197 hf_198 => ?_)
  have hc_197 : σ_196 0 = .inr (10, [.ref (q_h G + 1), .int (nI (0)), .int (nI (0)), .int (q_d (0)), .ref (q_h G + 2), .ref (q_h G + 23), .ref (q_h G + 25), .ref (q_h G + 43), .ref (q_h G + 78), .ref (q_h G + 224), .ref (q_h G + 225), .ref (q_h G + 226), .ref (q_h G + 228), .null, .null]) := hc_197
  have hc_199 : σ_196 1 = q_an G 600 (fun _ => 0) := (hf_198 _ (by omega)).trans hc_188
  have hc_200 : σ_196 23 = o5 G (23) (nI (0)) := (hf_198 _ (by omega)).trans hc_189
  have hc_201 : σ_196 24 = q_an G 256 (fun _ => 0) := (hf_198 _ (by omega)).trans hc_190
  have hc_202 : σ_196 224 = q_rn G 2 2 (fun _ => none) := (hf_198 _ (by omega)).trans hc_191
  have hc_203 : σ_196 225 = q_bn G 2 (fun _ => 0) := (hf_198 _ (by omega)).trans hc_192
  have hc_204 : σ_196 226 = o7 G (226) (lN (0)) (lN (0)) (nI (1)) (nI (40)) (nI (0)) := (hf_198 _ (by omega)).trans hc_193
  have hc_205 : σ_196 227 = q_an G 5 (fun _ => 0) := (hf_198 _ (by omega)).trans hc_194
  have hc_206 : σ_196 228 = o8 G (228) (nI (0)) (nI (0)) (nI (0)) (nI (0)) (nI (0)) (nI (0)) := (hf_198 _ (by omega)).trans hc_178
  have hc_207 : σ_196 229 = o7 G (228 + 1) (lN (0)) (lN (0)) (nI (1)) (nI (40)) (nI (0)) := (hf_198 _ (by omega)).trans hc_179
  have hc_208 : σ_196 230 = q_an G 5 (fun _ => 0) := (hf_198 _ (by omega)).trans hc_180
  have hc_209 : σ_196 231 = q_an G 1681 (fun _ => 0) := (hf_198 _ (by omega)).trans hc_181
  have hc_210 : σ_196 232 = q_an G 1681 (fun _ => 0) := (hf_198 _ (by omega)).trans hc_182
  have hc_211 : σ_196 233 = q_an G 1681 (fun _ => 0) := (hf_198 _ (by omega)).trans hc_183
  have hc_212 : σ_196 234 = q_an G 1681 (fun _ => 0) := (hf_198 _ (by omega)).trans hc_184
  have hc_213 : σ_196 235 = q_an G 1681 (fun _ => 0) := (hf_198 _ (by omega)).trans hc_185
  refine A_aload_n hg dX10_init_120 rfl rfl ?_
  refine A_newo (ci := 6) (fs := [.int (nI (0)), .int (nI (0)), .null, .null, .null, .null, .null]) (C := RX6) (T := TX6) (N := 7) hg tyX6 rfl uw_6 tyX6_ok (q_mt 338 (by decide +kernel)) (q_mt 80 (by decide +kernel)) (q_mt 5 (by decide +kernel)) nd_6 (by decide) (by decide) dX10_init_121 (fun σ_214 hc_215 hf_216 => ?_)
  have hc_215 : σ_214 236 = .inr (6, [.int (nI (0)), .int (nI (0)), .null, .null, .null, .null, .null]) := hc_215
  have hc_217 : σ_214 1 = q_an G 600 (fun _ => 0) := (hf_216 _ (by omega)).trans hc_199
  have hc_218 : σ_214 23 = o5 G (23) (nI (0)) := (hf_216 _ (by omega)).trans hc_200
  have hc_219 : σ_214 24 = q_an G 256 (fun _ => 0) := (hf_216 _ (by omega)).trans hc_201
  have hc_220 : σ_214 224 = q_rn G 2 2 (fun _ => none) := (hf_216 _ (by omega)).trans hc_202
  have hc_221 : σ_214 225 = q_bn G 2 (fun _ => 0) := (hf_216 _ (by omega)).trans hc_203
  have hc_222 : σ_214 226 = o7 G (226) (lN (0)) (lN (0)) (nI (1)) (nI (40)) (nI (0)) := (hf_216 _ (by omega)).trans hc_204
  have hc_223 : σ_214 227 = q_an G 5 (fun _ => 0) := (hf_216 _ (by omega)).trans hc_205
  have hc_224 : σ_214 228 = o8 G (228) (nI (0)) (nI (0)) (nI (0)) (nI (0)) (nI (0)) (nI (0)) := (hf_216 _ (by omega)).trans hc_206
  have hc_225 : σ_214 229 = o7 G (228 + 1) (lN (0)) (lN (0)) (nI (1)) (nI (40)) (nI (0)) := (hf_216 _ (by omega)).trans hc_207
  have hc_226 : σ_214 230 = q_an G 5 (fun _ => 0) := (hf_216 _ (by omega)).trans hc_208
  have hc_227 : σ_214 231 = q_an G 1681 (fun _ => 0) := (hf_216 _ (by omega)).trans hc_209
  have hc_228 : σ_214 232 = q_an G 1681 (fun _ => 0) := (hf_216 _ (by omega)).trans hc_210
  have hc_229 : σ_214 233 = q_an G 1681 (fun _ => 0) := (hf_216 _ (by omega)).trans hc_211
  have hc_230 : σ_214 234 = q_an G 1681 (fun _ => 0) := (hf_216 _ (by omega)).trans hc_212
  have hc_231 : σ_214 235 = q_an G 1681 (fun _ => 0) := (hf_216 _ (by omega)).trans hc_213
  have hc_232 : σ_214 0 = .inr (10, [.ref (q_h G + 1), .int (nI (0)), .int (nI (0)), .int (q_d (0)), .ref (q_h G + 2), .ref (q_h G + 23), .ref (q_h G + 25), .ref (q_h G + 43), .ref (q_h G + 78), .ref (q_h G + 224), .ref (q_h G + 225), .ref (q_h G + 226), .ref (q_h G + 228), .null, .null]) := (hf_216 _ (by omega)).trans hc_197
  refine A_dup hg dX10_init_124 rfl ?_
  refine A_callI (id := 236) (As := []) (rest := [.ref (q_h G + 236), .ref (q_h G + 0)]) hg lk_RX10_82 rfl in_X6_init dX10_init_125 ⟨by decide, by decide⟩ ⟨by decide, by decide⟩ rfl rfl (Nat.le_of_ble_eq_true rfl) (c_X6_init G σ_214 236 hc_215) q_nx ?_
  rintro _ _ σ_240 ⟨rfl, rfl, hc_233, hc_234, hc_235, hc_236, hc_237, hc_238, hf_239⟩
  refine (?_ : AJ G K Q 241 45233 true 242 128 [some (.ref (q_h G + 0)), none] [.ref (q_h G + 236), .ref (q_h G + 0)] σ_240)
  have hc_241 : σ_240 1 = q_an G 600 (fun _ => 0) := (hf_239 _ (by omega)).trans hc_217
  have hc_242 : σ_240 23 = o5 G (23) (nI (0)) := (hf_239 _ (by omega)).trans hc_218
  have hc_243 : σ_240 24 = q_an G 256 (fun _ => 0) := (hf_239 _ (by omega)).trans hc_219
  have hc_244 : σ_240 224 = q_rn G 2 2 (fun _ => none) := (hf_239 _ (by omega)).trans hc_220
  have hc_245 : σ_240 225 = q_bn G 2 (fun _ => 0) := (hf_239 _ (by omega)).trans hc_221
  have hc_246 : σ_240 226 = o7 G (226) (lN (0)) (lN (0)) (nI (1)) (nI (40)) (nI (0)) := (hf_239 _ (by omega)).trans hc_222
  have hc_247 : σ_240 227 = q_an G 5 (fun _ => 0) := (hf_239 _ (by omega)).trans hc_223
  have hc_248 : σ_240 228 = o8 G (228) (nI (0)) (nI (0)) (nI (0)) (nI (0)) (nI (0)) (nI (0)) := (hf_239 _ (by omega)).trans hc_224
  have hc_249 : σ_240 229 = o7 G (228 + 1) (lN (0)) (lN (0)) (nI (1)) (nI (40)) (nI (0)) := (hf_239 _ (by omega)).trans hc_225
  have hc_250 : σ_240 230 = q_an G 5 (fun _ => 0) := (hf_239 _ (by omega)).trans hc_226
  have hc_251 : σ_240 231 = q_an G 1681 (fun _ => 0) := (hf_239 _ (by omega)).trans hc_227
  have hc_252 : σ_240 232 = q_an G 1681 (fun _ => 0) := (hf_239 _ (by omega)).trans hc_228
  have hc_253 : σ_240 233 = q_an G 1681 (fun _ => 0) := (hf_239 _ (by omega)).trans hc_229
  have hc_254 : σ_240 234 = q_an G 1681 (fun _ => 0) := (hf_239 _ (by omega)).trans hc_230
  have hc_255 : σ_240 235 = q_an G 1681 (fun _ => 0) := (hf_239 _ (by omega)).trans hc_231
  have hc_256 : σ_240 0 = .inr (10, [.ref (q_h G + 1), .int (nI (0)), .int (nI (0)), .int (q_d (0)), .ref (q_h G + 2), .ref (q_h G + 23), .ref (q_h G + 25), .ref (q_h G + 43), .ref (q_h G + 78), .ref (q_h G + 224), .ref (q_h G + 225), .ref (q_h G + 226), .ref (q_h G + 228), .null, .null]) := (hf_239 _ (by omega)).trans hc_232
  refine A_putF (fs' := [.ref (q_h G + 1), .int (nI (0)), .int (nI (0)), .int (q_d (0)), .ref (q_h G + 2), .ref (q_h G + 23), .ref (q_h G + 25), .ref (q_h G + 43), .ref (q_h G + 78), .ref (q_h G + 224), .ref (q_h G + 225), .ref (q_h G + 226), .ref (q_h G + 228), .ref (q_h G + 236), .null]) hg fl_RX10_83 hme rfl (by intro C T N h; cases h; exact q_mt 445 (by decide +kernel)) dX10_init_128 hc_256 (by omega) (Nat.le_of_ble_eq_true rfl) rfl rfl rfl (fun σ_257 hc_258 hf_259 => ?_)
  have hc_258 : σ_257 0 = .inr (10, [.ref (q_h G + 1), .int (nI (0)), .int (nI (0)), .int (q_d (0)), .ref (q_h G + 2), .ref (q_h G + 23), .ref (q_h G + 25), .ref (q_h G + 43), .ref (q_h G + 78), .ref (q_h G + 224), .ref (q_h G + 225), .ref (q_h G + 226), .ref (q_h G + 228), .ref (q_h G + 236), .null]) := hc_258
  have hc_260 : σ_257 1 = q_an G 600 (fun _ => 0) := (hf_259 _ (by omega)).trans hc_241
  have hc_261 : σ_257 23 = o5 G (23) (nI (0)) := (hf_259 _ (by omega)).trans hc_242
  have hc_262 : σ_257 24 = q_an G 256 (fun _ => 0) := (hf_259 _ (by omega)).trans hc_243
  have hc_263 : σ_257 224 = q_rn G 2 2 (fun _ => none) := (hf_259 _ (by omega)).trans hc_244
  have hc_264 : σ_257 225 = q_bn G 2 (fun _ => 0) := (hf_259 _ (by omega)).trans hc_245
  have hc_265 : σ_257 226 = o7 G (226) (lN (0)) (lN (0)) (nI (1)) (nI (40)) (nI (0)) := (hf_259 _ (by omega)).trans hc_246
  have hc_266 : σ_257 227 = q_an G 5 (fun _ => 0) := (hf_259 _ (by omega)).trans hc_247
  have hc_267 : σ_257 228 = o8 G (228) (nI (0)) (nI (0)) (nI (0)) (nI (0)) (nI (0)) (nI (0)) := (hf_259 _ (by omega)).trans hc_248
  have hc_268 : σ_257 229 = o7 G (228 + 1) (lN (0)) (lN (0)) (nI (1)) (nI (40)) (nI (0)) := (hf_259 _ (by omega)).trans hc_249
  have hc_269 : σ_257 230 = q_an G 5 (fun _ => 0) := (hf_259 _ (by omega)).trans hc_250
  have hc_270 : σ_257 231 = q_an G 1681 (fun _ => 0) := (hf_259 _ (by omega)).trans hc_251
  have hc_271 : σ_257 232 = q_an G 1681 (fun _ => 0) := (hf_259 _ (by omega)).trans hc_252
  have hc_272 : σ_257 233 = q_an G 1681 (fun _ => 0) := (hf_259 _ (by omega)).trans hc_253
  have hc_273 : σ_257 234 = q_an G 1681 (fun _ => 0) := (hf_259 _ (by omega)).trans hc_254
  have hc_274 : σ_257 235 = q_an G 1681 (fun _ => 0) := (hf_259 _ (by omega)).trans hc_255
  have hc_275 : σ_257 236 = o6 G (236) (nI (0)) (nI (0)) := (hf_259 _ (by omega)).trans hc_233
  have hc_276 : σ_257 237 = q_an G 8 (fun _ => 0) := (hf_259 _ (by omega)).trans hc_234
  have hc_277 : σ_257 238 = q_an G 8 (fun _ => 0) := (hf_259 _ (by omega)).trans hc_235
  have hc_278 : σ_257 239 = q_an G 8 (fun _ => 0) := (hf_259 _ (by omega)).trans hc_236
  have hc_279 : σ_257 240 = q_an G 8 (fun _ => 0) := (hf_259 _ (by omega)).trans hc_237
  have hc_280 : σ_257 241 = q_an G 8 (fun _ => 0) := (hf_259 _ (by omega)).trans hc_238
  refine A_aload_n hg dX10_init_131 rfl rfl ?_
  refine A_newo (ci := 1) (fs := [.int (nI (0)), .int (nI (0)), .int (nI (0)), .int (nI (0)), .int (nI (0))]) (C := RX1) (T := TX1) (N := 5) hg tyX1 rfl uw_1 tyX1_ok (q_mt 340 (by decide +kernel)) (q_mt 226 (by decide +kernel)) (q_mt 9 (by decide +kernel)) nd_1 (by decide) (by decide) dX10_init_132 (fun σ_281 hc_282 hf_283 => ?_)
  have hc_282 : σ_281 242 = .inr (1, [.int (nI (0)), .int (nI (0)), .int (nI (0)), .int (nI (0)), .int (nI (0))]) := hc_282
  have hc_284 : σ_281 1 = q_an G 600 (fun _ => 0) := (hf_283 _ (by omega)).trans hc_260
  have hc_285 : σ_281 23 = o5 G (23) (nI (0)) := (hf_283 _ (by omega)).trans hc_261
  have hc_286 : σ_281 24 = q_an G 256 (fun _ => 0) := (hf_283 _ (by omega)).trans hc_262
  have hc_287 : σ_281 224 = q_rn G 2 2 (fun _ => none) := (hf_283 _ (by omega)).trans hc_263
  have hc_288 : σ_281 225 = q_bn G 2 (fun _ => 0) := (hf_283 _ (by omega)).trans hc_264
  have hc_289 : σ_281 226 = o7 G (226) (lN (0)) (lN (0)) (nI (1)) (nI (40)) (nI (0)) := (hf_283 _ (by omega)).trans hc_265
  have hc_290 : σ_281 227 = q_an G 5 (fun _ => 0) := (hf_283 _ (by omega)).trans hc_266
  have hc_291 : σ_281 228 = o8 G (228) (nI (0)) (nI (0)) (nI (0)) (nI (0)) (nI (0)) (nI (0)) := (hf_283 _ (by omega)).trans hc_267
  have hc_292 : σ_281 229 = o7 G (228 + 1) (lN (0)) (lN (0)) (nI (1)) (nI (40)) (nI (0)) := (hf_283 _ (by omega)).trans hc_268
  have hc_293 : σ_281 230 = q_an G 5 (fun _ => 0) := (hf_283 _ (by omega)).trans hc_269
  have hc_294 : σ_281 231 = q_an G 1681 (fun _ => 0) := (hf_283 _ (by omega)).trans hc_270
  have hc_295 : σ_281 232 = q_an G 1681 (fun _ => 0) := (hf_283 _ (by omega)).trans hc_271
  have hc_296 : σ_281 233 = q_an G 1681 (fun _ => 0) := (hf_283 _ (by omega)).trans hc_272
  have hc_297 : σ_281 234 = q_an G 1681 (fun _ => 0) := (hf_283 _ (by omega)).trans hc_273
  have hc_298 : σ_281 235 = q_an G 1681 (fun _ => 0) := (hf_283 _ (by omega)).trans hc_274
  have hc_299 : σ_281 236 = o6 G (236) (nI (0)) (nI (0)) := (hf_283 _ (by omega)).trans hc_275
  have hc_300 : σ_281 237 = q_an G 8 (fun _ => 0) := (hf_283 _ (by omega)).trans hc_276
  have hc_301 : σ_281 238 = q_an G 8 (fun _ => 0) := (hf_283 _ (by omega)).trans hc_277
  have hc_302 : σ_281 239 = q_an G 8 (fun _ => 0) := (hf_283 _ (by omega)).trans hc_278
  have hc_303 : σ_281 240 = q_an G 8 (fun _ => 0) := (hf_283 _ (by omega)).trans hc_279
  have hc_304 : σ_281 241 = q_an G 8 (fun _ => 0) := (hf_283 _ (by omega)).trans hc_280
  have hc_305 : σ_281 0 = .inr (10, [.ref (q_h G + 1), .int (nI (0)), .int (nI (0)), .int (q_d (0)), .ref (q_h G + 2), .ref (q_h G + 23), .ref (q_h G + 25), .ref (q_h G + 43), .ref (q_h G + 78), .ref (q_h G + 224), .ref (q_h G + 225), .ref (q_h G + 226), .ref (q_h G + 228), .ref (q_h G + 236), .null]) := (hf_283 _ (by omega)).trans hc_258
  refine A_dup hg dX10_init_135 rfl ?_
  refine A_callI (id := 242) (As := []) (rest := [.ref (q_h G + 242), .ref (q_h G + 0)]) hg lk_RX10_89 rfl in_X1_init dX10_init_136 ⟨by decide, by decide⟩ ⟨by decide, by decide⟩ rfl rfl (Nat.le_of_ble_eq_true rfl) (c_X1_init G σ_281 242 hc_282) q_nx ?_
  rintro _ _ σ_308 ⟨rfl, rfl, hc_306, hf_307⟩
  refine (?_ : AJ G K Q 242 45238 true 243 139 [some (.ref (q_h G + 0)), none] [.ref (q_h G + 242), .ref (q_h G + 0)] σ_308)
  have hc_309 : σ_308 1 = q_an G 600 (fun _ => 0) := (hf_307 _ (by omega)).trans hc_284
  have hc_310 : σ_308 23 = o5 G (23) (nI (0)) := (hf_307 _ (by omega)).trans hc_285
  have hc_311 : σ_308 24 = q_an G 256 (fun _ => 0) := (hf_307 _ (by omega)).trans hc_286
  have hc_312 : σ_308 224 = q_rn G 2 2 (fun _ => none) := (hf_307 _ (by omega)).trans hc_287
  have hc_313 : σ_308 225 = q_bn G 2 (fun _ => 0) := (hf_307 _ (by omega)).trans hc_288
  have hc_314 : σ_308 226 = o7 G (226) (lN (0)) (lN (0)) (nI (1)) (nI (40)) (nI (0)) := (hf_307 _ (by omega)).trans hc_289
  have hc_315 : σ_308 227 = q_an G 5 (fun _ => 0) := (hf_307 _ (by omega)).trans hc_290
  have hc_316 : σ_308 228 = o8 G (228) (nI (0)) (nI (0)) (nI (0)) (nI (0)) (nI (0)) (nI (0)) := (hf_307 _ (by omega)).trans hc_291
  have hc_317 : σ_308 229 = o7 G (228 + 1) (lN (0)) (lN (0)) (nI (1)) (nI (40)) (nI (0)) := (hf_307 _ (by omega)).trans hc_292
  have hc_318 : σ_308 230 = q_an G 5 (fun _ => 0) := (hf_307 _ (by omega)).trans hc_293
  have hc_319 : σ_308 231 = q_an G 1681 (fun _ => 0) := (hf_307 _ (by omega)).trans hc_294
  have hc_320 : σ_308 232 = q_an G 1681 (fun _ => 0) := (hf_307 _ (by omega)).trans hc_295
  have hc_321 : σ_308 233 = q_an G 1681 (fun _ => 0) := (hf_307 _ (by omega)).trans hc_296
  have hc_322 : σ_308 234 = q_an G 1681 (fun _ => 0) := (hf_307 _ (by omega)).trans hc_297
  have hc_323 : σ_308 235 = q_an G 1681 (fun _ => 0) := (hf_307 _ (by omega)).trans hc_298
  have hc_324 : σ_308 236 = o6 G (236) (nI (0)) (nI (0)) := (hf_307 _ (by omega)).trans hc_299
  have hc_325 : σ_308 237 = q_an G 8 (fun _ => 0) := (hf_307 _ (by omega)).trans hc_300
  have hc_326 : σ_308 238 = q_an G 8 (fun _ => 0) := (hf_307 _ (by omega)).trans hc_301
  have hc_327 : σ_308 239 = q_an G 8 (fun _ => 0) := (hf_307 _ (by omega)).trans hc_302
  have hc_328 : σ_308 240 = q_an G 8 (fun _ => 0) := (hf_307 _ (by omega)).trans hc_303
  have hc_329 : σ_308 241 = q_an G 8 (fun _ => 0) := (hf_307 _ (by omega)).trans hc_304
  have hc_330 : σ_308 0 = .inr (10, [.ref (q_h G + 1), .int (nI (0)), .int (nI (0)), .int (q_d (0)), .ref (q_h G + 2), .ref (q_h G + 23), .ref (q_h G + 25), .ref (q_h G + 43), .ref (q_h G + 78), .ref (q_h G + 224), .ref (q_h G + 225), .ref (q_h G + 226), .ref (q_h G + 228), .ref (q_h G + 236), .null]) := (hf_307 _ (by omega)).trans hc_305
  refine A_putF (fs' := [.ref (q_h G + 1), .int (nI (0)), .int (nI (0)), .int (q_d (0)), .ref (q_h G + 2), .ref (q_h G + 23), .ref (q_h G + 25), .ref (q_h G + 43), .ref (q_h G + 78), .ref (q_h G + 224), .ref (q_h G + 225), .ref (q_h G + 226), .ref (q_h G + 228), .ref (q_h G + 236), .ref (q_h G + 242)]) hg fl_RX10_90 hme rfl (by intro C T N h; cases h; exact q_mt 446 (by decide +kernel)) dX10_init_139 hc_330 (by omega) (Nat.le_of_ble_eq_true rfl) rfl rfl rfl (fun σ_331 hc_332 hf_333 => ?_)
  have hc_332 : σ_331 0 = .inr (10, [.ref (q_h G + 1), .int (nI (0)), .int (nI (0)), .int (q_d (0)), .ref (q_h G + 2), .ref (q_h G + 23), .ref (q_h G + 25), .ref (q_h G + 43), .ref (q_h G + 78), .ref (q_h G + 224), .ref (q_h G + 225), .ref (q_h G + 226), .ref (q_h G + 228), .ref (q_h G + 236), .ref (q_h G + 242)]) := hc_332
  have hc_334 : σ_331 1 = q_an G 600 (fun _ => 0) := (hf_333 _ (by omega)).trans hc_309
  have hc_335 : σ_331 23 = o5 G (23) (nI (0)) := (hf_333 _ (by omega)).trans hc_310
  have hc_336 : σ_331 24 = q_an G 256 (fun _ => 0) := (hf_333 _ (by omega)).trans hc_311
  have hc_337 : σ_331 224 = q_rn G 2 2 (fun _ => none) := (hf_333 _ (by omega)).trans hc_312
  have hc_338 : σ_331 225 = q_bn G 2 (fun _ => 0) := (hf_333 _ (by omega)).trans hc_313
  have hc_339 : σ_331 226 = o7 G (226) (lN (0)) (lN (0)) (nI (1)) (nI (40)) (nI (0)) := (hf_333 _ (by omega)).trans hc_314
  have hc_340 : σ_331 227 = q_an G 5 (fun _ => 0) := (hf_333 _ (by omega)).trans hc_315
  have hc_341 : σ_331 228 = o8 G (228) (nI (0)) (nI (0)) (nI (0)) (nI (0)) (nI (0)) (nI (0)) := (hf_333 _ (by omega)).trans hc_316
  have hc_342 : σ_331 229 = o7 G (228 + 1) (lN (0)) (lN (0)) (nI (1)) (nI (40)) (nI (0)) := (hf_333 _ (by omega)).trans hc_317
  have hc_343 : σ_331 230 = q_an G 5 (fun _ => 0) := (hf_333 _ (by omega)).trans hc_318
  have hc_344 : σ_331 231 = q_an G 1681 (fun _ => 0) := (hf_333 _ (by omega)).trans hc_319
  have hc_345 : σ_331 232 = q_an G 1681 (fun _ => 0) := (hf_333 _ (by omega)).trans hc_320
  have hc_346 : σ_331 233 = q_an G 1681 (fun _ => 0) := (hf_333 _ (by omega)).trans hc_321
  have hc_347 : σ_331 234 = q_an G 1681 (fun _ => 0) := (hf_333 _ (by omega)).trans hc_322
  have hc_348 : σ_331 235 = q_an G 1681 (fun _ => 0) := (hf_333 _ (by omega)).trans hc_323
  have hc_349 : σ_331 236 = o6 G (236) (nI (0)) (nI (0)) := (hf_333 _ (by omega)).trans hc_324
  have hc_350 : σ_331 237 = q_an G 8 (fun _ => 0) := (hf_333 _ (by omega)).trans hc_325
  have hc_351 : σ_331 238 = q_an G 8 (fun _ => 0) := (hf_333 _ (by omega)).trans hc_326
  have hc_352 : σ_331 239 = q_an G 8 (fun _ => 0) := (hf_333 _ (by omega)).trans hc_327
  have hc_353 : σ_331 240 = q_an G 8 (fun _ => 0) := (hf_333 _ (by omega)).trans hc_328
  have hc_354 : σ_331 241 = q_an G 8 (fun _ => 0) := (hf_333 _ (by omega)).trans hc_329
  have hc_355 : σ_331 242 = o1 G (nI (0)) (nI (0)) (q_d (0)) (q_d (0)) (q_d (0)) := (hf_333 _ (by omega)).trans hc_306
  refine A_iconst (v := (nI (0))) hg dX10_init_142 (by decide) ?_
  refine A_istore_n hg dX10_init_143 rfl (by decide) (q_c1d rfl) ?_
  refine A_eq (ls2 := [some (.ref (q_h G + 0)), some (.int (nI (0)))]) (st2 := []) (pc2 := 0) rfl rfl ?_
  refine A_iload_n hg dX10_init_144 rfl rfl ?_
  refine A_iconst (v := (nI (2))) hg dX10_init_145 (by decide) ?_
  refine A_icmp_geN (tgt := 168) hg dX10_init_146 (by decide) (by decide) (by decide) (fun c146 => False.elim (by omega)) (fun c146 => ?_)
  refine A_aload_n hg dX10_init_149 rfl rfl ?_
  refine A_getf (v := .ref (q_h G + 224)) hg fl_RX10_58 dX10_init_150 hc_332 (by omega) rfl ?_
  refine A_iload_n hg dX10_init_153 rfl rfl ?_
  refine A_newo (ci := 0) (fs := [.null, .int (nI (0)), .null, .int (nI (0)), .int (nI (0)), .int (nI (0)), .null, .null, .int (nI (0))]) (C := RX0) (T := TX0) (N := 9) hg tyX0 rfl uw_0 tyX0_ok (q_mt 215 (by decide +kernel)) (q_mt 72 (by decide +kernel)) (q_mt 4 (by decide +kernel)) nd_0 (by decide) (by decide) dX10_init_154 (fun σ_356 hc_357 hf_358 => ?_)
  have hc_357 : σ_356 243 = .inr (0, [.null, .int (nI (0)), .null, .int (nI (0)), .int (nI (0)), .int (nI (0)), .null, .null, .int (nI (0))]) := hc_357
  have hc_359 : σ_356 1 = q_an G 600 (fun _ => 0) := (hf_358 _ (by omega)).trans hc_334
  have hc_360 : σ_356 23 = o5 G (23) (nI (0)) := (hf_358 _ (by omega)).trans hc_335
  have hc_361 : σ_356 24 = q_an G 256 (fun _ => 0) := (hf_358 _ (by omega)).trans hc_336
  have hc_362 : σ_356 224 = q_rn G 2 2 (fun _ => none) := (hf_358 _ (by omega)).trans hc_337
  have hc_363 : σ_356 225 = q_bn G 2 (fun _ => 0) := (hf_358 _ (by omega)).trans hc_338
  have hc_364 : σ_356 226 = o7 G (226) (lN (0)) (lN (0)) (nI (1)) (nI (40)) (nI (0)) := (hf_358 _ (by omega)).trans hc_339
  have hc_365 : σ_356 227 = q_an G 5 (fun _ => 0) := (hf_358 _ (by omega)).trans hc_340
  have hc_366 : σ_356 228 = o8 G (228) (nI (0)) (nI (0)) (nI (0)) (nI (0)) (nI (0)) (nI (0)) := (hf_358 _ (by omega)).trans hc_341
  have hc_367 : σ_356 229 = o7 G (228 + 1) (lN (0)) (lN (0)) (nI (1)) (nI (40)) (nI (0)) := (hf_358 _ (by omega)).trans hc_342
  have hc_368 : σ_356 230 = q_an G 5 (fun _ => 0) := (hf_358 _ (by omega)).trans hc_343
  have hc_369 : σ_356 231 = q_an G 1681 (fun _ => 0) := (hf_358 _ (by omega)).trans hc_344
  have hc_370 : σ_356 232 = q_an G 1681 (fun _ => 0) := (hf_358 _ (by omega)).trans hc_345
  have hc_371 : σ_356 233 = q_an G 1681 (fun _ => 0) := (hf_358 _ (by omega)).trans hc_346
  have hc_372 : σ_356 234 = q_an G 1681 (fun _ => 0) := (hf_358 _ (by omega)).trans hc_347
  have hc_373 : σ_356 235 = q_an G 1681 (fun _ => 0) := (hf_358 _ (by omega)).trans hc_348
  have hc_374 : σ_356 236 = o6 G (236) (nI (0)) (nI (0)) := (hf_358 _ (by omega)).trans hc_349
  have hc_375 : σ_356 237 = q_an G 8 (fun _ => 0) := (hf_358 _ (by omega)).trans hc_350
  have hc_376 : σ_356 238 = q_an G 8 (fun _ => 0) := (hf_358 _ (by omega)).trans hc_351
  have hc_377 : σ_356 239 = q_an G 8 (fun _ => 0) := (hf_358 _ (by omega)).trans hc_352
  have hc_378 : σ_356 240 = q_an G 8 (fun _ => 0) := (hf_358 _ (by omega)).trans hc_353
  have hc_379 : σ_356 241 = q_an G 8 (fun _ => 0) := (hf_358 _ (by omega)).trans hc_354
  have hc_380 : σ_356 242 = o1 G (nI (0)) (nI (0)) (q_d (0)) (q_d (0)) (q_d (0)) := (hf_358 _ (by omega)).trans hc_355
  have hc_381 : σ_356 0 = .inr (10, [.ref (q_h G + 1), .int (nI (0)), .int (nI (0)), .int (q_d (0)), .ref (q_h G + 2), .ref (q_h G + 23), .ref (q_h G + 25), .ref (q_h G + 43), .ref (q_h G + 78), .ref (q_h G + 224), .ref (q_h G + 225), .ref (q_h G + 226), .ref (q_h G + 228), .ref (q_h G + 236), .ref (q_h G + 242)]) := (hf_358 _ (by omega)).trans hc_332
  refine A_dup hg dX10_init_157 rfl ?_
  refine A_callI (id := 243) (As := []) (rest := [.ref (q_h G + 243), .int (nI (0)), .ref (q_h G + 224)]) hg lk_RX10_39 rfl in_X0_init dX10_init_158 ⟨by decide, by decide⟩ ⟨by decide, by decide⟩ rfl rfl (Nat.le_of_ble_eq_true rfl) (c_X0_init G σ_356 243 hc_357) q_nx ?_
  rintro _ _ σ_383 ⟨rfl, rfl, hJ243, hf_382⟩
  refine (?_ : AJ G K Q 260 45452 true 261 161 [some (.ref (q_h G + 0)), some (.int (nI (0)))] [.ref (q_h G + 243), .int (nI (0)), .ref (q_h G + 224)] σ_383)
  have hc_384 : σ_383 1 = q_an G 600 (fun _ => 0) := (hf_382 _ (by omega)).trans hc_359
  have hc_385 : σ_383 23 = o5 G (23) (nI (0)) := (hf_382 _ (by omega)).trans hc_360
  have hc_386 : σ_383 24 = q_an G 256 (fun _ => 0) := (hf_382 _ (by omega)).trans hc_361
  have hc_387 : σ_383 224 = q_rn G 2 2 (fun _ => none) := (hf_382 _ (by omega)).trans hc_362
  have hc_388 : σ_383 225 = q_bn G 2 (fun _ => 0) := (hf_382 _ (by omega)).trans hc_363
  have hc_389 : σ_383 226 = o7 G (226) (lN (0)) (lN (0)) (nI (1)) (nI (40)) (nI (0)) := (hf_382 _ (by omega)).trans hc_364
  have hc_390 : σ_383 227 = q_an G 5 (fun _ => 0) := (hf_382 _ (by omega)).trans hc_365
  have hc_391 : σ_383 228 = o8 G (228) (nI (0)) (nI (0)) (nI (0)) (nI (0)) (nI (0)) (nI (0)) := (hf_382 _ (by omega)).trans hc_366
  have hc_392 : σ_383 229 = o7 G (228 + 1) (lN (0)) (lN (0)) (nI (1)) (nI (40)) (nI (0)) := (hf_382 _ (by omega)).trans hc_367
  have hc_393 : σ_383 230 = q_an G 5 (fun _ => 0) := (hf_382 _ (by omega)).trans hc_368
  have hc_394 : σ_383 231 = q_an G 1681 (fun _ => 0) := (hf_382 _ (by omega)).trans hc_369
  have hc_395 : σ_383 232 = q_an G 1681 (fun _ => 0) := (hf_382 _ (by omega)).trans hc_370
  have hc_396 : σ_383 233 = q_an G 1681 (fun _ => 0) := (hf_382 _ (by omega)).trans hc_371
  have hc_397 : σ_383 234 = q_an G 1681 (fun _ => 0) := (hf_382 _ (by omega)).trans hc_372
  have hc_398 : σ_383 235 = q_an G 1681 (fun _ => 0) := (hf_382 _ (by omega)).trans hc_373
  have hc_399 : σ_383 236 = o6 G (236) (nI (0)) (nI (0)) := (hf_382 _ (by omega)).trans hc_374
  have hc_400 : σ_383 237 = q_an G 8 (fun _ => 0) := (hf_382 _ (by omega)).trans hc_375
  have hc_401 : σ_383 238 = q_an G 8 (fun _ => 0) := (hf_382 _ (by omega)).trans hc_376
  have hc_402 : σ_383 239 = q_an G 8 (fun _ => 0) := (hf_382 _ (by omega)).trans hc_377
  have hc_403 : σ_383 240 = q_an G 8 (fun _ => 0) := (hf_382 _ (by omega)).trans hc_378
  have hc_404 : σ_383 241 = q_an G 8 (fun _ => 0) := (hf_382 _ (by omega)).trans hc_379
  have hc_405 : σ_383 242 = o1 G (nI (0)) (nI (0)) (q_d (0)) (q_d (0)) (q_d (0)) := (hf_382 _ (by omega)).trans hc_380
  have hc_406 : σ_383 0 = .inr (10, [.ref (q_h G + 1), .int (nI (0)), .int (nI (0)), .int (q_d (0)), .ref (q_h G + 2), .ref (q_h G + 23), .ref (q_h G + 25), .ref (q_h G + 43), .ref (q_h G + 78), .ref (q_h G + 224), .ref (q_h G + 225), .ref (q_h G + 226), .ref (q_h G + 228), .ref (q_h G + 236), .ref (q_h G + 242)]) := (hf_382 _ (by omega)).trans hc_381
  obtain ⟨aJ, bJ, cJ, dJ, eJ, hjo_407⟩ := x_gj_o hJ243
  refine A_aastR (j := 0) (oid := 243) hg (by decide) rfl hc_387 (by omega) hjo_407 (by omega) rfl (by omega) (by decide) dX10_init_161 (fun σ_408 hc_409 hf_410 => ?_)
  have hc_409 : σ_408 224 = q_rn G 2 2 (va_up (fun _ => none) 0 (some 243)) := hc_409
  have hc_411 : σ_408 1 = q_an G 600 (fun _ => 0) := (hf_410 _ (by omega)).trans hc_384
  have hc_412 : σ_408 23 = o5 G (23) (nI (0)) := (hf_410 _ (by omega)).trans hc_385
  have hc_413 : σ_408 24 = q_an G 256 (fun _ => 0) := (hf_410 _ (by omega)).trans hc_386
  have hc_414 : σ_408 225 = q_bn G 2 (fun _ => 0) := (hf_410 _ (by omega)).trans hc_388
  have hc_415 : σ_408 226 = o7 G (226) (lN (0)) (lN (0)) (nI (1)) (nI (40)) (nI (0)) := (hf_410 _ (by omega)).trans hc_389
  have hc_416 : σ_408 227 = q_an G 5 (fun _ => 0) := (hf_410 _ (by omega)).trans hc_390
  have hc_417 : σ_408 228 = o8 G (228) (nI (0)) (nI (0)) (nI (0)) (nI (0)) (nI (0)) (nI (0)) := (hf_410 _ (by omega)).trans hc_391
  have hc_418 : σ_408 229 = o7 G (228 + 1) (lN (0)) (lN (0)) (nI (1)) (nI (40)) (nI (0)) := (hf_410 _ (by omega)).trans hc_392
  have hc_419 : σ_408 230 = q_an G 5 (fun _ => 0) := (hf_410 _ (by omega)).trans hc_393
  have hc_420 : σ_408 231 = q_an G 1681 (fun _ => 0) := (hf_410 _ (by omega)).trans hc_394
  have hc_421 : σ_408 232 = q_an G 1681 (fun _ => 0) := (hf_410 _ (by omega)).trans hc_395
  have hc_422 : σ_408 233 = q_an G 1681 (fun _ => 0) := (hf_410 _ (by omega)).trans hc_396
  have hc_423 : σ_408 234 = q_an G 1681 (fun _ => 0) := (hf_410 _ (by omega)).trans hc_397
  have hc_424 : σ_408 235 = q_an G 1681 (fun _ => 0) := (hf_410 _ (by omega)).trans hc_398
  have hc_425 : σ_408 236 = o6 G (236) (nI (0)) (nI (0)) := (hf_410 _ (by omega)).trans hc_399
  have hc_426 : σ_408 237 = q_an G 8 (fun _ => 0) := (hf_410 _ (by omega)).trans hc_400
  have hc_427 : σ_408 238 = q_an G 8 (fun _ => 0) := (hf_410 _ (by omega)).trans hc_401
  have hc_428 : σ_408 239 = q_an G 8 (fun _ => 0) := (hf_410 _ (by omega)).trans hc_402
  have hc_429 : σ_408 240 = q_an G 8 (fun _ => 0) := (hf_410 _ (by omega)).trans hc_403
  have hc_430 : σ_408 241 = q_an G 8 (fun _ => 0) := (hf_410 _ (by omega)).trans hc_404
  have hc_431 : σ_408 242 = o1 G (nI (0)) (nI (0)) (q_d (0)) (q_d (0)) (q_d (0)) := (hf_410 _ (by omega)).trans hc_405
  have hc_432 : σ_408 0 = .inr (10, [.ref (q_h G + 1), .int (nI (0)), .int (nI (0)), .int (q_d (0)), .ref (q_h G + 2), .ref (q_h G + 23), .ref (q_h G + 25), .ref (q_h G + 43), .ref (q_h G + 78), .ref (q_h G + 224), .ref (q_h G + 225), .ref (q_h G + 226), .ref (q_h G + 228), .ref (q_h G + 236), .ref (q_h G + 242)]) := (hf_410 _ (by omega)).trans hc_406
  have hc_433 : σ_408 243 = o0 G (243) (nI (aJ)) (nI (bJ)) (nI (cJ)) (nI (dJ)) (nI (eJ)) := (hf_410 _ (by omega)).trans hjo_407
  refine A_iincN (k' := 1) hg dX10_init_162 (by decide) rfl (by decide) (q_c1d rfl) ?_
  refine A_eq (ls2 := [some (.ref (q_h G + 0)), some (.int (nI (0 + 1)))]) (st2 := []) (pc2 := 0) rfl rfl ?_
  refine A_goto (tgt := 144) hg dX10_init_165 (by decide) ?_
  refine A_eq (ls2 := [some (.ref (q_h G + 0)), some (.int (nI (1)))]) (st2 := []) (pc2 := 0) rfl rfl ?_
  refine A_iload_n hg dX10_init_144 rfl rfl ?_
  refine A_iconst (v := (nI (2))) hg dX10_init_145 (by decide) ?_
  refine A_icmp_geN (tgt := 168) hg dX10_init_146 (by decide) (by decide) (by decide) (fun c146 => False.elim (by omega)) (fun c146 => ?_)
  refine A_aload_n hg dX10_init_149 rfl rfl ?_
  refine A_getf (v := .ref (q_h G + 224)) hg fl_RX10_58 dX10_init_150 hc_432 (by omega) rfl ?_
  refine A_iload_n hg dX10_init_153 rfl rfl ?_
  refine A_newo (ci := 0) (fs := [.null, .int (nI (0)), .null, .int (nI (0)), .int (nI (0)), .int (nI (0)), .null, .null, .int (nI (0))]) (C := RX0) (T := TX0) (N := 9) hg tyX0 rfl uw_0 tyX0_ok (q_mt 215 (by decide +kernel)) (q_mt 72 (by decide +kernel)) (q_mt 4 (by decide +kernel)) nd_0 (by decide) (by decide) dX10_init_154 (fun σ_434 hc_435 hf_436 => ?_)
  have hc_435 : σ_434 261 = .inr (0, [.null, .int (nI (0)), .null, .int (nI (0)), .int (nI (0)), .int (nI (0)), .null, .null, .int (nI (0))]) := hc_435
  have hc_437 : σ_434 1 = q_an G 600 (fun _ => 0) := (hf_436 _ (by omega)).trans hc_411
  have hc_438 : σ_434 23 = o5 G (23) (nI (0)) := (hf_436 _ (by omega)).trans hc_412
  have hc_439 : σ_434 24 = q_an G 256 (fun _ => 0) := (hf_436 _ (by omega)).trans hc_413
  have hc_440 : σ_434 225 = q_bn G 2 (fun _ => 0) := (hf_436 _ (by omega)).trans hc_414
  have hc_441 : σ_434 226 = o7 G (226) (lN (0)) (lN (0)) (nI (1)) (nI (40)) (nI (0)) := (hf_436 _ (by omega)).trans hc_415
  have hc_442 : σ_434 227 = q_an G 5 (fun _ => 0) := (hf_436 _ (by omega)).trans hc_416
  have hc_443 : σ_434 228 = o8 G (228) (nI (0)) (nI (0)) (nI (0)) (nI (0)) (nI (0)) (nI (0)) := (hf_436 _ (by omega)).trans hc_417
  have hc_444 : σ_434 229 = o7 G (228 + 1) (lN (0)) (lN (0)) (nI (1)) (nI (40)) (nI (0)) := (hf_436 _ (by omega)).trans hc_418
  have hc_445 : σ_434 230 = q_an G 5 (fun _ => 0) := (hf_436 _ (by omega)).trans hc_419
  have hc_446 : σ_434 231 = q_an G 1681 (fun _ => 0) := (hf_436 _ (by omega)).trans hc_420
  have hc_447 : σ_434 232 = q_an G 1681 (fun _ => 0) := (hf_436 _ (by omega)).trans hc_421
  have hc_448 : σ_434 233 = q_an G 1681 (fun _ => 0) := (hf_436 _ (by omega)).trans hc_422
  have hc_449 : σ_434 234 = q_an G 1681 (fun _ => 0) := (hf_436 _ (by omega)).trans hc_423
  have hc_450 : σ_434 235 = q_an G 1681 (fun _ => 0) := (hf_436 _ (by omega)).trans hc_424
  have hc_451 : σ_434 236 = o6 G (236) (nI (0)) (nI (0)) := (hf_436 _ (by omega)).trans hc_425
  have hc_452 : σ_434 237 = q_an G 8 (fun _ => 0) := (hf_436 _ (by omega)).trans hc_426
  have hc_453 : σ_434 238 = q_an G 8 (fun _ => 0) := (hf_436 _ (by omega)).trans hc_427
  have hc_454 : σ_434 239 = q_an G 8 (fun _ => 0) := (hf_436 _ (by omega)).trans hc_428
  have hc_455 : σ_434 240 = q_an G 8 (fun _ => 0) := (hf_436 _ (by omega)).trans hc_429
  have hc_456 : σ_434 241 = q_an G 8 (fun _ => 0) := (hf_436 _ (by omega)).trans hc_430
  have hc_457 : σ_434 242 = o1 G (nI (0)) (nI (0)) (q_d (0)) (q_d (0)) (q_d (0)) := (hf_436 _ (by omega)).trans hc_431
  have hc_458 : σ_434 0 = .inr (10, [.ref (q_h G + 1), .int (nI (0)), .int (nI (0)), .int (q_d (0)), .ref (q_h G + 2), .ref (q_h G + 23), .ref (q_h G + 25), .ref (q_h G + 43), .ref (q_h G + 78), .ref (q_h G + 224), .ref (q_h G + 225), .ref (q_h G + 226), .ref (q_h G + 228), .ref (q_h G + 236), .ref (q_h G + 242)]) := (hf_436 _ (by omega)).trans hc_432
  have hc_459 : σ_434 224 = q_rn G 2 2 (va_up (fun _ => none) 0 (some 243)) := (hf_436 _ (by omega)).trans hc_409
  refine A_dup hg dX10_init_157 rfl ?_
  refine A_callI (id := 261) (As := []) (rest := [.ref (q_h G + 261), .int (nI (1)), .ref (q_h G + 224)]) hg lk_RX10_39 rfl in_X0_init dX10_init_158 ⟨by decide, by decide⟩ ⟨by decide, by decide⟩ rfl rfl (Nat.le_of_ble_eq_true rfl) (c_X0_init G σ_434 261 hc_435) q_nx ?_
  rintro _ _ σ_461 ⟨rfl, rfl, hJ261, hf_460⟩
  refine (?_ : AJ G K Q 278 45666 true 279 161 [some (.ref (q_h G + 0)), some (.int (nI (1)))] [.ref (q_h G + 261), .int (nI (1)), .ref (q_h G + 224)] σ_461)
  have hc_462 : σ_461 1 = q_an G 600 (fun _ => 0) := (hf_460 _ (by omega)).trans hc_437
  have hc_463 : σ_461 23 = o5 G (23) (nI (0)) := (hf_460 _ (by omega)).trans hc_438
  have hc_464 : σ_461 24 = q_an G 256 (fun _ => 0) := (hf_460 _ (by omega)).trans hc_439
  have hc_465 : σ_461 225 = q_bn G 2 (fun _ => 0) := (hf_460 _ (by omega)).trans hc_440
  have hc_466 : σ_461 226 = o7 G (226) (lN (0)) (lN (0)) (nI (1)) (nI (40)) (nI (0)) := (hf_460 _ (by omega)).trans hc_441
  have hc_467 : σ_461 227 = q_an G 5 (fun _ => 0) := (hf_460 _ (by omega)).trans hc_442
  have hc_468 : σ_461 228 = o8 G (228) (nI (0)) (nI (0)) (nI (0)) (nI (0)) (nI (0)) (nI (0)) := (hf_460 _ (by omega)).trans hc_443
  have hc_469 : σ_461 229 = o7 G (228 + 1) (lN (0)) (lN (0)) (nI (1)) (nI (40)) (nI (0)) := (hf_460 _ (by omega)).trans hc_444
  have hc_470 : σ_461 230 = q_an G 5 (fun _ => 0) := (hf_460 _ (by omega)).trans hc_445
  have hc_471 : σ_461 231 = q_an G 1681 (fun _ => 0) := (hf_460 _ (by omega)).trans hc_446
  have hc_472 : σ_461 232 = q_an G 1681 (fun _ => 0) := (hf_460 _ (by omega)).trans hc_447
  have hc_473 : σ_461 233 = q_an G 1681 (fun _ => 0) := (hf_460 _ (by omega)).trans hc_448
  have hc_474 : σ_461 234 = q_an G 1681 (fun _ => 0) := (hf_460 _ (by omega)).trans hc_449
  have hc_475 : σ_461 235 = q_an G 1681 (fun _ => 0) := (hf_460 _ (by omega)).trans hc_450
  have hc_476 : σ_461 236 = o6 G (236) (nI (0)) (nI (0)) := (hf_460 _ (by omega)).trans hc_451
  have hc_477 : σ_461 237 = q_an G 8 (fun _ => 0) := (hf_460 _ (by omega)).trans hc_452
  have hc_478 : σ_461 238 = q_an G 8 (fun _ => 0) := (hf_460 _ (by omega)).trans hc_453
  have hc_479 : σ_461 239 = q_an G 8 (fun _ => 0) := (hf_460 _ (by omega)).trans hc_454
  have hc_480 : σ_461 240 = q_an G 8 (fun _ => 0) := (hf_460 _ (by omega)).trans hc_455
  have hc_481 : σ_461 241 = q_an G 8 (fun _ => 0) := (hf_460 _ (by omega)).trans hc_456
  have hc_482 : σ_461 242 = o1 G (nI (0)) (nI (0)) (q_d (0)) (q_d (0)) (q_d (0)) := (hf_460 _ (by omega)).trans hc_457
  have hc_483 : σ_461 0 = .inr (10, [.ref (q_h G + 1), .int (nI (0)), .int (nI (0)), .int (q_d (0)), .ref (q_h G + 2), .ref (q_h G + 23), .ref (q_h G + 25), .ref (q_h G + 43), .ref (q_h G + 78), .ref (q_h G + 224), .ref (q_h G + 225), .ref (q_h G + 226), .ref (q_h G + 228), .ref (q_h G + 236), .ref (q_h G + 242)]) := (hf_460 _ (by omega)).trans hc_458
  have hc_484 : σ_461 224 = q_rn G 2 2 (va_up (fun _ => none) 0 (some 243)) := (hf_460 _ (by omega)).trans hc_459
  obtain ⟨aJ, bJ, cJ, dJ, eJ, hjo_485⟩ := x_gj_o hJ261
  refine A_aastR (j := 1) (oid := 261) hg (by decide) rfl hc_484 (by omega) hjo_485 (by omega) rfl (by omega) (by decide) dX10_init_161 (fun σ_486 hc_487 hf_488 => ?_)
  have hc_487 : σ_486 224 = q_rn G 2 2 (va_up (va_up (fun _ => none) 0 (some 243)) 1 (some 261)) := hc_487
  have hc_489 : σ_486 1 = q_an G 600 (fun _ => 0) := (hf_488 _ (by omega)).trans hc_462
  have hc_490 : σ_486 23 = o5 G (23) (nI (0)) := (hf_488 _ (by omega)).trans hc_463
  have hc_491 : σ_486 24 = q_an G 256 (fun _ => 0) := (hf_488 _ (by omega)).trans hc_464
  have hc_492 : σ_486 225 = q_bn G 2 (fun _ => 0) := (hf_488 _ (by omega)).trans hc_465
  have hc_493 : σ_486 226 = o7 G (226) (lN (0)) (lN (0)) (nI (1)) (nI (40)) (nI (0)) := (hf_488 _ (by omega)).trans hc_466
  have hc_494 : σ_486 227 = q_an G 5 (fun _ => 0) := (hf_488 _ (by omega)).trans hc_467
  have hc_495 : σ_486 228 = o8 G (228) (nI (0)) (nI (0)) (nI (0)) (nI (0)) (nI (0)) (nI (0)) := (hf_488 _ (by omega)).trans hc_468
  have hc_496 : σ_486 229 = o7 G (228 + 1) (lN (0)) (lN (0)) (nI (1)) (nI (40)) (nI (0)) := (hf_488 _ (by omega)).trans hc_469
  have hc_497 : σ_486 230 = q_an G 5 (fun _ => 0) := (hf_488 _ (by omega)).trans hc_470
  have hc_498 : σ_486 231 = q_an G 1681 (fun _ => 0) := (hf_488 _ (by omega)).trans hc_471
  have hc_499 : σ_486 232 = q_an G 1681 (fun _ => 0) := (hf_488 _ (by omega)).trans hc_472
  have hc_500 : σ_486 233 = q_an G 1681 (fun _ => 0) := (hf_488 _ (by omega)).trans hc_473
  have hc_501 : σ_486 234 = q_an G 1681 (fun _ => 0) := (hf_488 _ (by omega)).trans hc_474
  have hc_502 : σ_486 235 = q_an G 1681 (fun _ => 0) := (hf_488 _ (by omega)).trans hc_475
  have hc_503 : σ_486 236 = o6 G (236) (nI (0)) (nI (0)) := (hf_488 _ (by omega)).trans hc_476
  have hc_504 : σ_486 237 = q_an G 8 (fun _ => 0) := (hf_488 _ (by omega)).trans hc_477
  have hc_505 : σ_486 238 = q_an G 8 (fun _ => 0) := (hf_488 _ (by omega)).trans hc_478
  have hc_506 : σ_486 239 = q_an G 8 (fun _ => 0) := (hf_488 _ (by omega)).trans hc_479
  have hc_507 : σ_486 240 = q_an G 8 (fun _ => 0) := (hf_488 _ (by omega)).trans hc_480
  have hc_508 : σ_486 241 = q_an G 8 (fun _ => 0) := (hf_488 _ (by omega)).trans hc_481
  have hc_509 : σ_486 242 = o1 G (nI (0)) (nI (0)) (q_d (0)) (q_d (0)) (q_d (0)) := (hf_488 _ (by omega)).trans hc_482
  have hc_510 : σ_486 0 = .inr (10, [.ref (q_h G + 1), .int (nI (0)), .int (nI (0)), .int (q_d (0)), .ref (q_h G + 2), .ref (q_h G + 23), .ref (q_h G + 25), .ref (q_h G + 43), .ref (q_h G + 78), .ref (q_h G + 224), .ref (q_h G + 225), .ref (q_h G + 226), .ref (q_h G + 228), .ref (q_h G + 236), .ref (q_h G + 242)]) := (hf_488 _ (by omega)).trans hc_483
  have hc_511 : σ_486 261 = o0 G (261) (nI (aJ)) (nI (bJ)) (nI (cJ)) (nI (dJ)) (nI (eJ)) := (hf_488 _ (by omega)).trans hjo_485
  refine A_iincN (k' := 1) hg dX10_init_162 (by decide) rfl (by decide) (q_c1d rfl) ?_
  refine A_eq (ls2 := [some (.ref (q_h G + 0)), some (.int (nI (1 + 1)))]) (st2 := []) (pc2 := 0) rfl rfl ?_
  refine A_goto (tgt := 144) hg dX10_init_165 (by decide) ?_
  refine A_eq (ls2 := [some (.ref (q_h G + 0)), some (.int (nI (2)))]) (st2 := []) (pc2 := 0) rfl rfl ?_
  refine A_iload_n hg dX10_init_144 rfl rfl ?_
  refine A_iconst (v := (nI (2))) hg dX10_init_145 (by decide) ?_
  refine A_icmp_geN (tgt := 168) hg dX10_init_146 (by decide) (by decide) (by decide) (fun c146 => ?_) (fun c146 => False.elim (by omega))
  refine A_aload_n hg dX10_init_168 rfl rfl ?_
  refine A_getf (v := .ref (q_h G + 25)) hg fl_RX10_40 dX10_init_169 hc_510 (by omega) rfl ?_
  have hJ25 := (x_gj_e (fun i _ _ => ((hf_488 i (by omega)).trans ((hf_460 i (by omega)).trans ((hf_436 i (by omega)).trans ((hf_410 i (by omega)).trans ((hf_382 i (by omega)).trans ((hf_358 i (by omega)).trans ((hf_333 i (by omega)).trans ((hf_307 i (by omega)).trans ((hf_283 i (by omega)).trans ((hf_259 i (by omega)).trans ((hf_239 i (by omega)).trans ((hf_216 i (by omega)).trans ((hf_198 i (by omega)).trans ((hf_186 i (by omega)).trans ((hf_169 i (by omega)).trans ((hf_159 i (by omega)).trans ((hf_149 i (by omega)).trans ((hf_140 i (by omega)).trans ((hf_132 i (by omega)).trans ((hf_124 i (by omega)).trans ((hf_117 i (by omega)).trans ((hf_110 i (by omega)).trans ((hf_104 i (by omega)).trans ((hf_96 i (by omega)).trans ((hf_91 i (by omega)).trans ((hf_85 i (by omega)).trans ((hf_77 i (by omega)).trans ((hf_72 i (by omega)).trans (hf_66 i (by omega))))))))))))))))))))))))))))))) hJ25a)
  obtain ⟨aJ, bJ, cJ, dJ, eJ, hjo_512⟩ := x_gj_o hJ25
  refine A_vV (kc2 := 278) (ks2 := 45666) (As := []) (rest := []) hg lk_RX10_94 in_X0_beginPlain se_X0_beginPlain rfl dX10_init_172 ⟨by decide, by decide⟩ rfl rfl ⟨by decide, by decide⟩ hjo_512 (by omega) rfl rfl (Nat.le_of_ble_eq_true rfl) (c_X0_beginPlain G true 279 σ_486 (by omega) hJ25) ?_
  rintro σ_515 ⟨hGa, hc_513, hf_514⟩
  have hc_516 : σ_515 1 = q_an G 600 (fun _ => 0) := (hf_514 _ (by omega)).trans hc_489
  have hc_517 : σ_515 23 = o5 G (23) (nI (0)) := (hf_514 _ (by omega)).trans hc_490
  have hc_518 : σ_515 24 = q_an G 256 (fun _ => 0) := (hf_514 _ (by omega)).trans hc_491
  have hc_519 : σ_515 225 = q_bn G 2 (fun _ => 0) := (hf_514 _ (by omega)).trans hc_492
  have hc_520 : σ_515 226 = o7 G (226) (lN (0)) (lN (0)) (nI (1)) (nI (40)) (nI (0)) := (hf_514 _ (by omega)).trans hc_493
  have hc_521 : σ_515 227 = q_an G 5 (fun _ => 0) := (hf_514 _ (by omega)).trans hc_494
  have hc_522 : σ_515 228 = o8 G (228) (nI (0)) (nI (0)) (nI (0)) (nI (0)) (nI (0)) (nI (0)) := (hf_514 _ (by omega)).trans hc_495
  have hc_523 : σ_515 229 = o7 G (228 + 1) (lN (0)) (lN (0)) (nI (1)) (nI (40)) (nI (0)) := (hf_514 _ (by omega)).trans hc_496
  have hc_524 : σ_515 230 = q_an G 5 (fun _ => 0) := (hf_514 _ (by omega)).trans hc_497
  have hc_525 : σ_515 231 = q_an G 1681 (fun _ => 0) := (hf_514 _ (by omega)).trans hc_498
  have hc_526 : σ_515 232 = q_an G 1681 (fun _ => 0) := (hf_514 _ (by omega)).trans hc_499
  have hc_527 : σ_515 233 = q_an G 1681 (fun _ => 0) := (hf_514 _ (by omega)).trans hc_500
  have hc_528 : σ_515 234 = q_an G 1681 (fun _ => 0) := (hf_514 _ (by omega)).trans hc_501
  have hc_529 : σ_515 235 = q_an G 1681 (fun _ => 0) := (hf_514 _ (by omega)).trans hc_502
  have hc_530 : σ_515 236 = o6 G (236) (nI (0)) (nI (0)) := (hf_514 _ (by omega)).trans hc_503
  have hc_531 : σ_515 237 = q_an G 8 (fun _ => 0) := (hf_514 _ (by omega)).trans hc_504
  have hc_532 : σ_515 238 = q_an G 8 (fun _ => 0) := (hf_514 _ (by omega)).trans hc_505
  have hc_533 : σ_515 239 = q_an G 8 (fun _ => 0) := (hf_514 _ (by omega)).trans hc_506
  have hc_534 : σ_515 240 = q_an G 8 (fun _ => 0) := (hf_514 _ (by omega)).trans hc_507
  have hc_535 : σ_515 241 = q_an G 8 (fun _ => 0) := (hf_514 _ (by omega)).trans hc_508
  have hc_536 : σ_515 242 = o1 G (nI (0)) (nI (0)) (q_d (0)) (q_d (0)) (q_d (0)) := (hf_514 _ (by omega)).trans hc_509
  have hc_537 : σ_515 0 = .inr (10, [.ref (q_h G + 1), .int (nI (0)), .int (nI (0)), .int (q_d (0)), .ref (q_h G + 2), .ref (q_h G + 23), .ref (q_h G + 25), .ref (q_h G + 43), .ref (q_h G + 78), .ref (q_h G + 224), .ref (q_h G + 225), .ref (q_h G + 226), .ref (q_h G + 228), .ref (q_h G + 236), .ref (q_h G + 242)]) := (hf_514 _ (by omega)).trans hc_510
  have hc_538 : σ_515 224 = q_rn G 2 2 (va_up (va_up (fun _ => none) 0 (some 243)) 1 (some 261)) := (hf_514 _ (by omega)).trans hc_487
  refine A_canonR (fun j => some (243 + 18 * j)) hc_538 (x_f2 (P := fun j => _ = some (243 + 18 * j)) rfl rfl) (fun σ_539 hc_540 hf_541 => ?_)
  have hc_542 : σ_539 1 = q_an G 600 (fun _ => 0) := (hf_541 _ (by omega)).trans hc_516
  have hc_543 : σ_539 23 = o5 G (23) (nI (0)) := (hf_541 _ (by omega)).trans hc_517
  have hc_544 : σ_539 24 = q_an G 256 (fun _ => 0) := (hf_541 _ (by omega)).trans hc_518
  have hc_545 : σ_539 225 = q_bn G 2 (fun _ => 0) := (hf_541 _ (by omega)).trans hc_519
  have hc_546 : σ_539 226 = o7 G (226) (lN (0)) (lN (0)) (nI (1)) (nI (40)) (nI (0)) := (hf_541 _ (by omega)).trans hc_520
  have hc_547 : σ_539 227 = q_an G 5 (fun _ => 0) := (hf_541 _ (by omega)).trans hc_521
  have hc_548 : σ_539 228 = o8 G (228) (nI (0)) (nI (0)) (nI (0)) (nI (0)) (nI (0)) (nI (0)) := (hf_541 _ (by omega)).trans hc_522
  have hc_549 : σ_539 229 = o7 G (228 + 1) (lN (0)) (lN (0)) (nI (1)) (nI (40)) (nI (0)) := (hf_541 _ (by omega)).trans hc_523
  have hc_550 : σ_539 230 = q_an G 5 (fun _ => 0) := (hf_541 _ (by omega)).trans hc_524
  have hc_551 : σ_539 231 = q_an G 1681 (fun _ => 0) := (hf_541 _ (by omega)).trans hc_525
  have hc_552 : σ_539 232 = q_an G 1681 (fun _ => 0) := (hf_541 _ (by omega)).trans hc_526
  have hc_553 : σ_539 233 = q_an G 1681 (fun _ => 0) := (hf_541 _ (by omega)).trans hc_527
  have hc_554 : σ_539 234 = q_an G 1681 (fun _ => 0) := (hf_541 _ (by omega)).trans hc_528
  have hc_555 : σ_539 235 = q_an G 1681 (fun _ => 0) := (hf_541 _ (by omega)).trans hc_529
  have hc_556 : σ_539 236 = o6 G (236) (nI (0)) (nI (0)) := (hf_541 _ (by omega)).trans hc_530
  have hc_557 : σ_539 237 = q_an G 8 (fun _ => 0) := (hf_541 _ (by omega)).trans hc_531
  have hc_558 : σ_539 238 = q_an G 8 (fun _ => 0) := (hf_541 _ (by omega)).trans hc_532
  have hc_559 : σ_539 239 = q_an G 8 (fun _ => 0) := (hf_541 _ (by omega)).trans hc_533
  have hc_560 : σ_539 240 = q_an G 8 (fun _ => 0) := (hf_541 _ (by omega)).trans hc_534
  have hc_561 : σ_539 241 = q_an G 8 (fun _ => 0) := (hf_541 _ (by omega)).trans hc_535
  have hc_562 : σ_539 242 = o1 G (nI (0)) (nI (0)) (q_d (0)) (q_d (0)) (q_d (0)) := (hf_541 _ (by omega)).trans hc_536
  have hc_563 : σ_539 0 = .inr (10, [.ref (q_h G + 1), .int (nI (0)), .int (nI (0)), .int (q_d (0)), .ref (q_h G + 2), .ref (q_h G + 23), .ref (q_h G + 25), .ref (q_h G + 43), .ref (q_h G + 78), .ref (q_h G + 224), .ref (q_h G + 225), .ref (q_h G + 226), .ref (q_h G + 228), .ref (q_h G + 236), .ref (q_h G + 242)]) := (hf_541 _ (by omega)).trans hc_537
  have hc_564 : σ_539 25 = o0 G (25) (nI (x_gI 0)) (nI (x_gI 3)) (nI (x_gI 4)) (nI (x_gI 5)) (nI (x_gI 6)) := (hf_541 _ (by omega)).trans hc_513
  rw [hQ]
  exact A_returnN hg (by decide) (by decide) rfl dX10_init_175 ⟨rfl, ⟨rfl, (x_lj_e (fun i _ _ => ((hf_541 i (by omega)).trans ((hf_514 i (by omega)).trans ((hf_488 i (by omega)).trans ((hf_460 i (by omega)).trans ((hf_436 i (by omega)).trans ((hf_410 i (by omega)).trans ((hf_382 i (by omega)).trans ((hf_358 i (by omega)).trans ((hf_333 i (by omega)).trans ((hf_307 i (by omega)).trans ((hf_283 i (by omega)).trans ((hf_259 i (by omega)).trans ((hf_239 i (by omega)).trans ((hf_216 i (by omega)).trans ((hf_198 i (by omega)).trans ((hf_186 i (by omega)).trans ((hf_169 i (by omega)).trans ((hf_159 i (by omega)).trans ((hf_149 i (by omega)).trans ((hf_140 i (by omega)).trans ((hf_132 i (by omega)).trans ((hf_124 i (by omega)).trans ((hf_117 i (by omega)).trans ((hf_110 i (by omega)).trans ((hf_104 i (by omega)).trans ((hf_96 i (by omega)).trans ((hf_91 i (by omega)).trans ((hf_85 i (by omega)).trans ((hf_77 i (by omega)).trans ((hf_72 i (by omega)).trans ((hf_66 i (by omega)).trans ((hf_58 i (by omega)).trans ((hf_53 i (by omega)).trans ((hf_47 i (by omega)).trans ((hf_41 i (by omega)).trans ((hf_36 i (by omega)).trans (hf_32 i (by omega))))))))))))))))))))))))))))))))))))))) hLa), (x_gm_e (fun i _ _ => (hf_541 i (by omega))) hGa), (x_mx_e (fun i _ _ => ((hf_541 i (by omega)).trans ((hf_514 i (by omega)).trans ((hf_488 i (by omega)).trans ((hf_460 i (by omega)).trans ((hf_436 i (by omega)).trans ((hf_410 i (by omega)).trans ((hf_382 i (by omega)).trans ((hf_358 i (by omega)).trans ((hf_333 i (by omega)).trans ((hf_307 i (by omega)).trans ((hf_283 i (by omega)).trans ((hf_259 i (by omega)).trans ((hf_239 i (by omega)).trans ((hf_216 i (by omega)).trans ((hf_198 i (by omega)).trans ((hf_186 i (by omega)).trans ((hf_169 i (by omega)).trans ((hf_159 i (by omega)).trans ((hf_149 i (by omega)).trans ((hf_140 i (by omega)).trans ((hf_132 i (by omega)).trans ((hf_124 i (by omega)).trans ((hf_117 i (by omega)).trans ((hf_110 i (by omega)).trans ((hf_104 i (by omega)).trans ((hf_96 i (by omega)).trans ((hf_91 i (by omega)).trans (hf_85 i (by omega)))))))))))))))))))))))))))))) hMa), (x_hi_e (fun i _ _ => ((hf_541 i (by omega)).trans ((hf_514 i (by omega)).trans ((hf_488 i (by omega)).trans ((hf_460 i (by omega)).trans ((hf_436 i (by omega)).trans ((hf_410 i (by omega)).trans ((hf_382 i (by omega)).trans ((hf_358 i (by omega)).trans ((hf_333 i (by omega)).trans ((hf_307 i (by omega)).trans ((hf_283 i (by omega)).trans ((hf_259 i (by omega)).trans ((hf_239 i (by omega)).trans ((hf_216 i (by omega)).trans ((hf_198 i (by omega)).trans ((hf_186 i (by omega)).trans ((hf_169 i (by omega)).trans ((hf_159 i (by omega)).trans ((hf_149 i (by omega)).trans ((hf_140 i (by omega)).trans ((hf_132 i (by omega)).trans ((hf_124 i (by omega)).trans ((hf_117 i (by omega)).trans ((hf_110 i (by omega)).trans (hf_104 i (by omega))))))))))))))))))))))))))) hHia), ⟨_, _, _, _, _, _, _, _, _, _, _, _, _, _, _, _, _, _, _, _, _, _, _, hc_546, hc_547, hc_548, hc_551, hc_552, hc_553, hc_554, hc_555, hc_549, hc_550, fun _ _ => (by decide : 0 < 1681)⟩, ⟨_, _, _, _, _, _, _, hc_556, hc_557, hc_558, hc_559, hc_560, hc_561⟩, ⟨_, _, _, _, _, hc_562⟩, (x_f2 (P := fun j => x_gj G σ_539 (243 + 18 * j)) (x_gj_e (fun i _ _ => ((hf_541 i (by omega)).trans ((hf_514 i (by omega)).trans ((hf_488 i (by omega)).trans ((hf_460 i (by omega)).trans ((hf_436 i (by omega)).trans (hf_410 i (by omega)))))))) hJ243) (x_gj_e (fun i _ _ => ((hf_541 i (by omega)).trans ((hf_514 i (by omega)).trans (hf_488 i (by omega))))) hJ261)), hc_563, hc_542, hc_543, hc_544, hc_540, hc_545, (fun i hi => ((hf_541 i (by omega)).trans ((hf_514 i (by omega)).trans ((hf_488 i (by omega)).trans ((hf_460 i (by omega)).trans ((hf_436 i (by omega)).trans ((hf_410 i (by omega)).trans ((hf_382 i (by omega)).trans ((hf_358 i (by omega)).trans ((hf_333 i (by omega)).trans ((hf_307 i (by omega)).trans ((hf_283 i (by omega)).trans ((hf_259 i (by omega)).trans ((hf_239 i (by omega)).trans ((hf_216 i (by omega)).trans ((hf_198 i (by omega)).trans ((hf_186 i (by omega)).trans ((hf_169 i (by omega)).trans ((hf_159 i (by omega)).trans ((hf_149 i (by omega)).trans ((hf_140 i (by omega)).trans ((hf_132 i (by omega)).trans ((hf_124 i (by omega)).trans ((hf_117 i (by omega)).trans ((hf_110 i (by omega)).trans ((hf_104 i (by omega)).trans ((hf_96 i (by omega)).trans ((hf_91 i (by omega)).trans ((hf_85 i (by omega)).trans ((hf_77 i (by omega)).trans ((hf_72 i (by omega)).trans ((hf_66 i (by omega)).trans ((hf_58 i (by omega)).trans ((hf_53 i (by omega)).trans ((hf_47 i (by omega)).trans ((hf_41 i (by omega)).trans ((hf_36 i (by omega)).trans ((hf_32 i (by omega)).trans ((hf_26 i (by omega)).trans ((hf_23 i (by omega)).trans ((hf_19 i (by omega)).trans ((hf_15 i (by omega)).trans ((hf_11 i (by omega)).trans ((hf_7 i (by omega)).trans (hf_3 i (by omega))))))))))))))))))))))))))))))))))))))))))))))⟩⟩
end
