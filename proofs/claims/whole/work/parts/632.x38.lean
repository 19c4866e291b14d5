section
set_option maxRecDepth 100000 in
set_option maxHeartbeats 4000000 in
theorem c_X10_undo (G : GL) (ex : Bool) (n : Nat) (σ : Nat → va_E) (z1 : Int32) (z2 : Int32) (z3 : Int32) (g : Nat → Nat) (nx : Nat) (m : Nat) (ps : Nat → Nat → Nat) (hc0 : σ 0 = o10 G (z1) (z2) (z3)) (hn9 : 279 ≤ n) (hG : x_gm G σ 25 g) (hHi : x_hi G σ nx m ps) : CtX G yX10_undo cX10_undo 1 (some .int) ⟨6, 1, 6, 95⟩ [.ref (q_h G + 0)] ex n σ (fun v9 σ2 => v9 = some (.int (nI (m - 1))) ∧ (¬ m = 0) ∧ (x_gm G σ2 25 (ps (m - 1))) ∧ (x_hi G σ2 ((nx + 8 - 1) % 8) (m - 1) ps) ∧ (∀ i : Nat, i < 25 ∨ (42 < i ∧ i < 78) ∨ 78 < i → σ2 i = σ i)) (fun E σ2 => σ2 = σ ∧ ((E = "java/util/NoSuchElementException" ∧ m = 0))) := by
  refine q_enter [some (.ref (q_h G + 0))] (by decide) (Nat.le_of_ble_eq_true rfl) rfl ?_
  intro K hg
  obtain ⟨Q, hQ⟩ : ∃ Q, Q = q_Q G K ex n 1 6 (fun v9 n' σ' => n' = n ∧ (fun v9 σ2 => v9 = some (.int (nI (m - 1))) ∧ (¬ m = 0) ∧ (x_gm G σ2 25 (ps (m - 1))) ∧ (x_hi G σ2 ((nx + 8 - 1) % 8) (m - 1) ps) ∧ (∀ i : Nat, i < 25 ∨ (42 < i ∧ i < 78) ∨ 78 < i → σ2 i = σ i)) v9 σ') (fun E σ2 => σ2 = σ ∧ ((E = "java/util/NoSuchElementException" ∧ m = 0))) := ⟨_, rfl⟩
  refine (?_ : AJ G K (q_Q G K ex n 1 6 _ _) 0 0 ex n 0 _ _ σ)
  rw [← hQ]
  have hG0 := hG
  have hHi0 := hHi
  obtain ⟨hnx, hm8, hc78, hc79, hjs, hps⟩ := hHi
  refine A_aload_n hg dX10_undo_0 rfl rfl ?_
  refine A_getf (v := .ref (q_h G + 78)) hg fl_RX10_54 dX10_undo_1 hc0 (by omega) rfl ?_
  refine A_getf (v := .int (nI (m))) hg fl_RX10_161 dX10_undo_4 hc78 (by omega) rfl ?_
  refine A_if_neN (tgt := 21) hg dX10_undo_7 (by omega) (by decide) (fun c7 => ?_) (fun c7 => ?_)
  · skip
    refine A_aload_n hg dX10_undo_21 rfl rfl ?_
    refine A_getf (v := .ref (q_h G + 78)) hg fl_RX10_54 dX10_undo_22 hc0 (by omega) rfl ?_
    refine A_aload_n hg dX10_undo_25 rfl rfl ?_
    refine A_getf (v := .ref (q_h G + 25)) hg fl_RX10_40 dX10_undo_26 hc0 (by omega) rfl ?_
    refine A_vV (kc2 := 0) (ks2 := 0) (As := [.ref (q_h G + 25)]) (rest := []) hg lk_RX10_413 in_X2_pop se_X2_pop rfl dX10_undo_29 ⟨by decide, by decide⟩ rfl rfl ⟨by decide, by decide⟩ hc78 (by omega) rfl rfl (Nat.le_of_ble_eq_true rfl) (c_X2_pop G ex n σ nx m 25 (ps (m - 1)) hc78 hc79 (by omega) (by omega) (by omega) (by omega) rfl (x_gm_j hG0) (by have h9 := hps (m - 1) (by omega); rw [show nx + 8 - m + (m - 1) = nx + 8 - 1 by omega] at h9; exact h9)) ?_
    rintro σ_3 ⟨hG9, hc_1, hf_2⟩
    have hc_4 : σ_3 0 = o10 G (z1) (z2) (z3) := (hf_2 _ (by omega)).trans hc0
    have hc_5 : σ_3 79 = q_rn G 2 8 (fun j => some (80 + 18 * j)) := (hf_2 _ (by omega)).trans hc79
    have hHiP := x_hi_pop hHi0 (by omega) hc_1 (fun i a b => hf_2 i (by omega))
    refine A_aload_n hg dX10_undo_32 rfl rfl ?_
    refine A_getf (v := .ref (q_h G + 78)) hg fl_RX10_54 dX10_undo_33 hc_4 (by omega) rfl ?_
    refine A_getf (v := .int (nI (m - 1))) hg fl_RX10_161 dX10_undo_36 hc_1 (by omega) rfl ?_
    rw [hQ]
    exact A_ireturn hg (by decide) (by decide) rfl dX10_undo_39 ⟨rfl, ⟨rfl, c7, hG9, hHiP, (fun i hi => (hf_2 i (by omega)))⟩⟩
  · skip
    rw [hQ]
    exact A_throwN (text := "there is nothing to undo") (names := ["java/lang/Exception"]) (rx := prog_32_method_4_code) (Y9 := "java/lang/RuntimeException") hg (by decide +kernel) (by decide +kernel) (by decide +kernel) (by decide +kernel) (by decide +kernel) (by decide +kernel) (by decide +kernel) tw_NSE.2.2.1 tw_NSE.2.2.2 (q_mt 1346 (by decide +kernel)) tw_NSE.1 tw_NSE.2.1 dX10_undo_10 dX10_undo_13 dX10_undo_14 dX10_undo_17 dX10_undo_20 ⟨by decide, by decide, by decide, by decide⟩ (by decide) (by decide) ⟨rfl, ⟨rfl, c7⟩⟩
set_option maxRecDepth 100000 in
set_option maxHeartbeats 4000000 in
theorem c_X10_keep (G : GL) (ex : Bool) (n : Nat) (σ : Nat → va_E) (z1 : Int32) (z2 : Int32) (z3 : Int32) (g : Nat → Nat) (kp : Nat → Nat) (x : Int32) (hc0 : σ 0 = o10 G (z1) (z2) (z3)) (hc1 : σ 224 = q_rn G 2 2 (fun j => some (243 + 18 * j))) (hc2 : σ 225 = q_bn G 2 kp) (hn9 : 279 ≤ n) (hG : x_gm G σ 25 g) (hSn : ∀ j : Nat, j < 2 → x_gj G σ (243 + 18 * j)) : CtX G yX10_keep cX10_keep 2 (some .int) ⟨7, 1, 6, 112⟩ [.ref (q_h G + 0), .int (x)] ex n σ (fun v9 σ2 => ∃ (s1 : Nat), v9 = some (.int (nI (g 4))) ∧ (x = nI s1) ∧ (s1 ≤ 1) ∧ (x_gm G σ2 (243 + 18 * s1) g) ∧ σ2 225 = q_bn G 2 (va_up kp s1 1) ∧ (∀ i : Nat, i ≠ 225 ∧ (i < 243 + 18 * s1 ∨ 243 + 18 * s1 + 17 < i) → σ2 i = σ i)) (fun E σ2 => σ2 = σ ∧ ((E = "java/lang/IllegalArgumentException" ∧ (∀ j : Nat, 0 ≤ j → j ≤ 1 → x = nI j → False)))) := by
  refine q_enter [some (.ref (q_h G + 0)), some (.int (x))] (by decide) (Nat.le_of_ble_eq_true rfl) rfl ?_
  intro K hg
  obtain ⟨Q, hQ⟩ : ∃ Q, Q = q_Q G K ex n 1 6 (fun v9 n' σ' => n' = n ∧ (fun v9 σ2 => ∃ (s1 : Nat), v9 = some (.int (nI (g 4))) ∧ (x = nI s1) ∧ (s1 ≤ 1) ∧ (x_gm G σ2 (243 + 18 * s1) g) ∧ σ2 225 = q_bn G 2 (va_up kp s1 1) ∧ (∀ i : Nat, i ≠ 225 ∧ (i < 243 + 18 * s1 ∨ 243 + 18 * s1 + 17 < i) → σ2 i = σ i)) v9 σ') (fun E σ2 => σ2 = σ ∧ ((E = "java/lang/IllegalArgumentException" ∧ (∀ j : Nat, 0 ≤ j → j ≤ 1 → x = nI j → False)))) := ⟨_, rfl⟩
  refine (?_ : AJ G K (q_Q G K ex n 1 6 _ _) 0 0 ex n 0 _ _ σ)
  rw [← hQ]
  have hG0 := hG
  obtain ⟨kd, fi, se, tf, ts, ac, tu, nm, on, sl, mo, nb, bm, ⟨hg_1, hg_2, hg_3, hg_4, hg_5, hg_6, hg_7, hg_8, hg_9, hg_10, hg_11, hg_12⟩, hgr⟩ := hG
  obtain ⟨hgw, hxp, htp, hrl, hac, htu⟩ := hgr
  have hrs := x_rl_rs hrl
  have hg0 := hgw.1
  have hg1 := hgw.2.1
  have hg2 := hgw.2.2.1
  have hg3 := hgw.2.2.2.1
  have hg6 := hgw.2.2.2.2.1
  have hnp : s_np g = g 1 + g 2 := rfl
  refine A_iload_n hg dX10_keep_0 rfl rfl ?_
  refine A_iconst (v := (nI (0))) hg dX10_keep_1 (by decide) ?_
  refine A_iconst (v := (nI (1))) hg dX10_keep_2 (by decide) ?_
  refine A_pSX (kc2 := 1) (ks2 := 6) (As := [.int (x), .int (nI (0)), .int (nI (1))]) (rest := []) hg lk_RX10_179 st_X10_needRange dX10_keep_3 ⟨by decide, by decide⟩ rfl rfl ⟨by decide, by decide⟩ rfl rfl (Nat.le_of_ble_eq_true rfl) (c_X10_needRange G ex n σ x 0 1 (by omega) (by omega)) (fun E σx hx => by rw [hQ]; exact A_out hg (by decide) (by decide) (by obtain ⟨hs, hE, hx⟩ := hx; exact ⟨hs, ⟨hE, hx⟩⟩)) ?_
  rintro _ ⟨s1, rfl, hxe, hx0, hxl⟩
  refine (?_ : AJ G K Q 1 6 ex n 6 [some (.ref (q_h G + 0)), some (.int (x))] [] σ)
  subst hxe
  have hJs := hSn s1 (by omega)
  obtain ⟨aJ, bJ, cJ, dJ, eJ, hjo_13⟩ := x_gj_o hJs
  refine A_aload_n hg dX10_keep_6 rfl rfl ?_
  refine A_getf (v := .ref (q_h G + 224)) hg fl_RX10_58 dX10_keep_7 hc0 (by omega) rfl ?_
  refine A_iload_n hg dX10_keep_10 rfl rfl ?_
  refine A_aald (i := (243 + 18 * s1)) hg dX10_keep_11 hc1 (by decide) rfl (by omega) (by omega) (by decide) rfl ?_
  refine A_aload_n hg dX10_keep_12 rfl rfl ?_
  refine A_getf (v := .ref (q_h G + 25)) hg fl_RX10_40 dX10_keep_13 hc0 (by omega) rfl ?_
  refine A_vV (kc2 := 1) (ks2 := 6) (As := [.ref (q_h G + 25)]) (rest := []) hg lk_RX10_111 in_X0_copyFrom se_X0_copyFrom rfl dX10_keep_16 ⟨by decide, by decide⟩ rfl rfl ⟨by decide, by decide⟩ hjo_13 (by omega) rfl rfl (Nat.le_of_ble_eq_true rfl) (c_X0_copyG G ex n σ (243 + 18 * s1) 25 g (by omega) (by omega) (by omega) hJs hG0) ?_
  rintro σ_16 ⟨hG9, hc_14, hf_15⟩
  have hc_17 : σ_16 0 = o10 G (z1) (z2) (z3) := (hf_15 _ (by omega)).trans hc0
  have hc_18 : σ_16 224 = q_rn G 2 2 (fun j => some (243 + 18 * j)) := (hf_15 _ (by omega)).trans hc1
  have hc_19 : σ_16 225 = q_bn G 2 kp := (hf_15 _ (by omega)).trans hc2
  have hc_20 : σ_16 25 = o0 G (25) (nI (g 0)) (nI (g 3)) (nI (g 4)) (nI (g 5)) (nI (g 6)) := (hf_15 _ (by omega)).trans hg_1
  have hc_21 : σ_16 26 = q_rn G 3 4 (fun j => some (25 + 10 + 2 * j)) := (hf_15 _ (by omega)).trans hg_2
  have hc_22 : σ_16 27 = o6 G (27) (nI (g 1)) (nI (g 2)) := (hf_15 _ (by omega)).trans hg_3
  have hc_23 : σ_16 (27 + 1) = q_an G 8 kd := (hf_15 _ (by omega)).trans hg_4
  have hc_24 : σ_16 (27 + 2) = q_an G 8 fi := (hf_15 _ (by omega)).trans hg_5
  have hc_25 : σ_16 (27 + 3) = q_an G 8 se := (hf_15 _ (by omega)).trans hg_6
  have hc_26 : σ_16 (27 + 4) = q_an G 8 tf := (hf_15 _ (by omega)).trans hg_7
  have hc_27 : σ_16 (27 + 5) = q_an G 8 ts := (hf_15 _ (by omega)).trans hg_8
  have hc_28 : σ_16 (25 + 8) = q_an G 10 ac := (hf_15 _ (by omega)).trans hg_9
  have hc_29 : σ_16 (25 + 9) = q_an G 100 tu := (hf_15 _ (by omega)).trans hg_10
  have hc_30 : ∀ j9 : Nat, j9 < 4 → σ_16 (25 + 10 + 2 * j9) = o7 G (25 + 10 + 2 * j9) (lN (nm j9)) (lN (on j9)) (nI (sl j9)) (nI (mo j9)) (nI (nb j9)) := fun j9 hj0 => (hf_15 _ (by omega)).trans (hg_11 j9 (by omega))
  have hc_31 : ∀ j9 : Nat, j9 < 4 → σ_16 (25 + 10 + 2 * j9 + 1) = q_an G 5 (bm j9) := fun j9 hj0 => (hf_15 _ (by omega)).trans (hg_12 j9 (by omega))
  refine A_aload_n hg dX10_keep_19 rfl rfl ?_
  refine A_getf (v := .ref (q_h G + 225)) hg fl_RX10_62 dX10_keep_20 hc_17 (by omega) rfl ?_
  refine A_iload_n hg dX10_keep_23 rfl rfl ?_
  refine A_iconst (v := (nI (1))) hg dX10_keep_24 (by decide) ?_
  refine A_bast (j := s1) (x := 1) hg dX10_keep_25 hc_19 (by omega) (by omega) (by decide) (by decide) (fun σ_32 hc_33 hf_34 => ?_)
  have hc_35 : σ_32 0 = o10 G (z1) (z2) (z3) := (hf_34 _ (by omega)).trans hc_17
  have hc_36 : σ_32 224 = q_rn G 2 2 (fun j => some (243 + 18 * j)) := (hf_34 _ (by omega)).trans hc_18
  have hc_37 : σ_32 25 = o0 G (25) (nI (g 0)) (nI (g 3)) (nI (g 4)) (nI (g 5)) (nI (g 6)) := (hf_34 _ (by omega)).trans hc_20
  have hc_38 : σ_32 26 = q_rn G 3 4 (fun j => some (25 + 10 + 2 * j)) := (hf_34 _ (by omega)).trans hc_21
  have hc_39 : σ_32 27 = o6 G (27) (nI (g 1)) (nI (g 2)) := (hf_34 _ (by omega)).trans hc_22
  have hc_40 : σ_32 (27 + 1) = q_an G 8 kd := (hf_34 _ (by omega)).trans hc_23
  have hc_41 : σ_32 (27 + 2) = q_an G 8 fi := (hf_34 _ (by omega)).trans hc_24
  have hc_42 : σ_32 (27 + 3) = q_an G 8 se := (hf_34 _ (by omega)).trans hc_25
  have hc_43 : σ_32 (27 + 4) = q_an G 8 tf := (hf_34 _ (by omega)).trans hc_26
  have hc_44 : σ_32 (27 + 5) = q_an G 8 ts := (hf_34 _ (by omega)).trans hc_27
  have hc_45 : σ_32 (25 + 8) = q_an G 10 ac := (hf_34 _ (by omega)).trans hc_28
  have hc_46 : σ_32 (25 + 9) = q_an G 100 tu := (hf_34 _ (by omega)).trans hc_29
  have hc_47 : ∀ j9 : Nat, j9 < 4 → σ_32 (25 + 10 + 2 * j9) = o7 G (25 + 10 + 2 * j9) (lN (nm j9)) (lN (on j9)) (nI (sl j9)) (nI (mo j9)) (nI (nb j9)) := fun j9 hj0 => (hf_34 _ (by omega)).trans (hc_30 j9 (by omega))
  have hc_48 : ∀ j9 : Nat, j9 < 4 → σ_32 (25 + 10 + 2 * j9 + 1) = q_an G 5 (bm j9) := fun j9 hj0 => (hf_34 _ (by omega)).trans (hc_31 j9 (by omega))
  have hc_49 : σ_32 (243 + 18 * s1) = o0 G (243 + 18 * s1) (nI (g 0)) (nI (g 3)) (nI (g 4)) (nI (g 5)) (nI (g 6)) := (hf_34 _ (by omega)).trans hc_14
  refine A_aload_n hg dX10_keep_26 rfl rfl ?_
  refine A_getf (v := .ref (q_h G + 25)) hg fl_RX10_40 dX10_keep_27 hc_35 (by omega) rfl ?_
  refine A_getf (v := .int (nI (g 4))) hg fl_RX10_137 dX10_keep_30 hc_37 (by omega) rfl ?_
  rw [hQ]
  exact A_ireturn hg (by decide) (by decide) rfl dX10_keep_33 ⟨rfl, ⟨s1, rfl, rfl, hxl, (x_gm_e (fun i _ _ => (hf_34 i (by omega))) hG9), hc_33, (fun i hi => ((hf_34 i (by omega)).trans (hf_15 i (by omega))))⟩⟩
set_option maxRecDepth 100000 in
set_option maxHeartbeats 4000000 in
theorem c_X10_bringBack (G : GL) (ex : Bool) (n : Nat) (σ : Nat → va_E) (z1 : Int32) (z2 : Int32) (z3 : Int32) (g : Nat → Nat) (nx : Nat) (m : Nat) (ps : Nat → Nat → Nat) (kp : Nat → Nat) (sn : Nat → Nat → Nat) (x : Int32) (hc0 : σ 0 = o10 G (z1) (z2) (z3)) (hc1 : σ 224 = q_rn G 2 2 (fun j => some (243 + 18 * j))) (hc2 : σ 225 = q_bn G 2 kp) (hn9 : 279 ≤ n) (hG : x_gm G σ 25 g) (hHi : x_hi G σ nx m ps) (hk1 : ∀ j : Nat, j < 2 → kp j ≤ 1) (hKp : ∀ j : Nat, j < 2 → kp j = 1 → x_gm G σ (243 + 18 * j) (sn j)) : CtX G yX10_bringBack cX10_bringBack 2 (some .int) ⟨7, 2, 12, 112⟩ [.ref (q_h G + 0), .int (x)] ex n σ (fun v9 σ2 => ∃ (s1 : Nat), v9 = some (.int (nI (sn s1 4))) ∧ (x = nI s1) ∧ (s1 ≤ 1) ∧ (kp s1 = 1) ∧ (x_gm G σ2 25 (sn s1)) ∧ (x_hi G σ2 nx 0 ps) ∧ (∀ i : Nat, i < 25 ∨ (42 < i ∧ i < 78) ∨ 78 < i → σ2 i = σ i)) (fun E σ2 => σ2 = σ ∧ ((E = "java/lang/IllegalArgumentException" ∧ (∀ j : Nat, 0 ≤ j → j ≤ 1 → x = nI j → False)) ∨ (E = "java/util/NoSuchElementException" ∧ (∃ s1 : Nat, x = nI s1 ∧ s1 ≤ 1 ∧ kp s1 = 0)))) := by
  refine q_enter [some (.ref (q_h G + 0)), some (.int (x))] (by decide) (Nat.le_of_ble_eq_true rfl) rfl ?_
  intro K hg
  obtain ⟨Q, hQ⟩ : ∃ Q, Q = q_Q G K ex n 2 12 (fun v9 n' σ' => n' = n ∧ (fun v9 σ2 => ∃ (s1 : Nat), v9 = some (.int (nI (sn s1 4))) ∧ (x = nI s1) ∧ (s1 ≤ 1) ∧ (kp s1 = 1) ∧ (x_gm G σ2 25 (sn s1)) ∧ (x_hi G σ2 nx 0 ps) ∧ (∀ i : Nat, i < 25 ∨ (42 < i ∧ i < 78) ∨ 78 < i → σ2 i = σ i)) v9 σ') (fun E σ2 => σ2 = σ ∧ ((E = "java/lang/IllegalArgumentException" ∧ (∀ j : Nat, 0 ≤ j → j ≤ 1 → x = nI j → False)) ∨ (E = "java/util/NoSuchElementException" ∧ (∃ s1 : Nat, x = nI s1 ∧ s1 ≤ 1 ∧ kp s1 = 0)))) := ⟨_, rfl⟩
  refine (?_ : AJ G K (q_Q G K ex n 2 12 _ _) 0 0 ex n 0 _ _ σ)
  rw [← hQ]
  have hG0 := hG
  have hJ0 := x_gm_j hG
  have hHi0 := hHi
  obtain ⟨hnx, hm8, hc78, hc79, hjs, hps⟩ := hHi
  obtain ⟨aJ, bJ, cJ, dJ, eJ, hjo_1⟩ := x_gj_o hJ0
  refine A_iload_n hg dX10_bringBack_0 rfl rfl ?_
  refine A_iconst (v := (nI (0))) hg dX10_bringBack_1 (by decide) ?_
  refine A_iconst (v := (nI (1))) hg dX10_bringBack_2 (by decide) ?_
  refine A_pSX (kc2 := 1) (ks2 := 6) (As := [.int (x), .int (nI (0)), .int (nI (1))]) (rest := []) hg lk_RX10_179 st_X10_needRange dX10_bringBack_3 ⟨by decide, by decide⟩ rfl rfl ⟨by decide, by decide⟩ rfl rfl (Nat.le_of_ble_eq_true rfl) (c_X10_needRange G ex n σ x 0 1 (by omega) (by omega)) (fun E σx hx => by rw [hQ]; exact A_out hg (by decide) (by decide) (by obtain ⟨hs, hE, hx⟩ := hx; exact ⟨hs, Or.inl (⟨hE, hx⟩)⟩)) ?_
  rintro _ ⟨s1, rfl, hxe, hx0, hxl⟩
  refine (?_ : AJ G K Q 1 6 ex n 6 [some (.ref (q_h G + 0)), some (.int (x))] [] σ)
  subst hxe
  refine A_aload_n hg dX10_bringBack_6 rfl rfl ?_
  refine A_getf (v := .ref (q_h G + 225)) hg fl_RX10_62 dX10_bringBack_7 hc0 (by omega) rfl ?_
  refine A_iload_n hg dX10_bringBack_10 rfl rfl ?_
  refine A_bald (j := s1) hg dX10_bringBack_11 hc2 (by omega) (by omega) (by decide) ?_
  refine A_if_neN (tgt := 26) hg dX10_bringBack_12 (by have := hk1 s1 (by omega); omega) (by decide) (fun c12 => ?_) (fun c12 => ?_)
  · skip
    have hk9 := hk1 s1 (by omega)
    have hkb : kp s1 = 1 := by omega
    have hSg := hKp s1 (by omega) hkb
    refine A_aload_n hg dX10_bringBack_26 rfl rfl ?_
    refine A_getf (v := .ref (q_h G + 25)) hg fl_RX10_40 dX10_bringBack_27 hc0 (by omega) rfl ?_
    refine A_aload_n hg dX10_bringBack_30 rfl rfl ?_
    refine A_getf (v := .ref (q_h G + 224)) hg fl_RX10_58 dX10_bringBack_31 hc0 (by omega) rfl ?_
    refine A_iload_n hg dX10_bringBack_34 rfl rfl ?_
    refine A_aald (i := (243 + 18 * s1)) hg dX10_bringBack_35 hc1 (by decide) rfl (by omega) (by omega) (by decide) rfl ?_
    refine A_vV (kc2 := 1) (ks2 := 6) (As := [.ref (q_h G + (243 + 18 * s1))]) (rest := []) hg lk_RX10_111 in_X0_copyFrom se_X0_copyFrom rfl dX10_bringBack_36 ⟨by decide, by decide⟩ rfl rfl ⟨by decide, by decide⟩ hjo_1 (by omega) rfl rfl (Nat.le_of_ble_eq_true rfl) (c_X0_copyG G ex n σ 25 (243 + 18 * s1) (sn s1) (by omega) (by omega) (by omega) hJ0 hSg) ?_
    rintro σ_4 ⟨hG9, hc_2, hf_3⟩
    have hc_5 : σ_4 0 = o10 G (z1) (z2) (z3) := (hf_3 _ (by omega)).trans hc0
    have hc_6 : σ_4 224 = q_rn G 2 2 (fun j => some (243 + 18 * j)) := (hf_3 _ (by omega)).trans hc1
    have hc_7 : σ_4 225 = q_bn G 2 kp := (hf_3 _ (by omega)).trans hc2
    have hc_8 : σ_4 78 = o2 G (78) (nI (nx)) (nI (m)) := (hf_3 _ (by omega)).trans hc78
    have hc_9 : σ_4 79 = q_rn G 2 8 (fun j => some (80 + 18 * j)) := (hf_3 _ (by omega)).trans hc79
    refine A_aload_n hg dX10_bringBack_39 rfl rfl ?_
    refine A_getf (v := .ref (q_h G + 78)) hg fl_RX10_54 dX10_bringBack_40 hc_5 (by omega) rfl ?_
    refine A_vV (kc2 := 1) (ks2 := 6) (As := []) (rest := []) hg lk_RX10_115 in_X2_clear se_X2_clear rfl dX10_bringBack_43 ⟨by decide, by decide⟩ rfl rfl ⟨by decide, by decide⟩ hc_8 (by omega) rfl rfl (Nat.le_of_ble_eq_true rfl) (c_X2_clear G ex n σ_4 nx m hc_8 (by omega)) ?_
    rintro σ_12 ⟨hc_10, hf_11⟩
    have hc_13 : σ_12 0 = o10 G (z1) (z2) (z3) := (hf_11 _ (by omega)).trans hc_5
    have hc_14 : σ_12 224 = q_rn G 2 2 (fun j => some (243 + 18 * j)) := (hf_11 _ (by omega)).trans hc_6
    have hc_15 : σ_12 225 = q_bn G 2 kp := (hf_11 _ (by omega)).trans hc_7
    have hc_16 : σ_12 79 = q_rn G 2 8 (fun j => some (80 + 18 * j)) := (hf_11 _ (by omega)).trans hc_9
    have hc_17 : σ_12 25 = o0 G (25) (nI ((sn s1) 0)) (nI ((sn s1) 3)) (nI ((sn s1) 4)) (nI ((sn s1) 5)) (nI ((sn s1) 6)) := (hf_11 _ (by omega)).trans hc_2
    have hHiP := x_hi_clear (σ2 := σ_12) (x_hi_e (σ2 := σ_4) (fun i a b => hf_3 i (by omega)) hHi0) hc_10 (fun i a b => hf_11 i (by omega))
    refine A_aload_n hg dX10_bringBack_46 rfl rfl ?_
    refine A_getf (v := .ref (q_h G + 25)) hg fl_RX10_40 dX10_bringBack_47 hc_13 (by omega) rfl ?_
    refine A_getf (v := .int (nI ((sn s1) 4))) hg fl_RX10_137 dX10_bringBack_50 hc_17 (by omega) rfl ?_
    rw [hQ]
    exact A_ireturn hg (by decide) (by decide) rfl dX10_bringBack_53 ⟨rfl, ⟨s1, rfl, rfl, hxl, hkb, (x_gm_e (fun i _ _ => (hf_11 i (by omega))) hG9), hHiP, (fun i hi => ((hf_11 i (by omega)).trans (hf_3 i (by omega))))⟩⟩
  · skip
    rw [hQ]
    exact A_throwN (text := "nothing is kept there") (names := ["java/lang/Exception"]) (rx := prog_32_method_4_code) (Y9 := "java/lang/RuntimeException") hg (by decide +kernel) (by decide +kernel) (by decide +kernel) (by decide +kernel) (by decide +kernel) (by decide +kernel) (by decide +kernel) tw_NSE.2.2.1 tw_NSE.2.2.2 (q_mt 1395 (by decide +kernel)) tw_NSE.1 tw_NSE.2.1 dX10_bringBack_15 dX10_bringBack_18 dX10_bringBack_19 dX10_bringBack_22 dX10_bringBack_25 ⟨by decide, by decide, by decide, by decide⟩ (by decide) (by decide) ⟨rfl, Or.inr (⟨rfl, s1, rfl, hxl, c12⟩)⟩
end
