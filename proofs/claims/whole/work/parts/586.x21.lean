section
set_option maxRecDepth 100000 in
set_option maxHeartbeats 4000000 in
theorem c_X3_read (G : GL) (ex : Bool) (n : Nat) (σ : Nat → va_E) (f : Nat → Nat) (m : Nat) (ft0 : Nat) (er0 : Int32) (ea0 : Int32) (ti : Nat) (ln : Int32) (kd0 : Int32) (st0 : Int32) (be0 : Int32) (nu0 : Int32) (rm : Nat) (pl : Nat) (tn : Nat) (gm : Nat) (tk : Nat) (b : Nat) (sk : Nat) (nm : Nat → Nat) (on : Nat → Nat) (sl : Nat → Nat) (mo : Nat → Nat) (nb : Nat → Nat) (bm : Nat → Nat → Nat) (kd : Nat → Nat) (fi : Nat → Nat) (se : Nat → Nat) (tf : Nat → Nat) (ts : Nat → Nat) (ac : Nat → Nat) (hc0 : σ 2 = o3 G (2) (nI (ft0)) (er0) (ea0)) (hc1 : σ 3 = o9 G (ti) (ln) (kd0) (st0) (be0) (nu0)) (hc2 : σ 1 = q_an G 600 f) (hc3 : σ 5 = o0 G (5) (nI (rm)) (nI (pl)) (nI (tn)) (nI (gm)) (nI (tk))) (hc4 : σ 6 = q_rn G 3 4 (fun j => some (5 + 10 + 2 * j))) (hc5 : σ 7 = o6 G (7) (nI (b)) (nI (sk))) (hc6 : σ (7 + 1) = q_an G 8 kd) (hc7 : σ (7 + 2) = q_an G 8 fi) (hc8 : σ (7 + 3) = q_an G 8 se) (hc9 : σ (7 + 4) = q_an G 8 tf) (hc10 : σ (7 + 5) = q_an G 8 ts) (hc11 : σ 13 = q_an G 10 ac) (hc12 : ∀ j9 : Nat, j9 < 4 → σ (5 + 10 + 2 * j9) = o7 G (5 + 10 + 2 * j9) (lN (nm j9)) (lN (on j9)) (nI (sl j9)) (nI (mo j9)) (nI (nb j9))) (hc13 : ∀ j9 : Nat, j9 < 4 → σ (5 + 10 + 2 * j9 + 1) = q_an G 5 (bm j9)) (hn9 : 279 ≤ n) (hm6 : m ≤ 600) (hbb : ∀ k : Nat, s_byte f m k ≤ 256) : Ct G yX3_read cX3_read 5 (some .int) ⟨7, 0, 0, 152⟩ [.ref (q_h G + 2), .ref (q_h G + 1), .int (nI (m))] ex n σ (fun v9 σ2 => (∃ (c : Nat), ∃ (o : Nat), ∃ (ft2 : Nat), ∃ (kd2 : Int32), ∃ (st2 : Int32), ∃ (be2 : Int32), ∃ (nu2 : Int32), ∃ (rm2 : Nat), ∃ (pl2 : Nat), ∃ (nm2 : Nat → Nat), ∃ (on2 : Nat → Nat), ∃ (sl2 : Nat → Nat), ∃ (mo2 : Nat → Nat), ∃ (nb2 : Nat → Nat), ∃ (bm2 : Nat → Nat → Nat), ∃ (bE : Nat), ∃ (skE : Nat), ∃ (kdE : Nat → Nat), ∃ (fiE : Nat → Nat), ∃ (seE : Nat → Nat), ∃ (tfE : Nat → Nat), ∃ (tsE : Nat → Nat), v9 = some (.int (nI (c))) ∧ (rd_all f m = .inl (c, o)) ∧ (¬ c = 0) ∧ σ2 2 = o3 G (2) (nI (ft2)) (nI (c)) (nI (o)) ∧ σ2 3 = o9 G (1) (nI (m)) (kd2) (st2) (be2) (nu2) ∧ σ2 5 = o0 G (5) (nI (rm2)) (nI (pl2)) (nI (0)) (nI (1)) (nI (0)) ∧ (∀ j9 : Nat, j9 < 4 → σ2 (5 + 10 + 2 * j9) = o7 G (5 + 10 + 2 * j9) (lN (nm2 j9)) (lN (on2 j9)) (nI (sl2 j9)) (nI (mo2 j9)) (nI (nb2 j9))) ∧ (∀ j9 : Nat, j9 < 4 → σ2 (5 + 10 + 2 * j9 + 1) = q_an G 5 (bm2 j9)) ∧ σ2 7 = o6 G (7) (nI (bE)) (nI (skE)) ∧ σ2 8 = q_an G 8 kdE ∧ σ2 9 = q_an G 8 fiE ∧ σ2 10 = q_an G 8 seE ∧ σ2 11 = q_an G 8 tfE ∧ σ2 12 = q_an G 8 tsE ∧ σ2 13 = q_an G 10 (fun _ => 0) ∧ (∀ i : Nat, i < 2 ∨ i = 4 ∨ i = 6 ∨ i = 14 ∨ 22 < i → σ2 i = σ i)) ∨ (∃ (g' : Nat → Nat), ∃ (t' : Nat), ∃ (ft2 : Nat), ∃ (kd2 : Int32), ∃ (st2 : Int32), ∃ (be2 : Int32), ∃ (nu2 : Int32), ∃ (nm2 : Nat → Nat), ∃ (on2 : Nat → Nat), ∃ (sl2 : Nat → Nat), ∃ (mo2 : Nat → Nat), ∃ (nb2 : Nat → Nat), ∃ (bm2 : Nat → Nat → Nat), ∃ (kdE : Nat → Nat), ∃ (fiE : Nat → Nat), ∃ (seE : Nat → Nat), ∃ (tfE : Nat → Nat), ∃ (tsE : Nat → Nat), v9 = some (.int (nI (0))) ∧ (rd_all f m = .inr (g', t')) ∧ (rd_inv g') ∧ (rd_k g') ∧ (x_rl g' (g' 0) nm2 on2 sl2 mo2 nb2 bm2) ∧ (x_p g' kdE fiE seE) ∧ (x_tp g' tfE tsE) ∧ σ2 2 = o3 G (2) (nI (ft2)) (nI (0)) (q_d (0)) ∧ σ2 3 = o9 G (1) (nI (m)) (kd2) (st2) (be2) (nu2) ∧ σ2 5 = o0 G (5) (nI (g' 0)) (nI (g' 3)) (nI (0)) (nI (1)) (nI (0)) ∧ (∀ j9 : Nat, j9 < 4 → σ2 (5 + 10 + 2 * j9) = o7 G (5 + 10 + 2 * j9) (lN (nm2 j9)) (lN (on2 j9)) (nI (sl2 j9)) (nI (mo2 j9)) (nI (nb2 j9))) ∧ (∀ j9 : Nat, j9 < 4 → σ2 (5 + 10 + 2 * j9 + 1) = q_an G 5 (bm2 j9)) ∧ σ2 7 = o6 G (7) (nI (g' 1)) (nI (g' 2)) ∧ σ2 8 = q_an G 8 kdE ∧ σ2 9 = q_an G 8 fiE ∧ σ2 10 = q_an G 8 seE ∧ σ2 11 = q_an G 8 tfE ∧ σ2 12 = q_an G 8 tsE ∧ σ2 13 = q_an G 10 (fun _ => 0) ∧ (∀ i : Nat, i < 2 ∨ i = 4 ∨ i = 6 ∨ i = 14 ∨ 22 < i → σ2 i = σ i))) := by
  refine q_enter [some (.ref (q_h G + 2)), some (.ref (q_h G + 1)), some (.int (nI (m))), none, none] (by decide) (Nat.le_of_ble_eq_true rfl) rfl ?_
  intro K hg
  obtain ⟨Q, hQ⟩ : ∃ Q, Q = q_Q G K ex n 0 0 (fun v9 n' σ' => n' = n ∧ (fun v9 σ2 => (∃ (c : Nat), ∃ (o : Nat), ∃ (ft2 : Nat), ∃ (kd2 : Int32), ∃ (st2 : Int32), ∃ (be2 : Int32), ∃ (nu2 : Int32), ∃ (rm2 : Nat), ∃ (pl2 : Nat), ∃ (nm2 : Nat → Nat), ∃ (on2 : Nat → Nat), ∃ (sl2 : Nat → Nat), ∃ (mo2 : Nat → Nat), ∃ (nb2 : Nat → Nat), ∃ (bm2 : Nat → Nat → Nat), ∃ (bE : Nat), ∃ (skE : Nat), ∃ (kdE : Nat → Nat), ∃ (fiE : Nat → Nat), ∃ (seE : Nat → Nat), ∃ (tfE : Nat → Nat), ∃ (tsE : Nat → Nat), v9 = some (.int (nI (c))) ∧ (rd_all f m = .inl (c, o)) ∧ (¬ c = 0) ∧ σ2 2 = o3 G (2) (nI (ft2)) (nI (c)) (nI (o)) ∧ σ2 3 = o9 G (1) (nI (m)) (kd2) (st2) (be2) (nu2) ∧ σ2 5 = o0 G (5) (nI (rm2)) (nI (pl2)) (nI (0)) (nI (1)) (nI (0)) ∧ (∀ j9 : Nat, j9 < 4 → σ2 (5 + 10 + 2 * j9) = o7 G (5 + 10 + 2 * j9) (lN (nm2 j9)) (lN (on2 j9)) (nI (sl2 j9)) (nI (mo2 j9)) (nI (nb2 j9))) ∧ (∀ j9 : Nat, j9 < 4 → σ2 (5 + 10 + 2 * j9 + 1) = q_an G 5 (bm2 j9)) ∧ σ2 7 = o6 G (7) (nI (bE)) (nI (skE)) ∧ σ2 8 = q_an G 8 kdE ∧ σ2 9 = q_an G 8 fiE ∧ σ2 10 = q_an G 8 seE ∧ σ2 11 = q_an G 8 tfE ∧ σ2 12 = q_an G 8 tsE ∧ σ2 13 = q_an G 10 (fun _ => 0) ∧ (∀ i : Nat, i < 2 ∨ i = 4 ∨ i = 6 ∨ i = 14 ∨ 22 < i → σ2 i = σ i)) ∨ (∃ (g' : Nat → Nat), ∃ (t' : Nat), ∃ (ft2 : Nat), ∃ (kd2 : Int32), ∃ (st2 : Int32), ∃ (be2 : Int32), ∃ (nu2 : Int32), ∃ (nm2 : Nat → Nat), ∃ (on2 : Nat → Nat), ∃ (sl2 : Nat → Nat), ∃ (mo2 : Nat → Nat), ∃ (nb2 : Nat → Nat), ∃ (bm2 : Nat → Nat → Nat), ∃ (kdE : Nat → Nat), ∃ (fiE : Nat → Nat), ∃ (seE : Nat → Nat), ∃ (tfE : Nat → Nat), ∃ (tsE : Nat → Nat), v9 = some (.int (nI (0))) ∧ (rd_all f m = .inr (g', t')) ∧ (rd_inv g') ∧ (rd_k g') ∧ (x_rl g' (g' 0) nm2 on2 sl2 mo2 nb2 bm2) ∧ (x_p g' kdE fiE seE) ∧ (x_tp g' tfE tsE) ∧ σ2 2 = o3 G (2) (nI (ft2)) (nI (0)) (q_d (0)) ∧ σ2 3 = o9 G (1) (nI (m)) (kd2) (st2) (be2) (nu2) ∧ σ2 5 = o0 G (5) (nI (g' 0)) (nI (g' 3)) (nI (0)) (nI (1)) (nI (0)) ∧ (∀ j9 : Nat, j9 < 4 → σ2 (5 + 10 + 2 * j9) = o7 G (5 + 10 + 2 * j9) (lN (nm2 j9)) (lN (on2 j9)) (nI (sl2 j9)) (nI (mo2 j9)) (nI (nb2 j9))) ∧ (∀ j9 : Nat, j9 < 4 → σ2 (5 + 10 + 2 * j9 + 1) = q_an G 5 (bm2 j9)) ∧ σ2 7 = o6 G (7) (nI (g' 1)) (nI (g' 2)) ∧ σ2 8 = q_an G 8 kdE ∧ σ2 9 = q_an G 8 fiE ∧ σ2 10 = q_an G 8 seE ∧ σ2 11 = q_an G 8 tfE ∧ σ2 12 = q_an G 8 tsE ∧ σ2 13 = q_an G 10 (fun _ => 0) ∧ (∀ i : Nat, i < 2 ∨ i = 4 ∨ i = 6 ∨ i = 14 ∨ 22 < i → σ2 i = σ i))) v9 σ') q_noX := ⟨_, rfl⟩
  refine (?_ : AJ G K (q_Q G K ex n 0 0 _ _) 0 0 ex n 0 _ _ σ)
  rw [← hQ]
  refine A_aload_n hg dX3_read_0 rfl rfl ?_
  refine A_getf (v := .ref (q_h G + 5)) hg fl_RX3_21 dX3_read_1 hc0 (by omega) rfl ?_
  refine A_vV (kc2 := 0) (ks2 := 0) (As := []) (rest := []) hg lk_RX3_36 in_X0_clear se_X0_clear rfl dX3_read_4 ⟨by decide, by decide⟩ rfl rfl ⟨by decide, by decide⟩ hc3 (by omega) rfl rfl (Nat.le_of_ble_eq_true rfl) (c_X0_clear G ex n σ 5 rm pl tn gm tk b sk ac hc3 hc4 hc5 hc11 (by omega)) ?_
  rintro σ_5 ⟨hc_1, hc_2, hc_3, hf_4⟩
  have hc_6 : σ_5 2 = o3 G (2) (nI (ft0)) (er0) (ea0) := (hf_4 _ (by omega)).trans hc0
  have hc_7 : σ_5 3 = o9 G (ti) (ln) (kd0) (st0) (be0) (nu0) := (hf_4 _ (by omega)).trans hc1
  have hc_8 : σ_5 1 = q_an G 600 f := (hf_4 _ (by omega)).trans hc2
  have hc_9 : σ_5 6 = q_rn G 3 4 (fun j => some (5 + 10 + 2 * j)) := (hf_4 _ (by omega)).trans hc4
  have hc_10 : σ_5 (7 + 1) = q_an G 8 kd := (hf_4 _ (by omega)).trans hc6
  have hc_11 : σ_5 (7 + 2) = q_an G 8 fi := (hf_4 _ (by omega)).trans hc7
  have hc_12 : σ_5 (7 + 3) = q_an G 8 se := (hf_4 _ (by omega)).trans hc8
  have hc_13 : σ_5 (7 + 4) = q_an G 8 tf := (hf_4 _ (by omega)).trans hc9
  have hc_14 : σ_5 (7 + 5) = q_an G 8 ts := (hf_4 _ (by omega)).trans hc10
  have hc_15 : ∀ j9 : Nat, j9 < 4 → σ_5 (5 + 10 + 2 * j9) = o7 G (5 + 10 + 2 * j9) (lN (nm j9)) (lN (on j9)) (nI (sl j9)) (nI (mo j9)) (nI (nb j9)) := fun j9 hj0 => (hf_4 _ (by omega)).trans (hc12 j9 (by omega))
  have hc_16 : ∀ j9 : Nat, j9 < 4 → σ_5 (5 + 10 + 2 * j9 + 1) = q_an G 5 (bm j9) := fun j9 hj0 => (hf_4 _ (by omega)).trans (hc13 j9 (by omega))
  refine A_aload_n hg dX3_read_7 rfl rfl ?_
  refine A_iconst (v := (nI (0))) hg dX3_read_8 (by decide) ?_
  refine A_putf hg fl_RX3_25 dX3_read_9 hc_6 (by omega) (Nat.le_of_ble_eq_true rfl) rfl rfl rfl (fun σ_17 hc_18 hf_19 => ?_)
  have hc_18 : σ_17 2 = o3 G (2) (nI (0)) (er0) (ea0) := hc_18
  have hc_20 : σ_17 3 = o9 G (ti) (ln) (kd0) (st0) (be0) (nu0) := (hf_19 _ (by omega)).trans hc_7
  have hc_21 : σ_17 1 = q_an G 600 f := (hf_19 _ (by omega)).trans hc_8
  have hc_22 : σ_17 6 = q_rn G 3 4 (fun j => some (5 + 10 + 2 * j)) := (hf_19 _ (by omega)).trans hc_9
  have hc_23 : σ_17 (7 + 1) = q_an G 8 kd := (hf_19 _ (by omega)).trans hc_10
  have hc_24 : σ_17 (7 + 2) = q_an G 8 fi := (hf_19 _ (by omega)).trans hc_11
  have hc_25 : σ_17 (7 + 3) = q_an G 8 se := (hf_19 _ (by omega)).trans hc_12
  have hc_26 : σ_17 (7 + 4) = q_an G 8 tf := (hf_19 _ (by omega)).trans hc_13
  have hc_27 : σ_17 (7 + 5) = q_an G 8 ts := (hf_19 _ (by omega)).trans hc_14
  have hc_28 : ∀ j9 : Nat, j9 < 4 → σ_17 (5 + 10 + 2 * j9) = o7 G (5 + 10 + 2 * j9) (lN (nm j9)) (lN (on j9)) (nI (sl j9)) (nI (mo j9)) (nI (nb j9)) := fun j9 hj0 => (hf_19 _ (by omega)).trans (hc_15 j9 (by omega))
  have hc_29 : ∀ j9 : Nat, j9 < 4 → σ_17 (5 + 10 + 2 * j9 + 1) = q_an G 5 (bm j9) := fun j9 hj0 => (hf_19 _ (by omega)).trans (hc_16 j9 (by omega))
  have hc_30 : σ_17 5 = o0 G (5) (nI (0)) (nI (0)) (nI (0)) (nI (1)) (nI (0)) := (hf_19 _ (by omega)).trans hc_1
  have hc_31 : σ_17 (5 + 2) = o6 G (5 + 2) (nI (0)) (nI (0)) := (hf_19 _ (by omega)).trans hc_2
  have hc_32 : σ_17 (5 + 8) = q_an G 10 (fun _ => 0) := (hf_19 _ (by omega)).trans hc_3
  refine A_aload_n hg dX3_read_12 rfl rfl ?_
  refine A_iconst (v := (nI (0))) hg dX3_read_13 (by decide) ?_
  refine A_putf hg fl_RX3_29 dX3_read_14 hc_18 (by omega) (Nat.le_of_ble_eq_true rfl) rfl rfl rfl (fun σ_33 hc_34 hf_35 => ?_)
  have hc_34 : σ_33 2 = o3 G (2) (nI (0)) (nI (0)) (ea0) := hc_34
  have hc_36 : σ_33 3 = o9 G (ti) (ln) (kd0) (st0) (be0) (nu0) := (hf_35 _ (by omega)).trans hc_20
  have hc_37 : σ_33 1 = q_an G 600 f := (hf_35 _ (by omega)).trans hc_21
  have hc_38 : σ_33 6 = q_rn G 3 4 (fun j => some (5 + 10 + 2 * j)) := (hf_35 _ (by omega)).trans hc_22
  have hc_39 : σ_33 (7 + 1) = q_an G 8 kd := (hf_35 _ (by omega)).trans hc_23
  have hc_40 : σ_33 (7 + 2) = q_an G 8 fi := (hf_35 _ (by omega)).trans hc_24
  have hc_41 : σ_33 (7 + 3) = q_an G 8 se := (hf_35 _ (by omega)).trans hc_25
  have hc_42 : σ_33 (7 + 4) = q_an G 8 tf := (hf_35 _ (by omega)).trans hc_26
  have hc_43 : σ_33 (7 + 5) = q_an G 8 ts := (hf_35 _ (by omega)).trans hc_27
  have hc_44 : ∀ j9 : Nat, j9 < 4 → σ_33 (5 + 10 + 2 * j9) = o7 G (5 + 10 + 2 * j9) (lN (nm j9)) (lN (on j9)) (nI (sl j9)) (nI (mo j9)) (nI (nb j9)) := fun j9 hj0 => (hf_35 _ (by omega)).trans (hc_28 j9 (by omega))
  have hc_45 : ∀ j9 : Nat, j9 < 4 → σ_33 (5 + 10 + 2 * j9 + 1) = q_an G 5 (bm j9) := fun j9 hj0 => (hf_35 _ (by omega)).trans (hc_29 j9 (by omega))
  have hc_46 : σ_33 5 = o0 G (5) (nI (0)) (nI (0)) (nI (0)) (nI (1)) (nI (0)) := (hf_35 _ (by omega)).trans hc_30
  have hc_47 : σ_33 (5 + 2) = o6 G (5 + 2) (nI (0)) (nI (0)) := (hf_35 _ (by omega)).trans hc_31
  have hc_48 : σ_33 (5 + 8) = q_an G 10 (fun _ => 0) := (hf_35 _ (by omega)).trans hc_32
  refine A_aload_n hg dX3_read_17 rfl rfl ?_
  refine A_iconst (v := (q_d (0))) hg dX3_read_18 (by decide) ?_
  refine A_putf hg fl_RX3_33 dX3_read_19 hc_34 (by omega) (Nat.le_of_ble_eq_true rfl) rfl rfl rfl (fun σ_49 hc_50 hf_51 => ?_)
  have hc_50 : σ_49 2 = o3 G (2) (nI (0)) (nI (0)) (q_d (0)) := hc_50
  have hc_52 : σ_49 3 = o9 G (ti) (ln) (kd0) (st0) (be0) (nu0) := (hf_51 _ (by omega)).trans hc_36
  have hc_53 : σ_49 1 = q_an G 600 f := (hf_51 _ (by omega)).trans hc_37
  have hc_54 : σ_49 6 = q_rn G 3 4 (fun j => some (5 + 10 + 2 * j)) := (hf_51 _ (by omega)).trans hc_38
  have hc_55 : σ_49 (7 + 1) = q_an G 8 kd := (hf_51 _ (by omega)).trans hc_39
  have hc_56 : σ_49 (7 + 2) = q_an G 8 fi := (hf_51 _ (by omega)).trans hc_40
  have hc_57 : σ_49 (7 + 3) = q_an G 8 se := (hf_51 _ (by omega)).trans hc_41
  have hc_58 : σ_49 (7 + 4) = q_an G 8 tf := (hf_51 _ (by omega)).trans hc_42
  have hc_59 : σ_49 (7 + 5) = q_an G 8 ts := (hf_51 _ (by omega)).trans hc_43
  have hc_60 : ∀ j9 : Nat, j9 < 4 → σ_49 (5 + 10 + 2 * j9) = o7 G (5 + 10 + 2 * j9) (lN (nm j9)) (lN (on j9)) (nI (sl j9)) (nI (mo j9)) (nI (nb j9)) := fun j9 hj0 => (hf_51 _ (by omega)).trans (hc_44 j9 (by omega))
  have hc_61 : ∀ j9 : Nat, j9 < 4 → σ_49 (5 + 10 + 2 * j9 + 1) = q_an G 5 (bm j9) := fun j9 hj0 => (hf_51 _ (by omega)).trans (hc_45 j9 (by omega))
  have hc_62 : σ_49 5 = o0 G (5) (nI (0)) (nI (0)) (nI (0)) (nI (1)) (nI (0)) := (hf_51 _ (by omega)).trans hc_46
  have hc_63 : σ_49 (5 + 2) = o6 G (5 + 2) (nI (0)) (nI (0)) := (hf_51 _ (by omega)).trans hc_47
  have hc_64 : σ_49 (5 + 8) = q_an G 10 (fun _ => 0) := (hf_51 _ (by omega)).trans hc_48
  refine A_aload_n hg dX3_read_22 rfl rfl ?_
  refine A_getf (v := .ref (q_h G + 3)) hg fl_RX3_12 dX3_read_23 hc_50 (by omega) rfl ?_
  refine A_aload_n hg dX3_read_26 rfl rfl ?_
  refine A_iload_n hg dX3_read_27 rfl rfl ?_
  refine A_vV (kc2 := 0) (ks2 := 0) (As := [.ref (q_h G + 1), .int (nI (m))]) (rest := []) hg lk_RX3_39 in_X9_begin se_X9_begin rfl dX3_read_28 ⟨by decide, by decide⟩ rfl rfl ⟨by decide, by decide⟩ hc_52 (by omega) rfl rfl (Nat.le_of_ble_eq_true rfl) (c_X9_begin G ex n σ_49 f m ti ln kd0 st0 be0 nu0 hc_52 hc_53 (by omega) hm6 hbb) ?_
  rintro σ_67 ⟨t0, nu1, ht0, hnu0, hc_65, hf_66⟩
  have hc_68 : σ_67 1 = q_an G 600 f := (hf_66 _ (by omega)).trans hc_53
  have hc_69 : σ_67 6 = q_rn G 3 4 (fun j => some (5 + 10 + 2 * j)) := (hf_66 _ (by omega)).trans hc_54
  have hc_70 : σ_67 (7 + 1) = q_an G 8 kd := (hf_66 _ (by omega)).trans hc_55
  have hc_71 : σ_67 (7 + 2) = q_an G 8 fi := (hf_66 _ (by omega)).trans hc_56
  have hc_72 : σ_67 (7 + 3) = q_an G 8 se := (hf_66 _ (by omega)).trans hc_57
  have hc_73 : σ_67 (7 + 4) = q_an G 8 tf := (hf_66 _ (by omega)).trans hc_58
  have hc_74 : σ_67 (7 + 5) = q_an G 8 ts := (hf_66 _ (by omega)).trans hc_59
  have hc_75 : ∀ j9 : Nat, j9 < 4 → σ_67 (5 + 10 + 2 * j9) = o7 G (5 + 10 + 2 * j9) (lN (nm j9)) (lN (on j9)) (nI (sl j9)) (nI (mo j9)) (nI (nb j9)) := fun j9 hj0 => (hf_66 _ (by omega)).trans (hc_60 j9 (by omega))
  have hc_76 : ∀ j9 : Nat, j9 < 4 → σ_67 (5 + 10 + 2 * j9 + 1) = q_an G 5 (bm j9) := fun j9 hj0 => (hf_66 _ (by omega)).trans (hc_61 j9 (by omega))
  have hc_77 : σ_67 5 = o0 G (5) (nI (0)) (nI (0)) (nI (0)) (nI (1)) (nI (0)) := (hf_66 _ (by omega)).trans hc_62
  have hc_78 : σ_67 (5 + 2) = o6 G (5 + 2) (nI (0)) (nI (0)) := (hf_66 _ (by omega)).trans hc_63
  have hc_79 : σ_67 (5 + 8) = q_an G 10 (fun _ => 0) := (hf_66 _ (by omega)).trans hc_64
  have hc_80 : σ_67 2 = o3 G (2) (nI (0)) (nI (0)) (q_d (0)) := (hf_66 _ (by omega)).trans hc_50
  refine A_iconst (v := (nI (1))) hg dX3_read_31 (by decide) ?_
  refine A_istore_n hg dX3_read_32 rfl (by decide) (q_c1d rfl) ?_
  refine A_eq (ls2 := [some (.ref (q_h G + 2)), some (.ref (q_h G + 1)), some (.int (nI (m))), some (.int (nI (1))), none]) (st2 := []) (pc2 := 0) rfl rfl ?_
  refine A_iconst (v := (nI (0))) hg dX3_read_33 (by decide) ?_
  refine A_istore hg dX3_read_34 (by decide) (q_c1d rfl) ?_
  refine A_eq (ls2 := [some (.ref (q_h G + 2)), some (.ref (q_h G + 1)), some (.int (nI (m))), some (.int (nI (1))), some (.int (nI (0)))]) (st2 := []) (pc2 := 0) rfl rfl ?_
  have hL36 : ∀ (fu : Nat) (i : Nat) (g1 : Nat → Nat) (t1 : Nat) (nu1 : Int32) (ft1 : Nat) (nm1 : Nat → Nat) (on1 : Nat → Nat) (sl1 : Nat → Nat) (mo1 : Nat → Nat) (nb1 : Nat → Nat) (bm1 : Nat → Nat → Nat) (kd1 : Nat → Nat) (fi1 : Nat → Nat) (se1 : Nat → Nat) (tf1 : Nat → Nat) (ts1 : Nat → Nat) (σ_81 : Nat → va_E), (σ_81 1 = q_an G 600 f) → (σ_81 6 = q_rn G 3 4 (fun j => some (5 + 10 + 2 * j))) → (σ_81 (7 + 1) = q_an G 8 kd1) → (σ_81 (7 + 2) = q_an G 8 fi1) → (σ_81 (7 + 3) = q_an G 8 se1) → (σ_81 (7 + 4) = q_an G 8 tf1) → (σ_81 (7 + 5) = q_an G 8 ts1) → (∀ j9 : Nat, j9 < 4 → σ_81 (5 + 10 + 2 * j9) = o7 G (5 + 10 + 2 * j9) (lN (nm1 j9)) (lN (on1 j9)) (nI (sl1 j9)) (nI (mo1 j9)) (nI (nb1 j9))) → (∀ j9 : Nat, j9 < 4 → σ_81 (5 + 10 + 2 * j9 + 1) = q_an G 5 (bm1 j9)) → (σ_81 5 = o0 G (5) (nI (g1 0)) (nI (g1 3)) (nI (0)) (nI (1)) (nI (0))) → (σ_81 (5 + 2) = o6 G (7) (nI (g1 1)) (nI (g1 2))) → (σ_81 (5 + 8) = q_an G 10 (fun _ => 0)) → (σ_81 2 = o3 G (2) (nI (ft1)) (nI (0)) (q_d (0))) → (σ_81 3 = o9 G (1) (nI (m)) (nI (x_kd f m t1)) (nI (t1)) (nI (tk_be f m t1)) (nu1)) → (∀ i : Nat, i < 2 ∨ i = 4 ∨ i = 6 ∨ i = 14 ∨ 22 < i → σ_81 i = σ i) → (i ≤ t1) → (t1 ≤ m) → (ft1 ≤ 1) → (rd_all f m = rd_t f m (m + 1 - i) ft1 g1 t1) → (rd_inv g1) → (rd_k g1) → (x_rl g1 (g1 0) nm1 on1 sl1 mo1 nb1 bm1) → (x_p g1 kd1 fi1 se1) → (x_tp g1 tf1 ts1) → (tk_kd f m t1 = 2 → nu1 = nI (tk_vl f m t1)) → (m + 1 - i) < fu → AJ G K Q 0 0 ex n 36 [some (.ref (q_h G + 2)), some (.ref (q_h G + 1)), some (.int (nI (m))), some (.int (nI (1))), some (.int (nI (i)))] [] σ_81 := by
    intro fu
    induction fu with
    | zero => intro i g1 t1 nu1 ft1 nm1 on1 sl1 mo1 nb1 bm1 kd1 fi1 se1 tf1 ts1 σ_81 hc_82 hc_83 hc_84 hc_85 hc_86 hc_87 hc_88 hc_89 hc_90 hc_91 hc_92 hc_93 hc_94 hc_95 hf_96 hi htm1 hft hRL hinv1 hk1 hrl1 hxp1 htp1 hnu1 hm; exact absurd hm (Nat.not_lt_zero _)
    | succ fu ih36 =>
      intro i g1 t1 nu1 ft1 nm1 on1 sl1 mo1 nb1 bm1 kd1 fi1 se1 tf1 ts1 σ_81 hc_82 hc_83 hc_84 hc_85 hc_86 hc_87 hc_88 hc_89 hc_90 hc_91 hc_92 hc_93 hc_94 hc_95 hf_96 hi htm1 hft hRL hinv1 hk1 hrl1 hxp1 htp1 hnu1 hm36
      refine A_iload hg dX3_read_36 rfl ?_
      refine A_iload_n hg dX3_read_38 rfl rfl ?_
      refine A_icmp_geN (tgt := 165) hg dX3_read_39 (by omega) (by omega) (by decide) (fun c39 => ?_) (fun c39 => ?_)
      · skip
        have hk0 : tk_kd f m t1 = 0 := by first | exact x_kd_0.mp c53 | exact (tk_k0 (tk_b2 (show m ≤ t1 by omega))).1
        refine A_iload_n hg dX3_read_165 rfl rfl ?_
        refine A_if_eqN (tgt := 185) hg dX3_read_166 (by decide) (by decide) (fun c166 => absurd c166 (by decide)) (fun c166 => ?_)
        refine A_aload_n hg dX3_read_169 rfl rfl ?_
        refine A_getf (v := .ref (q_h G + 5)) hg fl_RX3_21 dX3_read_170 hc_94 (by omega) rfl ?_
        refine A_getf (v := .int (nI (g1 0))) hg fl_RX3_78 dX3_read_173 hc_91 (by omega) rfl ?_
        refine A_if_neN (tgt := 185) hg dX3_read_176 (by have := hinv1.1.1; omega) (by decide) (fun c176 => ?_) (fun c176 => ?_)
        · skip
          refine A_aload_n hg dX3_read_185 rfl rfl ?_
          refine A_getf (v := .int (nI (0))) hg fl_RX3_29 dX3_read_186 hc_94 (by omega) rfl ?_
          rw [hQ]
          exact A_ireturn hg (by decide) (by decide) rfl dX3_read_189 ⟨rfl, Or.inr ((⟨g1, t1, ft1, (nI (x_kd f m t1)), (nI (t1)), (nI (tk_be f m t1)), (nu1), nm1, on1, sl1, mo1, nb1, bm1, kd1, fi1, se1, tf1, ts1, rfl, (hRL.trans (rd_t_ok (by omega) hk0 (by omega))), hinv1, hk1, hrl1, hxp1, htp1, hc_94, hc_95, hc_91, hc_89, hc_90, hc_92, hc_84, hc_85, hc_86, hc_87, hc_88, hc_93, (fun i hi => (hf_96 i (by omega)))⟩))⟩
        · skip
          refine A_aload_n hg dX3_read_179 rfl rfl ?_
          refine A_iconst (v := (nI (1))) hg dX3_read_180 (by decide) ?_
          refine A_hV (kc2 := 0) (ks2 := 0) (As := [.int (nI (1))]) (rest := []) hg lk_RX3_71 in_X3_fail se_X3_fail rfl dX3_read_181 ⟨by decide, by decide⟩ rfl rfl ⟨by decide, by decide⟩ hc_94 (by omega) rfl rfl (Nat.le_of_ble_eq_true rfl) (c_X3_fail G ex n σ_81 m t1 (nI (x_kd f m t1)) (nI (tk_be f m t1)) nu1 ft1 (nI (0)) (q_d (0)) 1 hc_94 hc_95 (by omega)) ?_
          rintro _ σ_99 ⟨rfl, hc_97, hf_98⟩
          refine (?_ : AJ G K Q 0 0 ex n 184 [some (.ref (q_h G + 2)), some (.ref (q_h G + 1)), some (.int (nI (m))), some (.int (nI (1))), some (.int (nI (i)))] [.int (nI (0))] σ_99)
          have hc_100 : σ_99 1 = q_an G 600 f := (hf_98 _ (by omega)).trans hc_82
          have hc_101 : σ_99 6 = q_rn G 3 4 (fun j => some (5 + 10 + 2 * j)) := (hf_98 _ (by omega)).trans hc_83
          have hc_102 : σ_99 (7 + 1) = q_an G 8 kd1 := (hf_98 _ (by omega)).trans hc_84
          have hc_103 : σ_99 (7 + 2) = q_an G 8 fi1 := (hf_98 _ (by omega)).trans hc_85
          have hc_104 : σ_99 (7 + 3) = q_an G 8 se1 := (hf_98 _ (by omega)).trans hc_86
          have hc_105 : σ_99 (7 + 4) = q_an G 8 tf1 := (hf_98 _ (by omega)).trans hc_87
          have hc_106 : σ_99 (7 + 5) = q_an G 8 ts1 := (hf_98 _ (by omega)).trans hc_88
          have hc_107 : ∀ j9 : Nat, j9 < 4 → σ_99 (5 + 10 + 2 * j9) = o7 G (5 + 10 + 2 * j9) (lN (nm1 j9)) (lN (on1 j9)) (nI (sl1 j9)) (nI (mo1 j9)) (nI (nb1 j9)) := fun j9 hj0 => (hf_98 _ (by omega)).trans (hc_89 j9 (by omega))
          have hc_108 : ∀ j9 : Nat, j9 < 4 → σ_99 (5 + 10 + 2 * j9 + 1) = q_an G 5 (bm1 j9) := fun j9 hj0 => (hf_98 _ (by omega)).trans (hc_90 j9 (by omega))
          have hc_109 : σ_99 5 = o0 G (5) (nI (g1 0)) (nI (g1 3)) (nI (0)) (nI (1)) (nI (0)) := (hf_98 _ (by omega)).trans hc_91
          have hc_110 : σ_99 (5 + 2) = o6 G (7) (nI (g1 1)) (nI (g1 2)) := (hf_98 _ (by omega)).trans hc_92
          have hc_111 : σ_99 (5 + 8) = q_an G 10 (fun _ => 0) := (hf_98 _ (by omega)).trans hc_93
          have hc_112 : σ_99 3 = o9 G (1) (nI (m)) (nI (x_kd f m t1)) (nI (t1)) (nI (tk_be f m t1)) (nu1) := (hf_98 _ (by omega)).trans hc_95
          refine A_pop hg dX3_read_184 rfl ?_
          refine A_aload_n hg dX3_read_185 rfl rfl ?_
          refine A_getf (v := .int (nI (1))) hg fl_RX3_29 dX3_read_186 hc_97 (by omega) rfl ?_
          rw [hQ]
          exact A_ireturn hg (by decide) (by decide) rfl dX3_read_189 ⟨rfl, Or.inl (⟨1, t1, ft1, (nI (x_kd f m t1)), (nI (t1)), (nI (tk_be f m t1)), (nu1), (g1 0), (g1 3), nm1, on1, sl1, mo1, nb1, bm1, (g1 1), (g1 2), kd1, fi1, se1, tf1, ts1, rfl, (hRL.trans (rd_t_no (by omega) hk0 c176)), (by first | assumption | decide), hc_97, hc_112, hc_109, hc_107, hc_108, hc_110, hc_102, hc_103, hc_104, hc_105, hc_106, hc_111, (fun i hi => ((hf_98 i (by omega)).trans (hf_96 i (by omega))))⟩)⟩
      · skip
        refine A_iload_n hg dX3_read_42 rfl rfl ?_
        refine A_if_eqN (tgt := 165) hg dX3_read_43 (by decide) (by decide) (fun c43 => absurd c43 (by decide)) (fun c43 => ?_)
        refine A_aload_n hg dX3_read_46 rfl rfl ?_
        refine A_getf (v := .ref (q_h G + 3)) hg fl_RX3_12 dX3_read_47 hc_94 (by omega) rfl ?_
        refine A_getf (v := .int (nI (x_kd f m t1))) hg fl_RX3_43 dX3_read_50 hc_95 (by omega) rfl ?_
        refine A_if_eqN (tgt := 165) hg dX3_read_53 (by have := x_kd_lt f m t1; omega) (by decide) (fun c53 => ?_) (fun c53 => ?_)
        · skip
          have hk0 : tk_kd f m t1 = 0 := by first | exact x_kd_0.mp c53 | exact (tk_k0 (tk_b2 (show m ≤ t1 by omega))).1
          refine A_iload_n hg dX3_read_165 rfl rfl ?_
          refine A_if_eqN (tgt := 185) hg dX3_read_166 (by decide) (by decide) (fun c166 => absurd c166 (by decide)) (fun c166 => ?_)
          refine A_aload_n hg dX3_read_169 rfl rfl ?_
          refine A_getf (v := .ref (q_h G + 5)) hg fl_RX3_21 dX3_read_170 hc_94 (by omega) rfl ?_
          refine A_getf (v := .int (nI (g1 0))) hg fl_RX3_78 dX3_read_173 hc_91 (by omega) rfl ?_
          refine A_if_neN (tgt := 185) hg dX3_read_176 (by have := hinv1.1.1; omega) (by decide) (fun c176 => ?_) (fun c176 => ?_)
          · skip
            refine A_aload_n hg dX3_read_185 rfl rfl ?_
            refine A_getf (v := .int (nI (0))) hg fl_RX3_29 dX3_read_186 hc_94 (by omega) rfl ?_
            rw [hQ]
            exact A_ireturn hg (by decide) (by decide) rfl dX3_read_189 ⟨rfl, Or.inr ((⟨g1, t1, ft1, (nI (x_kd f m t1)), (nI (t1)), (nI (tk_be f m t1)), (nu1), nm1, on1, sl1, mo1, nb1, bm1, kd1, fi1, se1, tf1, ts1, rfl, (hRL.trans (rd_t_ok (by omega) hk0 (by omega))), hinv1, hk1, hrl1, hxp1, htp1, hc_94, hc_95, hc_91, hc_89, hc_90, hc_92, hc_84, hc_85, hc_86, hc_87, hc_88, hc_93, (fun i hi => (hf_96 i (by omega)))⟩))⟩
          · skip
            refine A_aload_n hg dX3_read_179 rfl rfl ?_
            refine A_iconst (v := (nI (1))) hg dX3_read_180 (by decide) ?_
            refine A_hV (kc2 := 0) (ks2 := 0) (As := [.int (nI (1))]) (rest := []) hg lk_RX3_71 in_X3_fail se_X3_fail rfl dX3_read_181 ⟨by decide, by decide⟩ rfl rfl ⟨by decide, by decide⟩ hc_94 (by omega) rfl rfl (Nat.le_of_ble_eq_true rfl) (c_X3_fail G ex n σ_81 m t1 (nI (x_kd f m t1)) (nI (tk_be f m t1)) nu1 ft1 (nI (0)) (q_d (0)) 1 hc_94 hc_95 (by omega)) ?_
            rintro _ σ_115 ⟨rfl, hc_113, hf_114⟩
            refine (?_ : AJ G K Q 0 0 ex n 184 [some (.ref (q_h G + 2)), some (.ref (q_h G + 1)), some (.int (nI (m))), some (.int (nI (1))), some (.int (nI (i)))] [.int (nI (0))] σ_115)
            have hc_116 : σ_115 1 = q_an G 600 f := (hf_114 _ (by omega)).trans hc_82
            have hc_117 : σ_115 6 = q_rn G 3 4 (fun j => some (5 + 10 + 2 * j)) := (hf_114 _ (by omega)).trans hc_83
            have hc_118 : σ_115 (7 + 1) = q_an G 8 kd1 := (hf_114 _ (by omega)).trans hc_84
            have hc_119 : σ_115 (7 + 2) = q_an G 8 fi1 := (hf_114 _ (by omega)).trans hc_85
            have hc_120 : σ_115 (7 + 3) = q_an G 8 se1 := (hf_114 _ (by omega)).trans hc_86
            have hc_121 : σ_115 (7 + 4) = q_an G 8 tf1 := (hf_114 _ (by omega)).trans hc_87
            have hc_122 : σ_115 (7 + 5) = q_an G 8 ts1 := (hf_114 _ (by omega)).trans hc_88
            have hc_123 : ∀ j9 : Nat, j9 < 4 → σ_115 (5 + 10 + 2 * j9) = o7 G (5 + 10 + 2 * j9) (lN (nm1 j9)) (lN (on1 j9)) (nI (sl1 j9)) (nI (mo1 j9)) (nI (nb1 j9)) := fun j9 hj0 => (hf_114 _ (by omega)).trans (hc_89 j9 (by omega))
            have hc_124 : ∀ j9 : Nat, j9 < 4 → σ_115 (5 + 10 + 2 * j9 + 1) = q_an G 5 (bm1 j9) := fun j9 hj0 => (hf_114 _ (by omega)).trans (hc_90 j9 (by omega))
            have hc_125 : σ_115 5 = o0 G (5) (nI (g1 0)) (nI (g1 3)) (nI (0)) (nI (1)) (nI (0)) := (hf_114 _ (by omega)).trans hc_91
            have hc_126 : σ_115 (5 + 2) = o6 G (7) (nI (g1 1)) (nI (g1 2)) := (hf_114 _ (by omega)).trans hc_92
            have hc_127 : σ_115 (5 + 8) = q_an G 10 (fun _ => 0) := (hf_114 _ (by omega)).trans hc_93
            have hc_128 : σ_115 3 = o9 G (1) (nI (m)) (nI (x_kd f m t1)) (nI (t1)) (nI (tk_be f m t1)) (nu1) := (hf_114 _ (by omega)).trans hc_95
            refine A_pop hg dX3_read_184 rfl ?_
            refine A_aload_n hg dX3_read_185 rfl rfl ?_
            refine A_getf (v := .int (nI (1))) hg fl_RX3_29 dX3_read_186 hc_113 (by omega) rfl ?_
            rw [hQ]
            exact A_ireturn hg (by decide) (by decide) rfl dX3_read_189 ⟨rfl, Or.inl (⟨1, t1, ft1, (nI (x_kd f m t1)), (nI (t1)), (nI (tk_be f m t1)), (nu1), (g1 0), (g1 3), nm1, on1, sl1, mo1, nb1, bm1, (g1 1), (g1 2), kd1, fi1, se1, tf1, ts1, rfl, (hRL.trans (rd_t_no (by omega) hk0 c176)), (by first | assumption | decide), hc_113, hc_128, hc_125, hc_123, hc_124, hc_126, hc_118, hc_119, hc_120, hc_121, hc_122, hc_127, (fun i hi => ((hf_114 i (by omega)).trans (hf_96 i (by omega))))⟩)⟩
        · skip
          have hkd : ¬ tk_kd f m t1 = 0 := fun z => c53 (x_kd_0.mpr z)
          have htlt := tk_kd_m hkd
          refine A_aload_n hg dX3_read_56 rfl rfl ?_
          refine A_getf (v := .ref (q_h G + 3)) hg fl_RX3_12 dX3_read_57 hc_94 (by omega) rfl ?_
          refine A_ldcS hg (sc_RX3_46 hg.2.2.2.2.2.2.1.1).1 dX3_read_60 ?_
          refine A_eV (kc2 := 0) (ks2 := 0) (As := [.ref (q_sa G RX3 46)]) (rest := []) hg lk_RX3_48 in_X9_isWord se_X9_isWord rfl dX3_read_62 ⟨by decide, by decide⟩ rfl rfl ⟨by decide, by decide⟩ hc_95 (by omega) rfl rfl (Nat.le_of_ble_eq_true rfl) (c_X9_isWord G ex n σ_81 f m t1 nu1 (q_sa G RX3 46) ([114, 117, 108, 101]) hc_95 hc_82 (by omega) hm6 hbb htm1 ((sc_RX3_46 hg.2.2.2.2.2.2.1.1).2)) ?_
          refine A_if_eqB (tgt := 76) hg dX3_read_65 (by decide) (fun c65 => ?_) (fun c65 => ?_)
          · skip
            refine A_aload_n hg dX3_read_76 rfl rfl ?_
            refine A_getf (v := .ref (q_h G + 3)) hg fl_RX3_12 dX3_read_77 hc_94 (by omega) rfl ?_
            refine A_ldcS hg (sc_RX3_56 hg.2.2.2.2.2.2.1.1).1 dX3_read_80 ?_
            refine A_eV (kc2 := 0) (ks2 := 0) (As := [.ref (q_sa G RX3 56)]) (rest := []) hg lk_RX3_48 in_X9_isWord se_X9_isWord rfl dX3_read_82 ⟨by decide, by decide⟩ rfl rfl ⟨by decide, by decide⟩ hc_95 (by omega) rfl rfl (Nat.le_of_ble_eq_true rfl) (c_X9_isWord G ex n σ_81 f m t1 nu1 (q_sa G RX3 56) ([98, 111, 97, 114, 100]) hc_95 hc_82 (by omega) hm6 hbb htm1 ((sc_RX3_56 hg.2.2.2.2.2.2.1.1).2)) ?_
            refine A_if_eqB (tgt := 96) hg dX3_read_85 (by decide) (fun c85 => ?_) (fun c85 => ?_)
            · skip
              refine A_aload_n hg dX3_read_96 rfl rfl ?_
              refine A_getf (v := .ref (q_h G + 3)) hg fl_RX3_12 dX3_read_97 hc_94 (by omega) rfl ?_
              refine A_ldcS hg (sc_RX3_61 hg.2.2.2.2.2.2.1.1).1 dX3_read_100 ?_
              refine A_eV (kc2 := 0) (ks2 := 0) (As := [.ref (q_sa G RX3 61)]) (rest := []) hg lk_RX3_48 in_X9_isWord se_X9_isWord rfl dX3_read_102 ⟨by decide, by decide⟩ rfl rfl ⟨by decide, by decide⟩ hc_95 (by omega) rfl rfl (Nat.le_of_ble_eq_true rfl) (c_X9_isWord G ex n σ_81 f m t1 nu1 (q_sa G RX3 61) ([115, 116, 105, 99, 107]) hc_95 hc_82 (by omega) hm6 hbb htm1 ((sc_RX3_61 hg.2.2.2.2.2.2.1.1).2)) ?_
              refine A_if_eqB (tgt := 116) hg dX3_read_105 (by decide) (fun c105 => ?_) (fun c105 => ?_)
              · skip
                refine A_aload_n hg dX3_read_116 rfl rfl ?_
                refine A_getf (v := .ref (q_h G + 3)) hg fl_RX3_12 dX3_read_117 hc_94 (by omega) rfl ?_
                refine A_ldcS hg (sc_RX3_66 hg.2.2.2.2.2.2.1.1).1 dX3_read_120 ?_
                refine A_eV (kc2 := 0) (ks2 := 0) (As := [.ref (q_sa G RX3 66)]) (rest := []) hg lk_RX3_48 in_X9_isWord se_X9_isWord rfl dX3_read_122 ⟨by decide, by decide⟩ rfl rfl ⟨by decide, by decide⟩ hc_95 (by omega) rfl rfl (Nat.le_of_ble_eq_true rfl) (c_X9_isWord G ex n σ_81 f m t1 nu1 (q_sa G RX3 66) ([102, 105, 114, 115, 116]) hc_95 hc_82 (by omega) hm6 hbb htm1 ((sc_RX3_66 hg.2.2.2.2.2.2.1.1).2)) ?_
                refine A_if_eqB (tgt := 136) hg dX3_read_125 (by decide) (fun c125 => ?_) (fun c125 => ?_)
                · skip
                  refine A_aload_n hg dX3_read_136 rfl rfl ?_
                  refine A_iconst (v := (nI (1))) hg dX3_read_137 (by decide) ?_
                  refine A_hV (kc2 := 0) (ks2 := 0) (As := [.int (nI (1))]) (rest := []) hg lk_RX3_71 in_X3_fail se_X3_fail rfl dX3_read_138 ⟨by decide, by decide⟩ rfl rfl ⟨by decide, by decide⟩ hc_94 (by omega) rfl rfl (Nat.le_of_ble_eq_true rfl) (c_X3_fail G ex n σ_81 m t1 (nI (x_kd f m t1)) (nI (tk_be f m t1)) nu1 ft1 (nI (0)) (q_d (0)) 1 hc_94 hc_95 (by omega)) ?_
                  rintro _ σ_131 ⟨rfl, hc_129, hf_130⟩
                  refine (?_ : AJ G K Q 0 0 ex n 141 [some (.ref (q_h G + 2)), some (.ref (q_h G + 1)), some (.int (nI (m))), some (.int (nI (1))), some (.int (nI (i)))] [.int (nI (0))] σ_131)
                  have hc_132 : σ_131 1 = q_an G 600 f := (hf_130 _ (by omega)).trans hc_82
                  have hc_133 : σ_131 6 = q_rn G 3 4 (fun j => some (5 + 10 + 2 * j)) := (hf_130 _ (by omega)).trans hc_83
                  have hc_134 : σ_131 (7 + 1) = q_an G 8 kd1 := (hf_130 _ (by omega)).trans hc_84
                  have hc_135 : σ_131 (7 + 2) = q_an G 8 fi1 := (hf_130 _ (by omega)).trans hc_85
                  have hc_136 : σ_131 (7 + 3) = q_an G 8 se1 := (hf_130 _ (by omega)).trans hc_86
                  have hc_137 : σ_131 (7 + 4) = q_an G 8 tf1 := (hf_130 _ (by omega)).trans hc_87
                  have hc_138 : σ_131 (7 + 5) = q_an G 8 ts1 := (hf_130 _ (by omega)).trans hc_88
                  have hc_139 : ∀ j9 : Nat, j9 < 4 → σ_131 (5 + 10 + 2 * j9) = o7 G (5 + 10 + 2 * j9) (lN (nm1 j9)) (lN (on1 j9)) (nI (sl1 j9)) (nI (mo1 j9)) (nI (nb1 j9)) := fun j9 hj0 => (hf_130 _ (by omega)).trans (hc_89 j9 (by omega))
                  have hc_140 : ∀ j9 : Nat, j9 < 4 → σ_131 (5 + 10 + 2 * j9 + 1) = q_an G 5 (bm1 j9) := fun j9 hj0 => (hf_130 _ (by omega)).trans (hc_90 j9 (by omega))
                  have hc_141 : σ_131 5 = o0 G (5) (nI (g1 0)) (nI (g1 3)) (nI (0)) (nI (1)) (nI (0)) := (hf_130 _ (by omega)).trans hc_91
                  have hc_142 : σ_131 (5 + 2) = o6 G (7) (nI (g1 1)) (nI (g1 2)) := (hf_130 _ (by omega)).trans hc_92
                  have hc_143 : σ_131 (5 + 8) = q_an G 10 (fun _ => 0) := (hf_130 _ (by omega)).trans hc_93
                  have hc_144 : σ_131 3 = o9 G (1) (nI (m)) (nI (x_kd f m t1)) (nI (t1)) (nI (tk_be f m t1)) (nu1) := (hf_130 _ (by omega)).trans hc_95
                  refine A_istore_n hg dX3_read_141 rfl (by decide) (q_c1d rfl) ?_
                  refine A_eq (ls2 := [some (.ref (q_h G + 2)), some (.ref (q_h G + 1)), some (.int (nI (m))), some (.int (nI (0))), some (.int (nI (i)))]) (st2 := []) (pc2 := 0) rfl rfl ?_
                  refine A_iload_n hg dX3_read_142 rfl rfl ?_
                  refine A_if_eqN (tgt := 157) hg dX3_read_143 (by decide) (by decide) (fun c143 => ?_) (fun c143 => absurd (by decide) c143)
                  refine A_iconst (v := (nI (0))) hg dX3_read_157 (by decide) ?_
                  refine A_istore_n hg dX3_read_158 rfl (by decide) (q_c1d rfl) ?_
                  refine A_eq (ls2 := [some (.ref (q_h G + 2)), some (.ref (q_h G + 1)), some (.int (nI (m))), some (.int (nI (0))), some (.int (nI (i)))]) (st2 := []) (pc2 := 0) rfl rfl ?_
                  refine A_iincN (k' := 1) hg dX3_read_159 (by decide) rfl (by decide) (q_c1d rfl) ?_
                  refine A_eq (ls2 := [some (.ref (q_h G + 2)), some (.ref (q_h G + 1)), some (.int (nI (m))), some (.int (nI (0))), some (.int (nI (i + 1)))]) (st2 := []) (pc2 := 0) rfl rfl ?_
                  refine A_goto (tgt := 36) hg dX3_read_162 (by decide) ?_
                  refine A_iload hg dX3_read_36 rfl ?_
                  refine A_iload_n hg dX3_read_38 rfl rfl ?_
                  refine A_icmp_geN (tgt := 165) hg dX3_read_39 (by omega) (by omega) (by decide) (fun c39 => ?_) (fun c39 => ?_)
                  · skip
                    refine A_iload_n hg dX3_read_165 rfl rfl ?_
                    refine A_if_eqN (tgt := 185) hg dX3_read_166 (by decide) (by decide) (fun c166 => ?_) (fun c166 => absurd (by decide) c166)
                    refine A_aload_n hg dX3_read_185 rfl rfl ?_
                    refine A_getf (v := .int (nI (1))) hg fl_RX3_29 dX3_read_186 hc_129 (by omega) rfl ?_
                    rw [hQ]
                    exact A_ireturn hg (by decide) (by decide) rfl dX3_read_189 ⟨rfl, Or.inl (⟨1, t1, ft1, (nI (x_kd f m t1)), (nI (t1)), (nI (tk_be f m t1)), (nu1), (g1 0), (g1 3), nm1, on1, sl1, mo1, nb1, bm1, (g1 1), (g1 2), kd1, fi1, se1, tf1, ts1, rfl, (hRL.trans (rd_t_fu (by omega) (rd_t_e hkd (rd_m_1 c65 c85 c105 c125)))), (by first | assumption | decide), hc_129, hc_144, hc_141, hc_139, hc_140, hc_142, hc_134, hc_135, hc_136, hc_137, hc_138, hc_143, (fun i hi => ((hf_130 i (by omega)).trans (hf_96 i (by omega))))⟩)⟩
                  · skip
                    refine A_iload_n hg dX3_read_42 rfl rfl ?_
                    refine A_if_eqN (tgt := 165) hg dX3_read_43 (by decide) (by decide) (fun c43 => ?_) (fun c43 => absurd (by decide) c43)
                    refine A_iload_n hg dX3_read_165 rfl rfl ?_
                    refine A_if_eqN (tgt := 185) hg dX3_read_166 (by decide) (by decide) (fun c166 => ?_) (fun c166 => absurd (by decide) c166)
                    refine A_aload_n hg dX3_read_185 rfl rfl ?_
                    refine A_getf (v := .int (nI (1))) hg fl_RX3_29 dX3_read_186 hc_129 (by omega) rfl ?_
                    rw [hQ]
                    exact A_ireturn hg (by decide) (by decide) rfl dX3_read_189 ⟨rfl, Or.inl (⟨1, t1, ft1, (nI (x_kd f m t1)), (nI (t1)), (nI (tk_be f m t1)), (nu1), (g1 0), (g1 3), nm1, on1, sl1, mo1, nb1, bm1, (g1 1), (g1 2), kd1, fi1, se1, tf1, ts1, rfl, (hRL.trans (rd_t_fu (by omega) (rd_t_e hkd (rd_m_1 c65 c85 c105 c125)))), (by first | assumption | decide), hc_129, hc_144, hc_141, hc_139, hc_140, hc_142, hc_134, hc_135, hc_136, hc_137, hc_138, hc_143, (fun i hi => ((hf_130 i (by omega)).trans (hf_96 i (by omega))))⟩)⟩
                · skip
                  refine A_aload_n hg dX3_read_128 rfl rfl ?_
                  refine A_hV (kc2 := 0) (ks2 := 0) (As := []) (rest := []) hg lk_RX3_68 in_X3_readFirst se_X3_readFirst rfl dX3_read_129 ⟨by decide, by decide⟩ rfl rfl ⟨by decide, by decide⟩ hc_94 (by omega) rfl rfl (Nat.le_of_ble_eq_true rfl) (c_X3_readFirst G ex n σ_81 f m t1 nu1 ft1 g1 (g1 3) 0 1 0 hc_94 hc_95 hc_82 hc_91 (by omega) hm6 hbb htm1 hnu1 hft) ?_
                  rintro _ σ_159 (⟨c_145, t2, kd2_146, st2_147, be2_148, nu2, pl2_149, ft2_150, rfl, hR2, hc02, hc_151, hc_152, hc_153, hf_154⟩ | ⟨g2, t2, nu2, rfl, hR2, hgv3, htm2, hnu2, hc_155, hc_156, hc_157, hf_158⟩)
                  · skip
                    refine (?_ : AJ G K Q 0 0 ex n 132 [some (.ref (q_h G + 2)), some (.ref (q_h G + 1)), some (.int (nI (m))), some (.int (nI (1))), some (.int (nI (i)))] [.int (nI (0))] σ_159)
                    have hc_160 : σ_159 1 = q_an G 600 f := (hf_154 _ (by omega)).trans hc_82
                    have hc_161 : σ_159 6 = q_rn G 3 4 (fun j => some (5 + 10 + 2 * j)) := (hf_154 _ (by omega)).trans hc_83
                    have hc_162 : σ_159 (7 + 1) = q_an G 8 kd1 := (hf_154 _ (by omega)).trans hc_84
                    have hc_163 : σ_159 (7 + 2) = q_an G 8 fi1 := (hf_154 _ (by omega)).trans hc_85
                    have hc_164 : σ_159 (7 + 3) = q_an G 8 se1 := (hf_154 _ (by omega)).trans hc_86
                    have hc_165 : σ_159 (7 + 4) = q_an G 8 tf1 := (hf_154 _ (by omega)).trans hc_87
                    have hc_166 : σ_159 (7 + 5) = q_an G 8 ts1 := (hf_154 _ (by omega)).trans hc_88
                    have hc_167 : ∀ j9 : Nat, j9 < 4 → σ_159 (5 + 10 + 2 * j9) = o7 G (5 + 10 + 2 * j9) (lN (nm1 j9)) (lN (on1 j9)) (nI (sl1 j9)) (nI (mo1 j9)) (nI (nb1 j9)) := fun j9 hj0 => (hf_154 _ (by omega)).trans (hc_89 j9 (by omega))
                    have hc_168 : ∀ j9 : Nat, j9 < 4 → σ_159 (5 + 10 + 2 * j9 + 1) = q_an G 5 (bm1 j9) := fun j9 hj0 => (hf_154 _ (by omega)).trans (hc_90 j9 (by omega))
                    have hc_169 : σ_159 (5 + 2) = o6 G (7) (nI (g1 1)) (nI (g1 2)) := (hf_154 _ (by omega)).trans hc_92
                    have hc_170 : σ_159 (5 + 8) = q_an G 10 (fun _ => 0) := (hf_154 _ (by omega)).trans hc_93
                    refine A_istore_n hg dX3_read_132 rfl (by decide) (q_c1d rfl) ?_
                    refine A_eq (ls2 := [some (.ref (q_h G + 2)), some (.ref (q_h G + 1)), some (.int (nI (m))), some (.int (nI (0))), some (.int (nI (i)))]) (st2 := []) (pc2 := 0) rfl rfl ?_
                    refine A_goto (tgt := 142) hg dX3_read_133 (by decide) ?_
                    refine A_iload_n hg dX3_read_142 rfl rfl ?_
                    refine A_if_eqN (tgt := 157) hg dX3_read_143 (by decide) (by decide) (fun c143 => ?_) (fun c143 => absurd (by decide) c143)
                    refine A_iconst (v := (nI (0))) hg dX3_read_157 (by decide) ?_
                    refine A_istore_n hg dX3_read_158 rfl (by decide) (q_c1d rfl) ?_
                    refine A_eq (ls2 := [some (.ref (q_h G + 2)), some (.ref (q_h G + 1)), some (.int (nI (m))), some (.int (nI (0))), some (.int (nI (i)))]) (st2 := []) (pc2 := 0) rfl rfl ?_
                    refine A_iincN (k' := 1) hg dX3_read_159 (by decide) rfl (by decide) (q_c1d rfl) ?_
                    refine A_eq (ls2 := [some (.ref (q_h G + 2)), some (.ref (q_h G + 1)), some (.int (nI (m))), some (.int (nI (0))), some (.int (nI (i + 1)))]) (st2 := []) (pc2 := 0) rfl rfl ?_
                    refine A_goto (tgt := 36) hg dX3_read_162 (by decide) ?_
                    refine A_iload hg dX3_read_36 rfl ?_
                    refine A_iload_n hg dX3_read_38 rfl rfl ?_
                    refine A_icmp_geN (tgt := 165) hg dX3_read_39 (by omega) (by omega) (by decide) (fun c39 => ?_) (fun c39 => ?_)
                    · skip
                      refine A_iload_n hg dX3_read_165 rfl rfl ?_
                      refine A_if_eqN (tgt := 185) hg dX3_read_166 (by decide) (by decide) (fun c166 => ?_) (fun c166 => absurd (by decide) c166)
                      refine A_aload_n hg dX3_read_185 rfl rfl ?_
                      refine A_getf (v := .int (nI (c_145))) hg fl_RX3_29 dX3_read_186 hc_151 (by omega) rfl ?_
                      rw [hQ]
                      exact A_ireturn hg (by decide) (by decide) rfl dX3_read_189 ⟨rfl, Or.inl (⟨c_145, t2, ft2_150, (kd2_146), (st2_147), (be2_148), (nu2), (g1 0), (pl2_149), nm1, on1, sl1, mo1, nb1, bm1, (g1 1), (g1 2), kd1, fi1, se1, tf1, ts1, rfl, (hRL.trans (rd_t_fu (by omega) (rd_t_e hkd ((rd_m_f c65 c85 c105 c125).trans hR2)))), (by first | assumption | decide), hc_151, hc_152, hc_153, hc_167, hc_168, hc_169, hc_162, hc_163, hc_164, hc_165, hc_166, hc_170, (fun i hi => ((hf_154 i (by omega)).trans (hf_96 i (by omega))))⟩)⟩
                    · skip
                      refine A_iload_n hg dX3_read_42 rfl rfl ?_
                      refine A_if_eqN (tgt := 165) hg dX3_read_43 (by decide) (by decide) (fun c43 => ?_) (fun c43 => absurd (by decide) c43)
                      refine A_iload_n hg dX3_read_165 rfl rfl ?_
                      refine A_if_eqN (tgt := 185) hg dX3_read_166 (by decide) (by decide) (fun c166 => ?_) (fun c166 => absurd (by decide) c166)
                      refine A_aload_n hg dX3_read_185 rfl rfl ?_
                      refine A_getf (v := .int (nI (c_145))) hg fl_RX3_29 dX3_read_186 hc_151 (by omega) rfl ?_
                      rw [hQ]
                      exact A_ireturn hg (by decide) (by decide) rfl dX3_read_189 ⟨rfl, Or.inl (⟨c_145, t2, ft2_150, (kd2_146), (st2_147), (be2_148), (nu2), (g1 0), (pl2_149), nm1, on1, sl1, mo1, nb1, bm1, (g1 1), (g1 2), kd1, fi1, se1, tf1, ts1, rfl, (hRL.trans (rd_t_fu (by omega) (rd_t_e hkd ((rd_m_f c65 c85 c105 c125).trans hR2)))), (by first | assumption | decide), hc_151, hc_152, hc_153, hc_167, hc_168, hc_169, hc_162, hc_163, hc_164, hc_165, hc_166, hc_170, (fun i hi => ((hf_154 i (by omega)).trans (hf_96 i (by omega))))⟩)⟩
                  · skip
                    refine (?_ : AJ G K Q 0 0 ex n 132 [some (.ref (q_h G + 2)), some (.ref (q_h G + 1)), some (.int (nI (m))), some (.int (nI (1))), some (.int (nI (i)))] [.int (nI (1))] σ_159)
                    have hc_171 : σ_159 1 = q_an G 600 f := (hf_158 _ (by omega)).trans hc_82
                    have hc_172 : σ_159 6 = q_rn G 3 4 (fun j => some (5 + 10 + 2 * j)) := (hf_158 _ (by omega)).trans hc_83
                    have hc_173 : σ_159 (7 + 1) = q_an G 8 kd1 := (hf_158 _ (by omega)).trans hc_84
                    have hc_174 : σ_159 (7 + 2) = q_an G 8 fi1 := (hf_158 _ (by omega)).trans hc_85
                    have hc_175 : σ_159 (7 + 3) = q_an G 8 se1 := (hf_158 _ (by omega)).trans hc_86
                    have hc_176 : σ_159 (7 + 4) = q_an G 8 tf1 := (hf_158 _ (by omega)).trans hc_87
                    have hc_177 : σ_159 (7 + 5) = q_an G 8 ts1 := (hf_158 _ (by omega)).trans hc_88
                    have hc_178 : ∀ j9 : Nat, j9 < 4 → σ_159 (5 + 10 + 2 * j9) = o7 G (5 + 10 + 2 * j9) (lN (nm1 j9)) (lN (on1 j9)) (nI (sl1 j9)) (nI (mo1 j9)) (nI (nb1 j9)) := fun j9 hj0 => (hf_158 _ (by omega)).trans (hc_89 j9 (by omega))
                    have hc_179 : ∀ j9 : Nat, j9 < 4 → σ_159 (5 + 10 + 2 * j9 + 1) = q_an G 5 (bm1 j9) := fun j9 hj0 => (hf_158 _ (by omega)).trans (hc_90 j9 (by omega))
                    have hc_180 : σ_159 (5 + 2) = o6 G (7) (nI (g1 1)) (nI (g1 2)) := (hf_158 _ (by omega)).trans hc_92
                    have hc_181 : σ_159 (5 + 8) = q_an G 10 (fun _ => 0) := (hf_158 _ (by omega)).trans hc_93
                    refine A_istore_n hg dX3_read_132 rfl (by decide) (q_c1d rfl) ?_
                    refine A_eq (ls2 := [some (.ref (q_h G + 2)), some (.ref (q_h G + 1)), some (.int (nI (m))), some (.int (nI (1))), some (.int (nI (i)))]) (st2 := []) (pc2 := 0) rfl rfl ?_
                    refine A_goto (tgt := 142) hg dX3_read_133 (by decide) ?_
                    refine A_iload_n hg dX3_read_142 rfl rfl ?_
                    refine A_if_eqN (tgt := 157) hg dX3_read_143 (by decide) (by decide) (fun c143 => absurd c143 (by decide)) (fun c143 => ?_)
                    refine A_aload_n hg dX3_read_146 rfl rfl ?_
                    refine A_hV (kc2 := 0) (ks2 := 0) (As := []) (rest := []) hg lk_RX3_75 in_X3_readSemicolon se_X3_readSemicolon rfl dX3_read_147 ⟨by decide, by decide⟩ rfl rfl ⟨by decide, by decide⟩ hc_155 (by omega) rfl rfl (Nat.le_of_ble_eq_true rfl) (c_X3_readSemicolon G ex n σ_159 f m t2 nu2 1 hc_155 hc_156 hc_171 (by omega) hm6 hbb htm2 hnu2) ?_
                    rintro _ σ_186 (⟨rfl, hk3, hc_182, hf_183⟩ | ⟨t3, nu4, rfl, hk3, ht3, htm3, hnu3, hc_184, hf_185⟩)
                    · skip
                      refine (?_ : AJ G K Q 0 0 ex n 150 [some (.ref (q_h G + 2)), some (.ref (q_h G + 1)), some (.int (nI (m))), some (.int (nI (1))), some (.int (nI (i)))] [.int (nI (0))] σ_186)
                      have hc_187 : σ_186 1 = q_an G 600 f := (hf_183 _ (by omega)).trans hc_171
                      have hc_188 : σ_186 6 = q_rn G 3 4 (fun j => some (5 + 10 + 2 * j)) := (hf_183 _ (by omega)).trans hc_172
                      have hc_189 : σ_186 (7 + 1) = q_an G 8 kd1 := (hf_183 _ (by omega)).trans hc_173
                      have hc_190 : σ_186 (7 + 2) = q_an G 8 fi1 := (hf_183 _ (by omega)).trans hc_174
                      have hc_191 : σ_186 (7 + 3) = q_an G 8 se1 := (hf_183 _ (by omega)).trans hc_175
                      have hc_192 : σ_186 (7 + 4) = q_an G 8 tf1 := (hf_183 _ (by omega)).trans hc_176
                      have hc_193 : σ_186 (7 + 5) = q_an G 8 ts1 := (hf_183 _ (by omega)).trans hc_177
                      have hc_194 : ∀ j9 : Nat, j9 < 4 → σ_186 (5 + 10 + 2 * j9) = o7 G (5 + 10 + 2 * j9) (lN (nm1 j9)) (lN (on1 j9)) (nI (sl1 j9)) (nI (mo1 j9)) (nI (nb1 j9)) := fun j9 hj0 => (hf_183 _ (by omega)).trans (hc_178 j9 (by omega))
                      have hc_195 : ∀ j9 : Nat, j9 < 4 → σ_186 (5 + 10 + 2 * j9 + 1) = q_an G 5 (bm1 j9) := fun j9 hj0 => (hf_183 _ (by omega)).trans (hc_179 j9 (by omega))
                      have hc_196 : σ_186 (5 + 2) = o6 G (7) (nI (g1 1)) (nI (g1 2)) := (hf_183 _ (by omega)).trans hc_180
                      have hc_197 : σ_186 (5 + 8) = q_an G 10 (fun _ => 0) := (hf_183 _ (by omega)).trans hc_181
                      have hc_198 : σ_186 3 = o9 G (1) (nI (m)) (nI (x_kd f m t2)) (nI (t2)) (nI (tk_be f m t2)) (nu2) := (hf_183 _ (by omega)).trans hc_156
                      have hc_199 : σ_186 5 = o0 G (5) (nI (g1 0)) (nI (g2 3)) (nI (0)) (nI (1)) (nI (0)) := (hf_183 _ (by omega)).trans hc_157
                      refine A_if_eqN (tgt := 157) hg dX3_read_150 (by decide) (by decide) (fun c150 => ?_) (fun c150 => absurd (by decide) c150)
                      refine A_iconst (v := (nI (0))) hg dX3_read_157 (by decide) ?_
                      refine A_istore_n hg dX3_read_158 rfl (by decide) (q_c1d rfl) ?_
                      refine A_eq (ls2 := [some (.ref (q_h G + 2)), some (.ref (q_h G + 1)), some (.int (nI (m))), some (.int (nI (0))), some (.int (nI (i)))]) (st2 := []) (pc2 := 0) rfl rfl ?_
                      refine A_iincN (k' := 1) hg dX3_read_159 (by decide) rfl (by decide) (q_c1d rfl) ?_
                      refine A_eq (ls2 := [some (.ref (q_h G + 2)), some (.ref (q_h G + 1)), some (.int (nI (m))), some (.int (nI (0))), some (.int (nI (i + 1)))]) (st2 := []) (pc2 := 0) rfl rfl ?_
                      refine A_goto (tgt := 36) hg dX3_read_162 (by decide) ?_
                      refine A_iload hg dX3_read_36 rfl ?_
                      refine A_iload_n hg dX3_read_38 rfl rfl ?_
                      refine A_icmp_geN (tgt := 165) hg dX3_read_39 (by omega) (by omega) (by decide) (fun c39 => ?_) (fun c39 => ?_)
                      · skip
                        refine A_iload_n hg dX3_read_165 rfl rfl ?_
                        refine A_if_eqN (tgt := 185) hg dX3_read_166 (by decide) (by decide) (fun c166 => ?_) (fun c166 => absurd (by decide) c166)
                        refine A_aload_n hg dX3_read_185 rfl rfl ?_
                        refine A_getf (v := .int (nI (1))) hg fl_RX3_29 dX3_read_186 hc_182 (by omega) rfl ?_
                        rw [hQ]
                        exact A_ireturn hg (by decide) (by decide) rfl dX3_read_189 ⟨rfl, Or.inl (⟨1, t2, 1, (nI (x_kd f m t2)), (nI (t2)), (nI (tk_be f m t2)), (nu2), (g1 0), (g2 3), nm1, on1, sl1, mo1, nb1, bm1, (g1 1), (g1 2), kd1, fi1, se1, tf1, ts1, rfl, (hRL.trans (rd_t_fu (by omega) (rd_t_x hkd ((rd_m_f c65 c85 c105 c125).trans hR2) hk3))), (by first | assumption | decide), hc_182, hc_198, hc_199, hc_194, hc_195, hc_196, hc_189, hc_190, hc_191, hc_192, hc_193, hc_197, (fun i hi => ((hf_183 i (by omega)).trans ((hf_158 i (by omega)).trans (hf_96 i (by omega)))))⟩)⟩
                      · skip
                        refine A_iload_n hg dX3_read_42 rfl rfl ?_
                        refine A_if_eqN (tgt := 165) hg dX3_read_43 (by decide) (by decide) (fun c43 => ?_) (fun c43 => absurd (by decide) c43)
                        refine A_iload_n hg dX3_read_165 rfl rfl ?_
                        refine A_if_eqN (tgt := 185) hg dX3_read_166 (by decide) (by decide) (fun c166 => ?_) (fun c166 => absurd (by decide) c166)
                        refine A_aload_n hg dX3_read_185 rfl rfl ?_
                        refine A_getf (v := .int (nI (1))) hg fl_RX3_29 dX3_read_186 hc_182 (by omega) rfl ?_
                        rw [hQ]
                        exact A_ireturn hg (by decide) (by decide) rfl dX3_read_189 ⟨rfl, Or.inl (⟨1, t2, 1, (nI (x_kd f m t2)), (nI (t2)), (nI (tk_be f m t2)), (nu2), (g1 0), (g2 3), nm1, on1, sl1, mo1, nb1, bm1, (g1 1), (g1 2), kd1, fi1, se1, tf1, ts1, rfl, (hRL.trans (rd_t_fu (by omega) (rd_t_x hkd ((rd_m_f c65 c85 c105 c125).trans hR2) hk3))), (by first | assumption | decide), hc_182, hc_198, hc_199, hc_194, hc_195, hc_196, hc_189, hc_190, hc_191, hc_192, hc_193, hc_197, (fun i hi => ((hf_183 i (by omega)).trans ((hf_158 i (by omega)).trans (hf_96 i (by omega)))))⟩)⟩
                    · skip
                      refine (?_ : AJ G K Q 0 0 ex n 150 [some (.ref (q_h G + 2)), some (.ref (q_h G + 1)), some (.int (nI (m))), some (.int (nI (1))), some (.int (nI (i)))] [.int (nI (1))] σ_186)
                      have hc_200 : σ_186 1 = q_an G 600 f := (hf_185 _ (by omega)).trans hc_171
                      have hc_201 : σ_186 6 = q_rn G 3 4 (fun j => some (5 + 10 + 2 * j)) := (hf_185 _ (by omega)).trans hc_172
                      have hc_202 : σ_186 (7 + 1) = q_an G 8 kd1 := (hf_185 _ (by omega)).trans hc_173
                      have hc_203 : σ_186 (7 + 2) = q_an G 8 fi1 := (hf_185 _ (by omega)).trans hc_174
                      have hc_204 : σ_186 (7 + 3) = q_an G 8 se1 := (hf_185 _ (by omega)).trans hc_175
                      have hc_205 : σ_186 (7 + 4) = q_an G 8 tf1 := (hf_185 _ (by omega)).trans hc_176
                      have hc_206 : σ_186 (7 + 5) = q_an G 8 ts1 := (hf_185 _ (by omega)).trans hc_177
                      have hc_207 : ∀ j9 : Nat, j9 < 4 → σ_186 (5 + 10 + 2 * j9) = o7 G (5 + 10 + 2 * j9) (lN (nm1 j9)) (lN (on1 j9)) (nI (sl1 j9)) (nI (mo1 j9)) (nI (nb1 j9)) := fun j9 hj0 => (hf_185 _ (by omega)).trans (hc_178 j9 (by omega))
                      have hc_208 : ∀ j9 : Nat, j9 < 4 → σ_186 (5 + 10 + 2 * j9 + 1) = q_an G 5 (bm1 j9) := fun j9 hj0 => (hf_185 _ (by omega)).trans (hc_179 j9 (by omega))
                      have hc_209 : σ_186 (5 + 2) = o6 G (7) (nI (g1 1)) (nI (g1 2)) := (hf_185 _ (by omega)).trans hc_180
                      have hc_210 : σ_186 (5 + 8) = q_an G 10 (fun _ => 0) := (hf_185 _ (by omega)).trans hc_181
                      have hc_211 : σ_186 2 = o3 G (2) (nI (1)) (nI (0)) (q_d (0)) := (hf_185 _ (by omega)).trans hc_155
                      have hc_212 : σ_186 5 = o0 G (5) (nI (g1 0)) (nI (g2 3)) (nI (0)) (nI (1)) (nI (0)) := (hf_185 _ (by omega)).trans hc_157
                      refine A_if_eqN (tgt := 157) hg dX3_read_150 (by decide) (by decide) (fun c150 => absurd c150 (by decide)) (fun c150 => ?_)
                      refine A_iconst (v := (nI (1))) hg dX3_read_153 (by decide) ?_
                      refine A_goto (tgt := 158) hg dX3_read_154 (by decide) ?_
                      obtain ⟨v9, hv9, rfl⟩ := hgv3
                      have qj : ∀ j : Nat, j ≠ 3 → va_up g1 3 v9 j = g1 j := fun j hj => va_up_off hj
                      have q0 := qj 0 (by decide)
                      have q1 := qj 1 (by decide)
                      have q2 := qj 2 (by decide)
                      have hrlN := x_rl_same hinv1.1 q0 (fun j h1 h2 => qj j (by omega)) hrl1
                      have hxpN := x_p_same q1 q2 hinv1.1.2.1 hinv1.1.2.2.1 (fun j h1 h2 => qj j (by omega)) hxp1
                      have htpN := x_tp_same q1 q2 hinv1.1.2.1 hinv1.1.2.2.1 (fun j h1 h2 => qj j (by omega)) htp1
                      have hc_213 : σ_186 5 = o0 G (5) (nI ((va_up g1 3 v9) 0)) (nI ((va_up g1 3 v9) 3)) (nI (0)) (nI (1)) (nI (0)) := hc_212.trans (by rw [q0])
                      have hc_214 : σ_186 (5 + 2) = o6 G (7) (nI ((va_up g1 3 v9) 1)) (nI ((va_up g1 3 v9) 2)) := hc_209.trans (by rw [q1, q2])
                      have hinvN := rd_m_inv (u := ft1) hinv1 ((rd_m_f c65 c85 c105 c125).trans hR2)
                      have hkN := rd_m_k (u := ft1) hinv1 hk1 ((rd_m_f c65 c85 c105 c125).trans hR2)
                      refine A_istore_n hg dX3_read_158 rfl (by decide) (q_c1d rfl) ?_
                      refine A_eq (ls2 := [some (.ref (q_h G + 2)), some (.ref (q_h G + 1)), some (.int (nI (m))), some (.int (nI (1))), some (.int (nI (i)))]) (st2 := []) (pc2 := 0) rfl rfl ?_
                      refine A_iincN (k' := 1) hg dX3_read_159 (by decide) rfl (by decide) (q_c1d rfl) ?_
                      refine A_eq (ls2 := [some (.ref (q_h G + 2)), some (.ref (q_h G + 1)), some (.int (nI (m))), some (.int (nI (1))), some (.int (nI (i + 1)))]) (st2 := []) (pc2 := 0) rfl rfl ?_
                      refine A_goto (tgt := 36) hg dX3_read_162 (by decide) ?_
                      exact ih36 (i + 1) (va_up g1 3 v9) t3 nu4 1 nm1 on1 sl1 mo1 nb1 bm1 kd1 fi1 se1 tf1 ts1 σ_186 hc_200 hc_201 hc_202 hc_203 hc_204 hc_205 hc_206 hc_207 hc_208 hc_213 hc_214 hc_210 hc_211 hc_184 (fun i hi => ((hf_185 i (by omega)).trans ((hf_158 i (by omega)).trans (hf_96 i (by omega))))) (by have h1 := tk_be_3 hk3; have h2 := tk_st_ge f m (tk_be f m t2); have h3 : t3 = tk_st f m (tk_be f m t2) := ht3; have h4 := rd_m_ge (u := ft1) ((rd_m_f c65 c85 c105 c125).trans hR2); omega) htm3 (by omega) (hRL.trans (rd_t_fu (by omega) ((rd_t_g hkd ((rd_m_f c65 c85 c105 c125).trans hR2) hk3 (rd_u_1 c125) ht3).trans (by rw [show m + 1 - (i + 1) = m - i by omega])))) hinvN hkN hrlN hxpN htpN hnu3 (by omega)
              · skip
                refine A_aload_n hg dX3_read_108 rfl rfl ?_
                refine A_hV (kc2 := 0) (ks2 := 0) (As := []) (rest := []) hg lk_RX3_63 in_X3_readStick se_X3_readStick rfl dX3_read_109 ⟨by decide, by decide⟩ rfl rfl ⟨by decide, by decide⟩ hc_94 (by omega) rfl rfl (Nat.le_of_ble_eq_true rfl) (c_X3_readStick G ex n σ_81 f m t1 nu1 ft1 g1 (g1 3) 0 1 0 kd1 fi1 se1 tf1 ts1 hc_94 hc_95 hc_82 hc_91 hc_92 hc_84 hc_85 hc_86 hc_87 hc_88 (by omega) hm6 hbb htm1 hnu1 hinv1 hxp1 htp1) ?_
                rintro _ σ_249 (⟨c_215, t2, kd2_216, st2_217, be2_218, nu2, bE_219, skE_220, kdE_221, fiE_222, seE_223, tfE_224, tsE_225, rfl, hR2, hc02, hc_226, hc_227, hc_228, hc_229, hc_230, hc_231, hc_232, hc_233, hf_234⟩ | ⟨g2, t2, nu2, kdE_235, fiE_236, seE_237, tfE_238, tsE_239, rfl, hR2, hxp3, htp3, htm2, hnu2, hc_240, hc_241, hc_242, hc_243, hc_244, hc_245, hc_246, hc_247, hf_248⟩)
                · skip
                  refine (?_ : AJ G K Q 0 0 ex n 112 [some (.ref (q_h G + 2)), some (.ref (q_h G + 1)), some (.int (nI (m))), some (.int (nI (1))), some (.int (nI (i)))] [.int (nI (0))] σ_249)
                  have hc_250 : σ_249 1 = q_an G 600 f := (hf_234 _ (by omega)).trans hc_82
                  have hc_251 : σ_249 6 = q_rn G 3 4 (fun j => some (5 + 10 + 2 * j)) := (hf_234 _ (by omega)).trans hc_83
                  have hc_252 : ∀ j9 : Nat, j9 < 4 → σ_249 (5 + 10 + 2 * j9) = o7 G (5 + 10 + 2 * j9) (lN (nm1 j9)) (lN (on1 j9)) (nI (sl1 j9)) (nI (mo1 j9)) (nI (nb1 j9)) := fun j9 hj0 => (hf_234 _ (by omega)).trans (hc_89 j9 (by omega))
                  have hc_253 : ∀ j9 : Nat, j9 < 4 → σ_249 (5 + 10 + 2 * j9 + 1) = q_an G 5 (bm1 j9) := fun j9 hj0 => (hf_234 _ (by omega)).trans (hc_90 j9 (by omega))
                  have hc_254 : σ_249 5 = o0 G (5) (nI (g1 0)) (nI (g1 3)) (nI (0)) (nI (1)) (nI (0)) := (hf_234 _ (by omega)).trans hc_91
                  have hc_255 : σ_249 (5 + 8) = q_an G 10 (fun _ => 0) := (hf_234 _ (by omega)).trans hc_93
                  refine A_istore_n hg dX3_read_112 rfl (by decide) (q_c1d rfl) ?_
                  refine A_eq (ls2 := [some (.ref (q_h G + 2)), some (.ref (q_h G + 1)), some (.int (nI (m))), some (.int (nI (0))), some (.int (nI (i)))]) (st2 := []) (pc2 := 0) rfl rfl ?_
                  refine A_goto (tgt := 142) hg dX3_read_113 (by decide) ?_
                  refine A_iload_n hg dX3_read_142 rfl rfl ?_
                  refine A_if_eqN (tgt := 157) hg dX3_read_143 (by decide) (by decide) (fun c143 => ?_) (fun c143 => absurd (by decide) c143)
                  refine A_iconst (v := (nI (0))) hg dX3_read_157 (by decide) ?_
                  refine A_istore_n hg dX3_read_158 rfl (by decide) (q_c1d rfl) ?_
                  refine A_eq (ls2 := [some (.ref (q_h G + 2)), some (.ref (q_h G + 1)), some (.int (nI (m))), some (.int (nI (0))), some (.int (nI (i)))]) (st2 := []) (pc2 := 0) rfl rfl ?_
                  refine A_iincN (k' := 1) hg dX3_read_159 (by decide) rfl (by decide) (q_c1d rfl) ?_
                  refine A_eq (ls2 := [some (.ref (q_h G + 2)), some (.ref (q_h G + 1)), some (.int (nI (m))), some (.int (nI (0))), some (.int (nI (i + 1)))]) (st2 := []) (pc2 := 0) rfl rfl ?_
                  refine A_goto (tgt := 36) hg dX3_read_162 (by decide) ?_
                  refine A_iload hg dX3_read_36 rfl ?_
                  refine A_iload_n hg dX3_read_38 rfl rfl ?_
                  refine A_icmp_geN (tgt := 165) hg dX3_read_39 (by omega) (by omega) (by decide) (fun c39 => ?_) (fun c39 => ?_)
                  · skip
                    refine A_iload_n hg dX3_read_165 rfl rfl ?_
                    refine A_if_eqN (tgt := 185) hg dX3_read_166 (by decide) (by decide) (fun c166 => ?_) (fun c166 => absurd (by decide) c166)
                    refine A_aload_n hg dX3_read_185 rfl rfl ?_
                    refine A_getf (v := .int (nI (c_215))) hg fl_RX3_29 dX3_read_186 hc_226 (by omega) rfl ?_
                    rw [hQ]
                    exact A_ireturn hg (by decide) (by decide) rfl dX3_read_189 ⟨rfl, Or.inl (⟨c_215, t2, ft1, (kd2_216), (st2_217), (be2_218), (nu2), (g1 0), (g1 3), nm1, on1, sl1, mo1, nb1, bm1, (bE_219), (skE_220), kdE_221, fiE_222, seE_223, tfE_224, tsE_225, rfl, (hRL.trans (rd_t_fu (by omega) (rd_t_e hkd ((rd_m_s c65 c85 c105).trans hR2)))), (by first | assumption | decide), hc_226, hc_227, hc_254, hc_252, hc_253, hc_228, hc_229, hc_230, hc_231, hc_232, hc_233, hc_255, (fun i hi => ((hf_234 i (by omega)).trans (hf_96 i (by omega))))⟩)⟩
                  · skip
                    refine A_iload_n hg dX3_read_42 rfl rfl ?_
                    refine A_if_eqN (tgt := 165) hg dX3_read_43 (by decide) (by decide) (fun c43 => ?_) (fun c43 => absurd (by decide) c43)
                    refine A_iload_n hg dX3_read_165 rfl rfl ?_
                    refine A_if_eqN (tgt := 185) hg dX3_read_166 (by decide) (by decide) (fun c166 => ?_) (fun c166 => absurd (by decide) c166)
                    refine A_aload_n hg dX3_read_185 rfl rfl ?_
                    refine A_getf (v := .int (nI (c_215))) hg fl_RX3_29 dX3_read_186 hc_226 (by omega) rfl ?_
                    rw [hQ]
                    exact A_ireturn hg (by decide) (by decide) rfl dX3_read_189 ⟨rfl, Or.inl (⟨c_215, t2, ft1, (kd2_216), (st2_217), (be2_218), (nu2), (g1 0), (g1 3), nm1, on1, sl1, mo1, nb1, bm1, (bE_219), (skE_220), kdE_221, fiE_222, seE_223, tfE_224, tsE_225, rfl, (hRL.trans (rd_t_fu (by omega) (rd_t_e hkd ((rd_m_s c65 c85 c105).trans hR2)))), (by first | assumption | decide), hc_226, hc_227, hc_254, hc_252, hc_253, hc_228, hc_229, hc_230, hc_231, hc_232, hc_233, hc_255, (fun i hi => ((hf_234 i (by omega)).trans (hf_96 i (by omega))))⟩)⟩
                · skip
                  refine (?_ : AJ G K Q 0 0 ex n 112 [some (.ref (q_h G + 2)), some (.ref (q_h G + 1)), some (.int (nI (m))), some (.int (nI (1))), some (.int (nI (i)))] [.int (nI (1))] σ_249)
                  have hc_256 : σ_249 1 = q_an G 600 f := (hf_248 _ (by omega)).trans hc_82
                  have hc_257 : σ_249 6 = q_rn G 3 4 (fun j => some (5 + 10 + 2 * j)) := (hf_248 _ (by omega)).trans hc_83
                  have hc_258 : ∀ j9 : Nat, j9 < 4 → σ_249 (5 + 10 + 2 * j9) = o7 G (5 + 10 + 2 * j9) (lN (nm1 j9)) (lN (on1 j9)) (nI (sl1 j9)) (nI (mo1 j9)) (nI (nb1 j9)) := fun j9 hj0 => (hf_248 _ (by omega)).trans (hc_89 j9 (by omega))
                  have hc_259 : ∀ j9 : Nat, j9 < 4 → σ_249 (5 + 10 + 2 * j9 + 1) = q_an G 5 (bm1 j9) := fun j9 hj0 => (hf_248 _ (by omega)).trans (hc_90 j9 (by omega))
                  have hc_260 : σ_249 5 = o0 G (5) (nI (g1 0)) (nI (g1 3)) (nI (0)) (nI (1)) (nI (0)) := (hf_248 _ (by omega)).trans hc_91
                  have hc_261 : σ_249 (5 + 8) = q_an G 10 (fun _ => 0) := (hf_248 _ (by omega)).trans hc_93
                  refine A_istore_n hg dX3_read_112 rfl (by decide) (q_c1d rfl) ?_
                  refine A_eq (ls2 := [some (.ref (q_h G + 2)), some (.ref (q_h G + 1)), some (.int (nI (m))), some (.int (nI (1))), some (.int (nI (i)))]) (st2 := []) (pc2 := 0) rfl rfl ?_
                  refine A_goto (tgt := 142) hg dX3_read_113 (by decide) ?_
                  refine A_iload_n hg dX3_read_142 rfl rfl ?_
                  refine A_if_eqN (tgt := 157) hg dX3_read_143 (by decide) (by decide) (fun c143 => absurd c143 (by decide)) (fun c143 => ?_)
                  refine A_aload_n hg dX3_read_146 rfl rfl ?_
                  refine A_hV (kc2 := 0) (ks2 := 0) (As := []) (rest := []) hg lk_RX3_75 in_X3_readSemicolon se_X3_readSemicolon rfl dX3_read_147 ⟨by decide, by decide⟩ rfl rfl ⟨by decide, by decide⟩ hc_240 (by omega) rfl rfl (Nat.le_of_ble_eq_true rfl) (c_X3_readSemicolon G ex n σ_249 f m t2 nu2 ft1 hc_240 hc_241 hc_256 (by omega) hm6 hbb htm2 hnu2) ?_
                  rintro _ σ_266 (⟨rfl, hk3, hc_262, hf_263⟩ | ⟨t3, nu4, rfl, hk3, ht3, htm3, hnu3, hc_264, hf_265⟩)
                  · skip
                    refine (?_ : AJ G K Q 0 0 ex n 150 [some (.ref (q_h G + 2)), some (.ref (q_h G + 1)), some (.int (nI (m))), some (.int (nI (1))), some (.int (nI (i)))] [.int (nI (0))] σ_266)
                    have hc_267 : σ_266 1 = q_an G 600 f := (hf_263 _ (by omega)).trans hc_256
                    have hc_268 : σ_266 6 = q_rn G 3 4 (fun j => some (5 + 10 + 2 * j)) := (hf_263 _ (by omega)).trans hc_257
                    have hc_269 : ∀ j9 : Nat, j9 < 4 → σ_266 (5 + 10 + 2 * j9) = o7 G (5 + 10 + 2 * j9) (lN (nm1 j9)) (lN (on1 j9)) (nI (sl1 j9)) (nI (mo1 j9)) (nI (nb1 j9)) := fun j9 hj0 => (hf_263 _ (by omega)).trans (hc_258 j9 (by omega))
                    have hc_270 : ∀ j9 : Nat, j9 < 4 → σ_266 (5 + 10 + 2 * j9 + 1) = q_an G 5 (bm1 j9) := fun j9 hj0 => (hf_263 _ (by omega)).trans (hc_259 j9 (by omega))
                    have hc_271 : σ_266 5 = o0 G (5) (nI (g1 0)) (nI (g1 3)) (nI (0)) (nI (1)) (nI (0)) := (hf_263 _ (by omega)).trans hc_260
                    have hc_272 : σ_266 (5 + 8) = q_an G 10 (fun _ => 0) := (hf_263 _ (by omega)).trans hc_261
                    have hc_273 : σ_266 3 = o9 G (1) (nI (m)) (nI (x_kd f m t2)) (nI (t2)) (nI (tk_be f m t2)) (nu2) := (hf_263 _ (by omega)).trans hc_241
                    have hc_274 : σ_266 7 = o6 G (7) (nI (g2 1)) (nI (g2 2)) := (hf_263 _ (by omega)).trans hc_242
                    have hc_275 : σ_266 8 = q_an G 8 kdE_235 := (hf_263 _ (by omega)).trans hc_243
                    have hc_276 : σ_266 9 = q_an G 8 fiE_236 := (hf_263 _ (by omega)).trans hc_244
                    have hc_277 : σ_266 10 = q_an G 8 seE_237 := (hf_263 _ (by omega)).trans hc_245
                    have hc_278 : σ_266 11 = q_an G 8 tfE_238 := (hf_263 _ (by omega)).trans hc_246
                    have hc_279 : σ_266 12 = q_an G 8 tsE_239 := (hf_263 _ (by omega)).trans hc_247
                    refine A_if_eqN (tgt := 157) hg dX3_read_150 (by decide) (by decide) (fun c150 => ?_) (fun c150 => absurd (by decide) c150)
                    refine A_iconst (v := (nI (0))) hg dX3_read_157 (by decide) ?_
                    refine A_istore_n hg dX3_read_158 rfl (by decide) (q_c1d rfl) ?_
                    refine A_eq (ls2 := [some (.ref (q_h G + 2)), some (.ref (q_h G + 1)), some (.int (nI (m))), some (.int (nI (0))), some (.int (nI (i)))]) (st2 := []) (pc2 := 0) rfl rfl ?_
                    refine A_iincN (k' := 1) hg dX3_read_159 (by decide) rfl (by decide) (q_c1d rfl) ?_
                    refine A_eq (ls2 := [some (.ref (q_h G + 2)), some (.ref (q_h G + 1)), some (.int (nI (m))), some (.int (nI (0))), some (.int (nI (i + 1)))]) (st2 := []) (pc2 := 0) rfl rfl ?_
                    refine A_goto (tgt := 36) hg dX3_read_162 (by decide) ?_
                    refine A_iload hg dX3_read_36 rfl ?_
                    refine A_iload_n hg dX3_read_38 rfl rfl ?_
                    refine A_icmp_geN (tgt := 165) hg dX3_read_39 (by omega) (by omega) (by decide) (fun c39 => ?_) (fun c39 => ?_)
                    · skip
                      refine A_iload_n hg dX3_read_165 rfl rfl ?_
                      refine A_if_eqN (tgt := 185) hg dX3_read_166 (by decide) (by decide) (fun c166 => ?_) (fun c166 => absurd (by decide) c166)
                      refine A_aload_n hg dX3_read_185 rfl rfl ?_
                      refine A_getf (v := .int (nI (1))) hg fl_RX3_29 dX3_read_186 hc_262 (by omega) rfl ?_
                      rw [hQ]
                      exact A_ireturn hg (by decide) (by decide) rfl dX3_read_189 ⟨rfl, Or.inl (⟨1, t2, ft1, (nI (x_kd f m t2)), (nI (t2)), (nI (tk_be f m t2)), (nu2), (g1 0), (g1 3), nm1, on1, sl1, mo1, nb1, bm1, (g2 1), (g2 2), kdE_235, fiE_236, seE_237, tfE_238, tsE_239, rfl, (hRL.trans (rd_t_fu (by omega) (rd_t_x hkd ((rd_m_s c65 c85 c105).trans hR2) hk3))), (by first | assumption | decide), hc_262, hc_273, hc_271, hc_269, hc_270, hc_274, hc_275, hc_276, hc_277, hc_278, hc_279, hc_272, (fun i hi => ((hf_263 i (by omega)).trans ((hf_248 i (by omega)).trans (hf_96 i (by omega)))))⟩)⟩
                    · skip
                      refine A_iload_n hg dX3_read_42 rfl rfl ?_
                      refine A_if_eqN (tgt := 165) hg dX3_read_43 (by decide) (by decide) (fun c43 => ?_) (fun c43 => absurd (by decide) c43)
                      refine A_iload_n hg dX3_read_165 rfl rfl ?_
                      refine A_if_eqN (tgt := 185) hg dX3_read_166 (by decide) (by decide) (fun c166 => ?_) (fun c166 => absurd (by decide) c166)
                      refine A_aload_n hg dX3_read_185 rfl rfl ?_
                      refine A_getf (v := .int (nI (1))) hg fl_RX3_29 dX3_read_186 hc_262 (by omega) rfl ?_
                      rw [hQ]
                      exact A_ireturn hg (by decide) (by decide) rfl dX3_read_189 ⟨rfl, Or.inl (⟨1, t2, ft1, (nI (x_kd f m t2)), (nI (t2)), (nI (tk_be f m t2)), (nu2), (g1 0), (g1 3), nm1, on1, sl1, mo1, nb1, bm1, (g2 1), (g2 2), kdE_235, fiE_236, seE_237, tfE_238, tsE_239, rfl, (hRL.trans (rd_t_fu (by omega) (rd_t_x hkd ((rd_m_s c65 c85 c105).trans hR2) hk3))), (by first | assumption | decide), hc_262, hc_273, hc_271, hc_269, hc_270, hc_274, hc_275, hc_276, hc_277, hc_278, hc_279, hc_272, (fun i hi => ((hf_263 i (by omega)).trans ((hf_248 i (by omega)).trans (hf_96 i (by omega)))))⟩)⟩
                  · skip
                    refine (?_ : AJ G K Q 0 0 ex n 150 [some (.ref (q_h G + 2)), some (.ref (q_h G + 1)), some (.int (nI (m))), some (.int (nI (1))), some (.int (nI (i)))] [.int (nI (1))] σ_266)
                    have hc_280 : σ_266 1 = q_an G 600 f := (hf_265 _ (by omega)).trans hc_256
                    have hc_281 : σ_266 6 = q_rn G 3 4 (fun j => some (5 + 10 + 2 * j)) := (hf_265 _ (by omega)).trans hc_257
                    have hc_282 : ∀ j9 : Nat, j9 < 4 → σ_266 (5 + 10 + 2 * j9) = o7 G (5 + 10 + 2 * j9) (lN (nm1 j9)) (lN (on1 j9)) (nI (sl1 j9)) (nI (mo1 j9)) (nI (nb1 j9)) := fun j9 hj0 => (hf_265 _ (by omega)).trans (hc_258 j9 (by omega))
                    have hc_283 : ∀ j9 : Nat, j9 < 4 → σ_266 (5 + 10 + 2 * j9 + 1) = q_an G 5 (bm1 j9) := fun j9 hj0 => (hf_265 _ (by omega)).trans (hc_259 j9 (by omega))
                    have hc_284 : σ_266 5 = o0 G (5) (nI (g1 0)) (nI (g1 3)) (nI (0)) (nI (1)) (nI (0)) := (hf_265 _ (by omega)).trans hc_260
                    have hc_285 : σ_266 (5 + 8) = q_an G 10 (fun _ => 0) := (hf_265 _ (by omega)).trans hc_261
                    have hc_286 : σ_266 2 = o3 G (2) (nI (ft1)) (nI (0)) (q_d (0)) := (hf_265 _ (by omega)).trans hc_240
                    have hc_287 : σ_266 7 = o6 G (7) (nI (g2 1)) (nI (g2 2)) := (hf_265 _ (by omega)).trans hc_242
                    have hc_288 : σ_266 8 = q_an G 8 kdE_235 := (hf_265 _ (by omega)).trans hc_243
                    have hc_289 : σ_266 9 = q_an G 8 fiE_236 := (hf_265 _ (by omega)).trans hc_244
                    have hc_290 : σ_266 10 = q_an G 8 seE_237 := (hf_265 _ (by omega)).trans hc_245
                    have hc_291 : σ_266 11 = q_an G 8 tfE_238 := (hf_265 _ (by omega)).trans hc_246
                    have hc_292 : σ_266 12 = q_an G 8 tsE_239 := (hf_265 _ (by omega)).trans hc_247
                    refine A_if_eqN (tgt := 157) hg dX3_read_150 (by decide) (by decide) (fun c150 => absurd c150 (by decide)) (fun c150 => ?_)
                    refine A_iconst (v := (nI (1))) hg dX3_read_153 (by decide) ?_
                    refine A_goto (tgt := 158) hg dX3_read_154 (by decide) ?_
                    have qj := rd_s_parts hR2
                    have q0 := qj 0 (by decide) (by decide)
                    have q3 := qj 3 (by decide) (by decide)
                    have hrlN := x_rl_same hinv1.1 q0 (fun j h1 h2 => qj j h2 (by omega)) hrl1
                    have hxpN := hxp3
                    have htpN := htp3
                    have hc_293 : σ_266 5 = o0 G (5) (nI (g2 0)) (nI (g2 3)) (nI (0)) (nI (1)) (nI (0)) := hc_284.trans (by rw [q0, q3])
                    have hinvN := rd_m_inv (u := ft1) hinv1 ((rd_m_s c65 c85 c105).trans hR2)
                    have hkN := rd_m_k (u := ft1) hinv1 hk1 ((rd_m_s c65 c85 c105).trans hR2)
                    refine A_istore_n hg dX3_read_158 rfl (by decide) (q_c1d rfl) ?_
                    refine A_eq (ls2 := [some (.ref (q_h G + 2)), some (.ref (q_h G + 1)), some (.int (nI (m))), some (.int (nI (1))), some (.int (nI (i)))]) (st2 := []) (pc2 := 0) rfl rfl ?_
                    refine A_iincN (k' := 1) hg dX3_read_159 (by decide) rfl (by decide) (q_c1d rfl) ?_
                    refine A_eq (ls2 := [some (.ref (q_h G + 2)), some (.ref (q_h G + 1)), some (.int (nI (m))), some (.int (nI (1))), some (.int (nI (i + 1)))]) (st2 := []) (pc2 := 0) rfl rfl ?_
                    refine A_goto (tgt := 36) hg dX3_read_162 (by decide) ?_
                    exact ih36 (i + 1) g2 t3 nu4 ft1 nm1 on1 sl1 mo1 nb1 bm1 kdE_235 fiE_236 seE_237 tfE_238 tsE_239 σ_266 hc_280 hc_281 hc_288 hc_289 hc_290 hc_291 hc_292 hc_282 hc_283 hc_293 hc_287 hc_285 hc_286 hc_264 (fun i hi => ((hf_265 i (by omega)).trans ((hf_248 i (by omega)).trans (hf_96 i (by omega))))) (by have h1 := tk_be_3 hk3; have h2 := tk_st_ge f m (tk_be f m t2); have h3 : t3 = tk_st f m (tk_be f m t2) := ht3; have h4 := rd_m_ge (u := ft1) ((rd_m_s c65 c85 c105).trans hR2); omega) htm3 (by omega) (hRL.trans (rd_t_fu (by omega) ((rd_t_g hkd ((rd_m_s c65 c85 c105).trans hR2) hk3 (rd_u_0 (tk_wd_not c105 (by decide))) ht3).trans (by rw [show m + 1 - (i + 1) = m - i by omega])))) hinvN hkN hrlN hxpN htpN hnu3 (by omega)
            · skip
              refine A_aload_n hg dX3_read_88 rfl rfl ?_
              refine A_hV (kc2 := 0) (ks2 := 0) (As := []) (rest := []) hg lk_RX3_58 in_X3_readBoard se_X3_readBoard rfl dX3_read_89 ⟨by decide, by decide⟩ rfl rfl ⟨by decide, by decide⟩ hc_94 (by omega) rfl rfl (Nat.le_of_ble_eq_true rfl) (c_X3_readBoard G ex n σ_81 f m t1 nu1 ft1 g1 (g1 3) 0 1 0 nm1 on1 sl1 mo1 nb1 bm1 kd1 fi1 se1 tf1 ts1 hc_94 hc_95 hc_82 hc_91 hc_83 hc_89 hc_92 hc_84 hc_85 hc_86 hc_87 hc_88 (by omega) hm6 hbb htm1 hnu1 hinv1 hrl1 hxp1 htp1) ?_
              rintro _ σ_328 (⟨c_294, t2, kd2_295, st2_296, be2_297, nu2, bE_298, skE_299, kdE_300, fiE_301, seE_302, tfE_303, tsE_304, rfl, hR2, hc02, hc_305, hc_306, hc_307, hc_308, hc_309, hc_310, hc_311, hc_312, hf_313⟩ | ⟨g2, t2, nu2, kdE_314, fiE_315, seE_316, tfE_317, tsE_318, rfl, hR2, hxp3, htp3, htm2, hnu2, hc_319, hc_320, hc_321, hc_322, hc_323, hc_324, hc_325, hc_326, hf_327⟩)
              · skip
                refine (?_ : AJ G K Q 0 0 ex n 92 [some (.ref (q_h G + 2)), some (.ref (q_h G + 1)), some (.int (nI (m))), some (.int (nI (1))), some (.int (nI (i)))] [.int (nI (0))] σ_328)
                have hc_329 : σ_328 1 = q_an G 600 f := (hf_313 _ (by omega)).trans hc_82
                have hc_330 : σ_328 6 = q_rn G 3 4 (fun j => some (5 + 10 + 2 * j)) := (hf_313 _ (by omega)).trans hc_83
                have hc_331 : ∀ j9 : Nat, j9 < 4 → σ_328 (5 + 10 + 2 * j9) = o7 G (5 + 10 + 2 * j9) (lN (nm1 j9)) (lN (on1 j9)) (nI (sl1 j9)) (nI (mo1 j9)) (nI (nb1 j9)) := fun j9 hj0 => (hf_313 _ (by omega)).trans (hc_89 j9 (by omega))
                have hc_332 : ∀ j9 : Nat, j9 < 4 → σ_328 (5 + 10 + 2 * j9 + 1) = q_an G 5 (bm1 j9) := fun j9 hj0 => (hf_313 _ (by omega)).trans (hc_90 j9 (by omega))
                have hc_333 : σ_328 5 = o0 G (5) (nI (g1 0)) (nI (g1 3)) (nI (0)) (nI (1)) (nI (0)) := (hf_313 _ (by omega)).trans hc_91
                have hc_334 : σ_328 (5 + 8) = q_an G 10 (fun _ => 0) := (hf_313 _ (by omega)).trans hc_93
                refine A_istore_n hg dX3_read_92 rfl (by decide) (q_c1d rfl) ?_
                refine A_eq (ls2 := [some (.ref (q_h G + 2)), some (.ref (q_h G + 1)), some (.int (nI (m))), some (.int (nI (0))), some (.int (nI (i)))]) (st2 := []) (pc2 := 0) rfl rfl ?_
                refine A_goto (tgt := 142) hg dX3_read_93 (by decide) ?_
                refine A_iload_n hg dX3_read_142 rfl rfl ?_
                refine A_if_eqN (tgt := 157) hg dX3_read_143 (by decide) (by decide) (fun c143 => ?_) (fun c143 => absurd (by decide) c143)
                refine A_iconst (v := (nI (0))) hg dX3_read_157 (by decide) ?_
                refine A_istore_n hg dX3_read_158 rfl (by decide) (q_c1d rfl) ?_
                refine A_eq (ls2 := [some (.ref (q_h G + 2)), some (.ref (q_h G + 1)), some (.int (nI (m))), some (.int (nI (0))), some (.int (nI (i)))]) (st2 := []) (pc2 := 0) rfl rfl ?_
                refine A_iincN (k' := 1) hg dX3_read_159 (by decide) rfl (by decide) (q_c1d rfl) ?_
                refine A_eq (ls2 := [some (.ref (q_h G + 2)), some (.ref (q_h G + 1)), some (.int (nI (m))), some (.int (nI (0))), some (.int (nI (i + 1)))]) (st2 := []) (pc2 := 0) rfl rfl ?_
                refine A_goto (tgt := 36) hg dX3_read_162 (by decide) ?_
                refine A_iload hg dX3_read_36 rfl ?_
                refine A_iload_n hg dX3_read_38 rfl rfl ?_
                refine A_icmp_geN (tgt := 165) hg dX3_read_39 (by omega) (by omega) (by decide) (fun c39 => ?_) (fun c39 => ?_)
                · skip
                  refine A_iload_n hg dX3_read_165 rfl rfl ?_
                  refine A_if_eqN (tgt := 185) hg dX3_read_166 (by decide) (by decide) (fun c166 => ?_) (fun c166 => absurd (by decide) c166)
                  refine A_aload_n hg dX3_read_185 rfl rfl ?_
                  refine A_getf (v := .int (nI (c_294))) hg fl_RX3_29 dX3_read_186 hc_305 (by omega) rfl ?_
                  rw [hQ]
                  exact A_ireturn hg (by decide) (by decide) rfl dX3_read_189 ⟨rfl, Or.inl (⟨c_294, t2, ft1, (kd2_295), (st2_296), (be2_297), (nu2), (g1 0), (g1 3), nm1, on1, sl1, mo1, nb1, bm1, (bE_298), (skE_299), kdE_300, fiE_301, seE_302, tfE_303, tsE_304, rfl, (hRL.trans (rd_t_fu (by omega) (rd_t_e hkd ((rd_m_d c65 c85).trans hR2)))), (by first | assumption | decide), hc_305, hc_306, hc_333, hc_331, hc_332, hc_307, hc_308, hc_309, hc_310, hc_311, hc_312, hc_334, (fun i hi => ((hf_313 i (by omega)).trans (hf_96 i (by omega))))⟩)⟩
                · skip
                  refine A_iload_n hg dX3_read_42 rfl rfl ?_
                  refine A_if_eqN (tgt := 165) hg dX3_read_43 (by decide) (by decide) (fun c43 => ?_) (fun c43 => absurd (by decide) c43)
                  refine A_iload_n hg dX3_read_165 rfl rfl ?_
                  refine A_if_eqN (tgt := 185) hg dX3_read_166 (by decide) (by decide) (fun c166 => ?_) (fun c166 => absurd (by decide) c166)
                  refine A_aload_n hg dX3_read_185 rfl rfl ?_
                  refine A_getf (v := .int (nI (c_294))) hg fl_RX3_29 dX3_read_186 hc_305 (by omega) rfl ?_
                  rw [hQ]
                  exact A_ireturn hg (by decide) (by decide) rfl dX3_read_189 ⟨rfl, Or.inl (⟨c_294, t2, ft1, (kd2_295), (st2_296), (be2_297), (nu2), (g1 0), (g1 3), nm1, on1, sl1, mo1, nb1, bm1, (bE_298), (skE_299), kdE_300, fiE_301, seE_302, tfE_303, tsE_304, rfl, (hRL.trans (rd_t_fu (by omega) (rd_t_e hkd ((rd_m_d c65 c85).trans hR2)))), (by first | assumption | decide), hc_305, hc_306, hc_333, hc_331, hc_332, hc_307, hc_308, hc_309, hc_310, hc_311, hc_312, hc_334, (fun i hi => ((hf_313 i (by omega)).trans (hf_96 i (by omega))))⟩)⟩
              · skip
                refine (?_ : AJ G K Q 0 0 ex n 92 [some (.ref (q_h G + 2)), some (.ref (q_h G + 1)), some (.int (nI (m))), some (.int (nI (1))), some (.int (nI (i)))] [.int (nI (1))] σ_328)
                have hc_335 : σ_328 1 = q_an G 600 f := (hf_327 _ (by omega)).trans hc_82
                have hc_336 : σ_328 6 = q_rn G 3 4 (fun j => some (5 + 10 + 2 * j)) := (hf_327 _ (by omega)).trans hc_83
                have hc_337 : ∀ j9 : Nat, j9 < 4 → σ_328 (5 + 10 + 2 * j9) = o7 G (5 + 10 + 2 * j9) (lN (nm1 j9)) (lN (on1 j9)) (nI (sl1 j9)) (nI (mo1 j9)) (nI (nb1 j9)) := fun j9 hj0 => (hf_327 _ (by omega)).trans (hc_89 j9 (by omega))
                have hc_338 : ∀ j9 : Nat, j9 < 4 → σ_328 (5 + 10 + 2 * j9 + 1) = q_an G 5 (bm1 j9) := fun j9 hj0 => (hf_327 _ (by omega)).trans (hc_90 j9 (by omega))
                have hc_339 : σ_328 5 = o0 G (5) (nI (g1 0)) (nI (g1 3)) (nI (0)) (nI (1)) (nI (0)) := (hf_327 _ (by omega)).trans hc_91
                have hc_340 : σ_328 (5 + 8) = q_an G 10 (fun _ => 0) := (hf_327 _ (by omega)).trans hc_93
                refine A_istore_n hg dX3_read_92 rfl (by decide) (q_c1d rfl) ?_
                refine A_eq (ls2 := [some (.ref (q_h G + 2)), some (.ref (q_h G + 1)), some (.int (nI (m))), some (.int (nI (1))), some (.int (nI (i)))]) (st2 := []) (pc2 := 0) rfl rfl ?_
                refine A_goto (tgt := 142) hg dX3_read_93 (by decide) ?_
                refine A_iload_n hg dX3_read_142 rfl rfl ?_
                refine A_if_eqN (tgt := 157) hg dX3_read_143 (by decide) (by decide) (fun c143 => absurd c143 (by decide)) (fun c143 => ?_)
                refine A_aload_n hg dX3_read_146 rfl rfl ?_
                refine A_hV (kc2 := 0) (ks2 := 0) (As := []) (rest := []) hg lk_RX3_75 in_X3_readSemicolon se_X3_readSemicolon rfl dX3_read_147 ⟨by decide, by decide⟩ rfl rfl ⟨by decide, by decide⟩ hc_319 (by omega) rfl rfl (Nat.le_of_ble_eq_true rfl) (c_X3_readSemicolon G ex n σ_328 f m t2 nu2 ft1 hc_319 hc_320 hc_335 (by omega) hm6 hbb htm2 hnu2) ?_
                rintro _ σ_345 (⟨rfl, hk3, hc_341, hf_342⟩ | ⟨t3, nu4, rfl, hk3, ht3, htm3, hnu3, hc_343, hf_344⟩)
                · skip
                  refine (?_ : AJ G K Q 0 0 ex n 150 [some (.ref (q_h G + 2)), some (.ref (q_h G + 1)), some (.int (nI (m))), some (.int (nI (1))), some (.int (nI (i)))] [.int (nI (0))] σ_345)
                  have hc_346 : σ_345 1 = q_an G 600 f := (hf_342 _ (by omega)).trans hc_335
                  have hc_347 : σ_345 6 = q_rn G 3 4 (fun j => some (5 + 10 + 2 * j)) := (hf_342 _ (by omega)).trans hc_336
                  have hc_348 : ∀ j9 : Nat, j9 < 4 → σ_345 (5 + 10 + 2 * j9) = o7 G (5 + 10 + 2 * j9) (lN (nm1 j9)) (lN (on1 j9)) (nI (sl1 j9)) (nI (mo1 j9)) (nI (nb1 j9)) := fun j9 hj0 => (hf_342 _ (by omega)).trans (hc_337 j9 (by omega))
                  have hc_349 : ∀ j9 : Nat, j9 < 4 → σ_345 (5 + 10 + 2 * j9 + 1) = q_an G 5 (bm1 j9) := fun j9 hj0 => (hf_342 _ (by omega)).trans (hc_338 j9 (by omega))
                  have hc_350 : σ_345 5 = o0 G (5) (nI (g1 0)) (nI (g1 3)) (nI (0)) (nI (1)) (nI (0)) := (hf_342 _ (by omega)).trans hc_339
                  have hc_351 : σ_345 (5 + 8) = q_an G 10 (fun _ => 0) := (hf_342 _ (by omega)).trans hc_340
                  have hc_352 : σ_345 3 = o9 G (1) (nI (m)) (nI (x_kd f m t2)) (nI (t2)) (nI (tk_be f m t2)) (nu2) := (hf_342 _ (by omega)).trans hc_320
                  have hc_353 : σ_345 7 = o6 G (7) (nI (g2 1)) (nI (g2 2)) := (hf_342 _ (by omega)).trans hc_321
                  have hc_354 : σ_345 8 = q_an G 8 kdE_314 := (hf_342 _ (by omega)).trans hc_322
                  have hc_355 : σ_345 9 = q_an G 8 fiE_315 := (hf_342 _ (by omega)).trans hc_323
                  have hc_356 : σ_345 10 = q_an G 8 seE_316 := (hf_342 _ (by omega)).trans hc_324
                  have hc_357 : σ_345 11 = q_an G 8 tfE_317 := (hf_342 _ (by omega)).trans hc_325
                  have hc_358 : σ_345 12 = q_an G 8 tsE_318 := (hf_342 _ (by omega)).trans hc_326
                  refine A_if_eqN (tgt := 157) hg dX3_read_150 (by decide) (by decide) (fun c150 => ?_) (fun c150 => absurd (by decide) c150)
                  refine A_iconst (v := (nI (0))) hg dX3_read_157 (by decide) ?_
                  refine A_istore_n hg dX3_read_158 rfl (by decide) (q_c1d rfl) ?_
                  refine A_eq (ls2 := [some (.ref (q_h G + 2)), some (.ref (q_h G + 1)), some (.int (nI (m))), some (.int (nI (0))), some (.int (nI (i)))]) (st2 := []) (pc2 := 0) rfl rfl ?_
                  refine A_iincN (k' := 1) hg dX3_read_159 (by decide) rfl (by decide) (q_c1d rfl) ?_
                  refine A_eq (ls2 := [some (.ref (q_h G + 2)), some (.ref (q_h G + 1)), some (.int (nI (m))), some (.int (nI (0))), some (.int (nI (i + 1)))]) (st2 := []) (pc2 := 0) rfl rfl ?_
                  refine A_goto (tgt := 36) hg dX3_read_162 (by decide) ?_
                  refine A_iload hg dX3_read_36 rfl ?_
                  refine A_iload_n hg dX3_read_38 rfl rfl ?_
                  refine A_icmp_geN (tgt := 165) hg dX3_read_39 (by omega) (by omega) (by decide) (fun c39 => ?_) (fun c39 => ?_)
                  · skip
                    refine A_iload_n hg dX3_read_165 rfl rfl ?_
                    refine A_if_eqN (tgt := 185) hg dX3_read_166 (by decide) (by decide) (fun c166 => ?_) (fun c166 => absurd (by decide) c166)
                    refine A_aload_n hg dX3_read_185 rfl rfl ?_
                    refine A_getf (v := .int (nI (1))) hg fl_RX3_29 dX3_read_186 hc_341 (by omega) rfl ?_
                    rw [hQ]
                    exact A_ireturn hg (by decide) (by decide) rfl dX3_read_189 ⟨rfl, Or.inl (⟨1, t2, ft1, (nI (x_kd f m t2)), (nI (t2)), (nI (tk_be f m t2)), (nu2), (g1 0), (g1 3), nm1, on1, sl1, mo1, nb1, bm1, (g2 1), (g2 2), kdE_314, fiE_315, seE_316, tfE_317, tsE_318, rfl, (hRL.trans (rd_t_fu (by omega) (rd_t_x hkd ((rd_m_d c65 c85).trans hR2) hk3))), (by first | assumption | decide), hc_341, hc_352, hc_350, hc_348, hc_349, hc_353, hc_354, hc_355, hc_356, hc_357, hc_358, hc_351, (fun i hi => ((hf_342 i (by omega)).trans ((hf_327 i (by omega)).trans (hf_96 i (by omega)))))⟩)⟩
                  · skip
                    refine A_iload_n hg dX3_read_42 rfl rfl ?_
                    refine A_if_eqN (tgt := 165) hg dX3_read_43 (by decide) (by decide) (fun c43 => ?_) (fun c43 => absurd (by decide) c43)
                    refine A_iload_n hg dX3_read_165 rfl rfl ?_
                    refine A_if_eqN (tgt := 185) hg dX3_read_166 (by decide) (by decide) (fun c166 => ?_) (fun c166 => absurd (by decide) c166)
                    refine A_aload_n hg dX3_read_185 rfl rfl ?_
                    refine A_getf (v := .int (nI (1))) hg fl_RX3_29 dX3_read_186 hc_341 (by omega) rfl ?_
                    rw [hQ]
                    exact A_ireturn hg (by decide) (by decide) rfl dX3_read_189 ⟨rfl, Or.inl (⟨1, t2, ft1, (nI (x_kd f m t2)), (nI (t2)), (nI (tk_be f m t2)), (nu2), (g1 0), (g1 3), nm1, on1, sl1, mo1, nb1, bm1, (g2 1), (g2 2), kdE_314, fiE_315, seE_316, tfE_317, tsE_318, rfl, (hRL.trans (rd_t_fu (by omega) (rd_t_x hkd ((rd_m_d c65 c85).trans hR2) hk3))), (by first | assumption | decide), hc_341, hc_352, hc_350, hc_348, hc_349, hc_353, hc_354, hc_355, hc_356, hc_357, hc_358, hc_351, (fun i hi => ((hf_342 i (by omega)).trans ((hf_327 i (by omega)).trans (hf_96 i (by omega)))))⟩)⟩
                · skip
                  refine (?_ : AJ G K Q 0 0 ex n 150 [some (.ref (q_h G + 2)), some (.ref (q_h G + 1)), some (.int (nI (m))), some (.int (nI (1))), some (.int (nI (i)))] [.int (nI (1))] σ_345)
                  have hc_359 : σ_345 1 = q_an G 600 f := (hf_344 _ (by omega)).trans hc_335
                  have hc_360 : σ_345 6 = q_rn G 3 4 (fun j => some (5 + 10 + 2 * j)) := (hf_344 _ (by omega)).trans hc_336
                  have hc_361 : ∀ j9 : Nat, j9 < 4 → σ_345 (5 + 10 + 2 * j9) = o7 G (5 + 10 + 2 * j9) (lN (nm1 j9)) (lN (on1 j9)) (nI (sl1 j9)) (nI (mo1 j9)) (nI (nb1 j9)) := fun j9 hj0 => (hf_344 _ (by omega)).trans (hc_337 j9 (by omega))
                  have hc_362 : ∀ j9 : Nat, j9 < 4 → σ_345 (5 + 10 + 2 * j9 + 1) = q_an G 5 (bm1 j9) := fun j9 hj0 => (hf_344 _ (by omega)).trans (hc_338 j9 (by omega))
                  have hc_363 : σ_345 5 = o0 G (5) (nI (g1 0)) (nI (g1 3)) (nI (0)) (nI (1)) (nI (0)) := (hf_344 _ (by omega)).trans hc_339
                  have hc_364 : σ_345 (5 + 8) = q_an G 10 (fun _ => 0) := (hf_344 _ (by omega)).trans hc_340
                  have hc_365 : σ_345 2 = o3 G (2) (nI (ft1)) (nI (0)) (q_d (0)) := (hf_344 _ (by omega)).trans hc_319
                  have hc_366 : σ_345 7 = o6 G (7) (nI (g2 1)) (nI (g2 2)) := (hf_344 _ (by omega)).trans hc_321
                  have hc_367 : σ_345 8 = q_an G 8 kdE_314 := (hf_344 _ (by omega)).trans hc_322
                  have hc_368 : σ_345 9 = q_an G 8 fiE_315 := (hf_344 _ (by omega)).trans hc_323
                  have hc_369 : σ_345 10 = q_an G 8 seE_316 := (hf_344 _ (by omega)).trans hc_324
                  have hc_370 : σ_345 11 = q_an G 8 tfE_317 := (hf_344 _ (by omega)).trans hc_325
                  have hc_371 : σ_345 12 = q_an G 8 tsE_318 := (hf_344 _ (by omega)).trans hc_326
                  refine A_if_eqN (tgt := 157) hg dX3_read_150 (by decide) (by decide) (fun c150 => absurd c150 (by decide)) (fun c150 => ?_)
                  refine A_iconst (v := (nI (1))) hg dX3_read_153 (by decide) ?_
                  refine A_goto (tgt := 158) hg dX3_read_154 (by decide) ?_
                  have qj := rd_d_parts hR2
                  have q0 := qj 0 (by decide) (by decide)
                  have q3 := qj 3 (by decide) (by decide)
                  have hrlN := x_rl_same hinv1.1 q0 (fun j h1 h2 => qj j h2 (by omega)) hrl1
                  have hxpN := hxp3
                  have htpN := htp3
                  have hc_372 : σ_345 5 = o0 G (5) (nI (g2 0)) (nI (g2 3)) (nI (0)) (nI (1)) (nI (0)) := hc_363.trans (by rw [q0, q3])
                  have hinvN := rd_m_inv (u := ft1) hinv1 ((rd_m_d c65 c85).trans hR2)
                  have hkN := rd_m_k (u := ft1) hinv1 hk1 ((rd_m_d c65 c85).trans hR2)
                  refine A_istore_n hg dX3_read_158 rfl (by decide) (q_c1d rfl) ?_
                  refine A_eq (ls2 := [some (.ref (q_h G + 2)), some (.ref (q_h G + 1)), some (.int (nI (m))), some (.int (nI (1))), some (.int (nI (i)))]) (st2 := []) (pc2 := 0) rfl rfl ?_
                  refine A_iincN (k' := 1) hg dX3_read_159 (by decide) rfl (by decide) (q_c1d rfl) ?_
                  refine A_eq (ls2 := [some (.ref (q_h G + 2)), some (.ref (q_h G + 1)), some (.int (nI (m))), some (.int (nI (1))), some (.int (nI (i + 1)))]) (st2 := []) (pc2 := 0) rfl rfl ?_
                  refine A_goto (tgt := 36) hg dX3_read_162 (by decide) ?_
                  exact ih36 (i + 1) g2 t3 nu4 ft1 nm1 on1 sl1 mo1 nb1 bm1 kdE_314 fiE_315 seE_316 tfE_317 tsE_318 σ_345 hc_359 hc_360 hc_367 hc_368 hc_369 hc_370 hc_371 hc_361 hc_362 hc_372 hc_366 hc_364 hc_365 hc_343 (fun i hi => ((hf_344 i (by omega)).trans ((hf_327 i (by omega)).trans (hf_96 i (by omega))))) (by have h1 := tk_be_3 hk3; have h2 := tk_st_ge f m (tk_be f m t2); have h3 : t3 = tk_st f m (tk_be f m t2) := ht3; have h4 := rd_m_ge (u := ft1) ((rd_m_d c65 c85).trans hR2); omega) htm3 (by omega) (hRL.trans (rd_t_fu (by omega) ((rd_t_g hkd ((rd_m_d c65 c85).trans hR2) hk3 (rd_u_0 (tk_wd_not c85 (by decide))) ht3).trans (by rw [show m + 1 - (i + 1) = m - i by omega])))) hinvN hkN hrlN hxpN htpN hnu3 (by omega)
          · skip
            refine A_aload_n hg dX3_read_68 rfl rfl ?_
            refine A_hV (kc2 := 0) (ks2 := 0) (As := []) (rest := []) hg lk_RX3_52 in_X3_readRule se_X3_readRule rfl dX3_read_69 ⟨by decide, by decide⟩ rfl rfl ⟨by decide, by decide⟩ hc_94 (by omega) rfl rfl (Nat.le_of_ble_eq_true rfl) (c_X3_readRule G ex n σ_81 f m t1 nu1 ft1 g1 (g1 3) 0 1 0 nm1 on1 sl1 mo1 nb1 bm1 hc_94 hc_95 hc_82 hc_91 hc_83 hc_89 hc_90 (by omega) hm6 hbb htm1 hnu1 hinv1 hrl1) ?_
            rintro _ σ_415 (⟨c_373, t2, kd2_374, st2_375, be2_376, nu2, rm2_377, nm2_378, on2_379, sl2_380, mo2_381, nb2_382, bm2_383, rfl, hR2, hc02, hc_384, hc_385, hc_386, hc_387, hc_388, hf_389⟩ | ⟨g2, t2, nu2, nm2_390, on2_391, sl2_392, mo2_393, nb2_394, bm2_395, rfl, hR2, hrl3, htm2, hnu2, hc_396, hc_397, hc_398, hc_399, hc_400, hf_401⟩ | ⟨t2, nu2, rm2_402, nm2_403, on2_404, sl2_405, mo2_406, nb2_407, bm2_408, rfl, hR2, hk42, htm2, hnu2, hc_409, hc_410, hc_411, hc_412, hc_413, hf_414⟩)
            · skip
              refine (?_ : AJ G K Q 0 0 ex n 72 [some (.ref (q_h G + 2)), some (.ref (q_h G + 1)), some (.int (nI (m))), some (.int (nI (1))), some (.int (nI (i)))] [.int (nI (0))] σ_415)
              have hc_416 : σ_415 1 = q_an G 600 f := (hf_389 _ (by omega)).trans hc_82
              have hc_417 : σ_415 6 = q_rn G 3 4 (fun j => some (5 + 10 + 2 * j)) := (hf_389 _ (by omega)).trans hc_83
              have hc_418 : σ_415 (7 + 1) = q_an G 8 kd1 := (hf_389 _ (by omega)).trans hc_84
              have hc_419 : σ_415 (7 + 2) = q_an G 8 fi1 := (hf_389 _ (by omega)).trans hc_85
              have hc_420 : σ_415 (7 + 3) = q_an G 8 se1 := (hf_389 _ (by omega)).trans hc_86
              have hc_421 : σ_415 (7 + 4) = q_an G 8 tf1 := (hf_389 _ (by omega)).trans hc_87
              have hc_422 : σ_415 (7 + 5) = q_an G 8 ts1 := (hf_389 _ (by omega)).trans hc_88
              have hc_423 : σ_415 (5 + 2) = o6 G (7) (nI (g1 1)) (nI (g1 2)) := (hf_389 _ (by omega)).trans hc_92
              have hc_424 : σ_415 (5 + 8) = q_an G 10 (fun _ => 0) := (hf_389 _ (by omega)).trans hc_93
              refine A_istore_n hg dX3_read_72 rfl (by decide) (q_c1d rfl) ?_
              refine A_eq (ls2 := [some (.ref (q_h G + 2)), some (.ref (q_h G + 1)), some (.int (nI (m))), some (.int (nI (0))), some (.int (nI (i)))]) (st2 := []) (pc2 := 0) rfl rfl ?_
              refine A_goto (tgt := 142) hg dX3_read_73 (by decide) ?_
              refine A_iload_n hg dX3_read_142 rfl rfl ?_
              refine A_if_eqN (tgt := 157) hg dX3_read_143 (by decide) (by decide) (fun c143 => ?_) (fun c143 => absurd (by decide) c143)
              refine A_iconst (v := (nI (0))) hg dX3_read_157 (by decide) ?_
              refine A_istore_n hg dX3_read_158 rfl (by decide) (q_c1d rfl) ?_
              refine A_eq (ls2 := [some (.ref (q_h G + 2)), some (.ref (q_h G + 1)), some (.int (nI (m))), some (.int (nI (0))), some (.int (nI (i)))]) (st2 := []) (pc2 := 0) rfl rfl ?_
              refine A_iincN (k' := 1) hg dX3_read_159 (by decide) rfl (by decide) (q_c1d rfl) ?_
              refine A_eq (ls2 := [some (.ref (q_h G + 2)), some (.ref (q_h G + 1)), some (.int (nI (m))), some (.int (nI (0))), some (.int (nI (i + 1)))]) (st2 := []) (pc2 := 0) rfl rfl ?_
              refine A_goto (tgt := 36) hg dX3_read_162 (by decide) ?_
              refine A_iload hg dX3_read_36 rfl ?_
              refine A_iload_n hg dX3_read_38 rfl rfl ?_
              refine A_icmp_geN (tgt := 165) hg dX3_read_39 (by omega) (by omega) (by decide) (fun c39 => ?_) (fun c39 => ?_)
              · skip
                refine A_iload_n hg dX3_read_165 rfl rfl ?_
                refine A_if_eqN (tgt := 185) hg dX3_read_166 (by decide) (by decide) (fun c166 => ?_) (fun c166 => absurd (by decide) c166)
                refine A_aload_n hg dX3_read_185 rfl rfl ?_
                refine A_getf (v := .int (nI (c_373))) hg fl_RX3_29 dX3_read_186 hc_384 (by omega) rfl ?_
                rw [hQ]
                exact A_ireturn hg (by decide) (by decide) rfl dX3_read_189 ⟨rfl, Or.inl (⟨c_373, t2, ft1, (kd2_374), (st2_375), (be2_376), (nu2), (rm2_377), (g1 3), nm2_378, on2_379, sl2_380, mo2_381, nb2_382, bm2_383, (g1 1), (g1 2), kd1, fi1, se1, tf1, ts1, rfl, (hRL.trans (rd_t_fu (by omega) (rd_t_e hkd ((rd_m_r c65).trans hR2)))), (by first | assumption | decide), hc_384, hc_385, hc_386, hc_387, hc_388, hc_423, hc_418, hc_419, hc_420, hc_421, hc_422, hc_424, (fun i hi => ((hf_389 i (by omega)).trans (hf_96 i (by omega))))⟩)⟩
              · skip
                refine A_iload_n hg dX3_read_42 rfl rfl ?_
                refine A_if_eqN (tgt := 165) hg dX3_read_43 (by decide) (by decide) (fun c43 => ?_) (fun c43 => absurd (by decide) c43)
                refine A_iload_n hg dX3_read_165 rfl rfl ?_
                refine A_if_eqN (tgt := 185) hg dX3_read_166 (by decide) (by decide) (fun c166 => ?_) (fun c166 => absurd (by decide) c166)
                refine A_aload_n hg dX3_read_185 rfl rfl ?_
                refine A_getf (v := .int (nI (c_373))) hg fl_RX3_29 dX3_read_186 hc_384 (by omega) rfl ?_
                rw [hQ]
                exact A_ireturn hg (by decide) (by decide) rfl dX3_read_189 ⟨rfl, Or.inl (⟨c_373, t2, ft1, (kd2_374), (st2_375), (be2_376), (nu2), (rm2_377), (g1 3), nm2_378, on2_379, sl2_380, mo2_381, nb2_382, bm2_383, (g1 1), (g1 2), kd1, fi1, se1, tf1, ts1, rfl, (hRL.trans (rd_t_fu (by omega) (rd_t_e hkd ((rd_m_r c65).trans hR2)))), (by first | assumption | decide), hc_384, hc_385, hc_386, hc_387, hc_388, hc_423, hc_418, hc_419, hc_420, hc_421, hc_422, hc_424, (fun i hi => ((hf_389 i (by omega)).trans (hf_96 i (by omega))))⟩)⟩
            · skip
              refine (?_ : AJ G K Q 0 0 ex n 72 [some (.ref (q_h G + 2)), some (.ref (q_h G + 1)), some (.int (nI (m))), some (.int (nI (1))), some (.int (nI (i)))] [.int (nI (1))] σ_415)
              have hc_425 : σ_415 1 = q_an G 600 f := (hf_401 _ (by omega)).trans hc_82
              have hc_426 : σ_415 6 = q_rn G 3 4 (fun j => some (5 + 10 + 2 * j)) := (hf_401 _ (by omega)).trans hc_83
              have hc_427 : σ_415 (7 + 1) = q_an G 8 kd1 := (hf_401 _ (by omega)).trans hc_84
              have hc_428 : σ_415 (7 + 2) = q_an G 8 fi1 := (hf_401 _ (by omega)).trans hc_85
              have hc_429 : σ_415 (7 + 3) = q_an G 8 se1 := (hf_401 _ (by omega)).trans hc_86
              have hc_430 : σ_415 (7 + 4) = q_an G 8 tf1 := (hf_401 _ (by omega)).trans hc_87
              have hc_431 : σ_415 (7 + 5) = q_an G 8 ts1 := (hf_401 _ (by omega)).trans hc_88
              have hc_432 : σ_415 (5 + 2) = o6 G (7) (nI (g1 1)) (nI (g1 2)) := (hf_401 _ (by omega)).trans hc_92
              have hc_433 : σ_415 (5 + 8) = q_an G 10 (fun _ => 0) := (hf_401 _ (by omega)).trans hc_93
              refine A_istore_n hg dX3_read_72 rfl (by decide) (q_c1d rfl) ?_
              refine A_eq (ls2 := [some (.ref (q_h G + 2)), some (.ref (q_h G + 1)), some (.int (nI (m))), some (.int (nI (1))), some (.int (nI (i)))]) (st2 := []) (pc2 := 0) rfl rfl ?_
              refine A_goto (tgt := 142) hg dX3_read_73 (by decide) ?_
              refine A_iload_n hg dX3_read_142 rfl rfl ?_
              refine A_if_eqN (tgt := 157) hg dX3_read_143 (by decide) (by decide) (fun c143 => absurd c143 (by decide)) (fun c143 => ?_)
              refine A_aload_n hg dX3_read_146 rfl rfl ?_
              refine A_hV (kc2 := 0) (ks2 := 0) (As := []) (rest := []) hg lk_RX3_75 in_X3_readSemicolon se_X3_readSemicolon rfl dX3_read_147 ⟨by decide, by decide⟩ rfl rfl ⟨by decide, by decide⟩ hc_396 (by omega) rfl rfl (Nat.le_of_ble_eq_true rfl) (c_X3_readSemicolon G ex n σ_415 f m t2 nu2 ft1 hc_396 hc_397 hc_425 (by omega) hm6 hbb htm2 hnu2) ?_
              rintro _ σ_438 (⟨rfl, hk3, hc_434, hf_435⟩ | ⟨t3, nu4, rfl, hk3, ht3, htm3, hnu3, hc_436, hf_437⟩)
              · skip
                refine (?_ : AJ G K Q 0 0 ex n 150 [some (.ref (q_h G + 2)), some (.ref (q_h G + 1)), some (.int (nI (m))), some (.int (nI (1))), some (.int (nI (i)))] [.int (nI (0))] σ_438)
                have hc_439 : σ_438 1 = q_an G 600 f := (hf_435 _ (by omega)).trans hc_425
                have hc_440 : σ_438 6 = q_rn G 3 4 (fun j => some (5 + 10 + 2 * j)) := (hf_435 _ (by omega)).trans hc_426
                have hc_441 : σ_438 (7 + 1) = q_an G 8 kd1 := (hf_435 _ (by omega)).trans hc_427
                have hc_442 : σ_438 (7 + 2) = q_an G 8 fi1 := (hf_435 _ (by omega)).trans hc_428
                have hc_443 : σ_438 (7 + 3) = q_an G 8 se1 := (hf_435 _ (by omega)).trans hc_429
                have hc_444 : σ_438 (7 + 4) = q_an G 8 tf1 := (hf_435 _ (by omega)).trans hc_430
                have hc_445 : σ_438 (7 + 5) = q_an G 8 ts1 := (hf_435 _ (by omega)).trans hc_431
                have hc_446 : σ_438 (5 + 2) = o6 G (7) (nI (g1 1)) (nI (g1 2)) := (hf_435 _ (by omega)).trans hc_432
                have hc_447 : σ_438 (5 + 8) = q_an G 10 (fun _ => 0) := (hf_435 _ (by omega)).trans hc_433
                have hc_448 : σ_438 3 = o9 G (1) (nI (m)) (nI (x_kd f m t2)) (nI (t2)) (nI (tk_be f m t2)) (nu2) := (hf_435 _ (by omega)).trans hc_397
                have hc_449 : σ_438 5 = o0 G (5) (nI (g2 0)) (nI (g1 3)) (nI (0)) (nI (1)) (nI (0)) := (hf_435 _ (by omega)).trans hc_398
                have hc_450 : ∀ j9 : Nat, j9 < 4 → σ_438 (5 + 10 + 2 * j9) = o7 G (5 + 10 + 2 * j9) (lN (nm2_390 j9)) (lN (on2_391 j9)) (nI (sl2_392 j9)) (nI (mo2_393 j9)) (nI (nb2_394 j9)) := fun j9 hj0 => (hf_435 _ (by omega)).trans (hc_399 j9 (by omega))
                have hc_451 : ∀ j9 : Nat, j9 < 4 → σ_438 (5 + 10 + 2 * j9 + 1) = q_an G 5 (bm2_395 j9) := fun j9 hj0 => (hf_435 _ (by omega)).trans (hc_400 j9 (by omega))
                refine A_if_eqN (tgt := 157) hg dX3_read_150 (by decide) (by decide) (fun c150 => ?_) (fun c150 => absurd (by decide) c150)
                refine A_iconst (v := (nI (0))) hg dX3_read_157 (by decide) ?_
                refine A_istore_n hg dX3_read_158 rfl (by decide) (q_c1d rfl) ?_
                refine A_eq (ls2 := [some (.ref (q_h G + 2)), some (.ref (q_h G + 1)), some (.int (nI (m))), some (.int (nI (0))), some (.int (nI (i)))]) (st2 := []) (pc2 := 0) rfl rfl ?_
                refine A_iincN (k' := 1) hg dX3_read_159 (by decide) rfl (by decide) (q_c1d rfl) ?_
                refine A_eq (ls2 := [some (.ref (q_h G + 2)), some (.ref (q_h G + 1)), some (.int (nI (m))), some (.int (nI (0))), some (.int (nI (i + 1)))]) (st2 := []) (pc2 := 0) rfl rfl ?_
                refine A_goto (tgt := 36) hg dX3_read_162 (by decide) ?_
                refine A_iload hg dX3_read_36 rfl ?_
                refine A_iload_n hg dX3_read_38 rfl rfl ?_
                refine A_icmp_geN (tgt := 165) hg dX3_read_39 (by omega) (by omega) (by decide) (fun c39 => ?_) (fun c39 => ?_)
                · skip
                  refine A_iload_n hg dX3_read_165 rfl rfl ?_
                  refine A_if_eqN (tgt := 185) hg dX3_read_166 (by decide) (by decide) (fun c166 => ?_) (fun c166 => absurd (by decide) c166)
                  refine A_aload_n hg dX3_read_185 rfl rfl ?_
                  refine A_getf (v := .int (nI (1))) hg fl_RX3_29 dX3_read_186 hc_434 (by omega) rfl ?_
                  rw [hQ]
                  exact A_ireturn hg (by decide) (by decide) rfl dX3_read_189 ⟨rfl, Or.inl (⟨1, t2, ft1, (nI (x_kd f m t2)), (nI (t2)), (nI (tk_be f m t2)), (nu2), (g2 0), (g1 3), nm2_390, on2_391, sl2_392, mo2_393, nb2_394, bm2_395, (g1 1), (g1 2), kd1, fi1, se1, tf1, ts1, rfl, (hRL.trans (rd_t_fu (by omega) (rd_t_x hkd ((rd_m_r c65).trans hR2) hk3))), (by first | assumption | decide), hc_434, hc_448, hc_449, hc_450, hc_451, hc_446, hc_441, hc_442, hc_443, hc_444, hc_445, hc_447, (fun i hi => ((hf_435 i (by omega)).trans ((hf_401 i (by omega)).trans (hf_96 i (by omega)))))⟩)⟩
                · skip
                  refine A_iload_n hg dX3_read_42 rfl rfl ?_
                  refine A_if_eqN (tgt := 165) hg dX3_read_43 (by decide) (by decide) (fun c43 => ?_) (fun c43 => absurd (by decide) c43)
                  refine A_iload_n hg dX3_read_165 rfl rfl ?_
                  refine A_if_eqN (tgt := 185) hg dX3_read_166 (by decide) (by decide) (fun c166 => ?_) (fun c166 => absurd (by decide) c166)
                  refine A_aload_n hg dX3_read_185 rfl rfl ?_
                  refine A_getf (v := .int (nI (1))) hg fl_RX3_29 dX3_read_186 hc_434 (by omega) rfl ?_
                  rw [hQ]
                  exact A_ireturn hg (by decide) (by decide) rfl dX3_read_189 ⟨rfl, Or.inl (⟨1, t2, ft1, (nI (x_kd f m t2)), (nI (t2)), (nI (tk_be f m t2)), (nu2), (g2 0), (g1 3), nm2_390, on2_391, sl2_392, mo2_393, nb2_394, bm2_395, (g1 1), (g1 2), kd1, fi1, se1, tf1, ts1, rfl, (hRL.trans (rd_t_fu (by omega) (rd_t_x hkd ((rd_m_r c65).trans hR2) hk3))), (by first | assumption | decide), hc_434, hc_448, hc_449, hc_450, hc_451, hc_446, hc_441, hc_442, hc_443, hc_444, hc_445, hc_447, (fun i hi => ((hf_435 i (by omega)).trans ((hf_401 i (by omega)).trans (hf_96 i (by omega)))))⟩)⟩
              · skip
                refine (?_ : AJ G K Q 0 0 ex n 150 [some (.ref (q_h G + 2)), some (.ref (q_h G + 1)), some (.int (nI (m))), some (.int (nI (1))), some (.int (nI (i)))] [.int (nI (1))] σ_438)
                have hc_452 : σ_438 1 = q_an G 600 f := (hf_437 _ (by omega)).trans hc_425
                have hc_453 : σ_438 6 = q_rn G 3 4 (fun j => some (5 + 10 + 2 * j)) := (hf_437 _ (by omega)).trans hc_426
                have hc_454 : σ_438 (7 + 1) = q_an G 8 kd1 := (hf_437 _ (by omega)).trans hc_427
                have hc_455 : σ_438 (7 + 2) = q_an G 8 fi1 := (hf_437 _ (by omega)).trans hc_428
                have hc_456 : σ_438 (7 + 3) = q_an G 8 se1 := (hf_437 _ (by omega)).trans hc_429
                have hc_457 : σ_438 (7 + 4) = q_an G 8 tf1 := (hf_437 _ (by omega)).trans hc_430
                have hc_458 : σ_438 (7 + 5) = q_an G 8 ts1 := (hf_437 _ (by omega)).trans hc_431
                have hc_459 : σ_438 (5 + 2) = o6 G (7) (nI (g1 1)) (nI (g1 2)) := (hf_437 _ (by omega)).trans hc_432
                have hc_460 : σ_438 (5 + 8) = q_an G 10 (fun _ => 0) := (hf_437 _ (by omega)).trans hc_433
                have hc_461 : σ_438 2 = o3 G (2) (nI (ft1)) (nI (0)) (q_d (0)) := (hf_437 _ (by omega)).trans hc_396
                have hc_462 : σ_438 5 = o0 G (5) (nI (g2 0)) (nI (g1 3)) (nI (0)) (nI (1)) (nI (0)) := (hf_437 _ (by omega)).trans hc_398
                have hc_463 : ∀ j9 : Nat, j9 < 4 → σ_438 (5 + 10 + 2 * j9) = o7 G (5 + 10 + 2 * j9) (lN (nm2_390 j9)) (lN (on2_391 j9)) (nI (sl2_392 j9)) (nI (mo2_393 j9)) (nI (nb2_394 j9)) := fun j9 hj0 => (hf_437 _ (by omega)).trans (hc_399 j9 (by omega))
                have hc_464 : ∀ j9 : Nat, j9 < 4 → σ_438 (5 + 10 + 2 * j9 + 1) = q_an G 5 (bm2_395 j9) := fun j9 hj0 => (hf_437 _ (by omega)).trans (hc_400 j9 (by omega))
                refine A_if_eqN (tgt := 157) hg dX3_read_150 (by decide) (by decide) (fun c150 => absurd c150 (by decide)) (fun c150 => ?_)
                refine A_iconst (v := (nI (1))) hg dX3_read_153 (by decide) ?_
                refine A_goto (tgt := 158) hg dX3_read_154 (by decide) ?_
                obtain ⟨q1, q2, q3, q4⟩ := rd_r_parts hinv1 hR2
                have hrlN := hrl3
                have hxpN := x_p_same q1 q2 hinv1.1.2.1 hinv1.1.2.2.1 (fun j h1 h2 => q4 j h1) hxp1
                have htpN := x_tp_same q1 q2 hinv1.1.2.1 hinv1.1.2.2.1 (fun j h1 h2 => q4 j h1) htp1
                have hc_465 : σ_438 5 = o0 G (5) (nI (g2 0)) (nI (g2 3)) (nI (0)) (nI (1)) (nI (0)) := hc_462.trans (by rw [q3])
                have hc_466 : σ_438 (5 + 2) = o6 G (7) (nI (g2 1)) (nI (g2 2)) := hc_459.trans (by rw [q1, q2])
                have hinvN := rd_m_inv (u := ft1) hinv1 ((rd_m_r c65).trans hR2)
                have hkN := rd_m_k (u := ft1) hinv1 hk1 ((rd_m_r c65).trans hR2)
                refine A_istore_n hg dX3_read_158 rfl (by decide) (q_c1d rfl) ?_
                refine A_eq (ls2 := [some (.ref (q_h G + 2)), some (.ref (q_h G + 1)), some (.int (nI (m))), some (.int (nI (1))), some (.int (nI (i)))]) (st2 := []) (pc2 := 0) rfl rfl ?_
                refine A_iincN (k' := 1) hg dX3_read_159 (by decide) rfl (by decide) (q_c1d rfl) ?_
                refine A_eq (ls2 := [some (.ref (q_h G + 2)), some (.ref (q_h G + 1)), some (.int (nI (m))), some (.int (nI (1))), some (.int (nI (i + 1)))]) (st2 := []) (pc2 := 0) rfl rfl ?_
                refine A_goto (tgt := 36) hg dX3_read_162 (by decide) ?_
                exact ih36 (i + 1) g2 t3 nu4 ft1 nm2_390 on2_391 sl2_392 mo2_393 nb2_394 bm2_395 kd1 fi1 se1 tf1 ts1 σ_438 hc_452 hc_453 hc_454 hc_455 hc_456 hc_457 hc_458 hc_463 hc_464 hc_465 hc_466 hc_460 hc_461 hc_436 (fun i hi => ((hf_437 i (by omega)).trans ((hf_401 i (by omega)).trans (hf_96 i (by omega))))) (by have h1 := tk_be_3 hk3; have h2 := tk_st_ge f m (tk_be f m t2); have h3 : t3 = tk_st f m (tk_be f m t2) := ht3; have h4 := rd_m_ge (u := ft1) ((rd_m_r c65).trans hR2); omega) htm3 (by omega) (hRL.trans (rd_t_fu (by omega) ((rd_t_g hkd ((rd_m_r c65).trans hR2) hk3 (rd_u_0 (tk_wd_not c65 (by decide))) ht3).trans (by rw [show m + 1 - (i + 1) = m - i by omega])))) hinvN hkN hrlN hxpN htpN hnu3 (by omega)
            · skip
              refine (?_ : AJ G K Q 0 0 ex n 72 [some (.ref (q_h G + 2)), some (.ref (q_h G + 1)), some (.int (nI (m))), some (.int (nI (1))), some (.int (nI (i)))] [.int (nI (1))] σ_415)
              have hc_467 : σ_415 1 = q_an G 600 f := (hf_414 _ (by omega)).trans hc_82
              have hc_468 : σ_415 6 = q_rn G 3 4 (fun j => some (5 + 10 + 2 * j)) := (hf_414 _ (by omega)).trans hc_83
              have hc_469 : σ_415 (7 + 1) = q_an G 8 kd1 := (hf_414 _ (by omega)).trans hc_84
              have hc_470 : σ_415 (7 + 2) = q_an G 8 fi1 := (hf_414 _ (by omega)).trans hc_85
              have hc_471 : σ_415 (7 + 3) = q_an G 8 se1 := (hf_414 _ (by omega)).trans hc_86
              have hc_472 : σ_415 (7 + 4) = q_an G 8 tf1 := (hf_414 _ (by omega)).trans hc_87
              have hc_473 : σ_415 (7 + 5) = q_an G 8 ts1 := (hf_414 _ (by omega)).trans hc_88
              have hc_474 : σ_415 (5 + 2) = o6 G (7) (nI (g1 1)) (nI (g1 2)) := (hf_414 _ (by omega)).trans hc_92
              have hc_475 : σ_415 (5 + 8) = q_an G 10 (fun _ => 0) := (hf_414 _ (by omega)).trans hc_93
              refine A_istore_n hg dX3_read_72 rfl (by decide) (q_c1d rfl) ?_
              refine A_eq (ls2 := [some (.ref (q_h G + 2)), some (.ref (q_h G + 1)), some (.int (nI (m))), some (.int (nI (1))), some (.int (nI (i)))]) (st2 := []) (pc2 := 0) rfl rfl ?_
              refine A_goto (tgt := 142) hg dX3_read_73 (by decide) ?_
              refine A_iload_n hg dX3_read_142 rfl rfl ?_
              refine A_if_eqN (tgt := 157) hg dX3_read_143 (by decide) (by decide) (fun c143 => absurd c143 (by decide)) (fun c143 => ?_)
              refine A_aload_n hg dX3_read_146 rfl rfl ?_
              refine A_hV (kc2 := 0) (ks2 := 0) (As := []) (rest := []) hg lk_RX3_75 in_X3_readSemicolon se_X3_readSemicolon rfl dX3_read_147 ⟨by decide, by decide⟩ rfl rfl ⟨by decide, by decide⟩ hc_410 (by omega) rfl rfl (Nat.le_of_ble_eq_true rfl) (c_X3_readSemicolon G ex n σ_415 f m t2 nu2 ft1 hc_410 hc_409 hc_467 (by omega) hm6 hbb htm2 hnu2) ?_
              rintro _ σ_480 (⟨rfl, hk3, hc_476, hf_477⟩ | ⟨t3, nu4, rfl, hk3, ht3, htm3, hnu3, hc_478, hf_479⟩)
              · skip
                refine (?_ : AJ G K Q 0 0 ex n 150 [some (.ref (q_h G + 2)), some (.ref (q_h G + 1)), some (.int (nI (m))), some (.int (nI (1))), some (.int (nI (i)))] [.int (nI (0))] σ_480)
                have hc_481 : σ_480 1 = q_an G 600 f := (hf_477 _ (by omega)).trans hc_467
                have hc_482 : σ_480 6 = q_rn G 3 4 (fun j => some (5 + 10 + 2 * j)) := (hf_477 _ (by omega)).trans hc_468
                have hc_483 : σ_480 (7 + 1) = q_an G 8 kd1 := (hf_477 _ (by omega)).trans hc_469
                have hc_484 : σ_480 (7 + 2) = q_an G 8 fi1 := (hf_477 _ (by omega)).trans hc_470
                have hc_485 : σ_480 (7 + 3) = q_an G 8 se1 := (hf_477 _ (by omega)).trans hc_471
                have hc_486 : σ_480 (7 + 4) = q_an G 8 tf1 := (hf_477 _ (by omega)).trans hc_472
                have hc_487 : σ_480 (7 + 5) = q_an G 8 ts1 := (hf_477 _ (by omega)).trans hc_473
                have hc_488 : σ_480 (5 + 2) = o6 G (7) (nI (g1 1)) (nI (g1 2)) := (hf_477 _ (by omega)).trans hc_474
                have hc_489 : σ_480 (5 + 8) = q_an G 10 (fun _ => 0) := (hf_477 _ (by omega)).trans hc_475
                have hc_490 : σ_480 3 = o9 G (1) (nI (m)) (nI (x_kd f m t2)) (nI (t2)) (nI (tk_be f m t2)) (nu2) := (hf_477 _ (by omega)).trans hc_409
                have hc_491 : σ_480 5 = o0 G (5) (nI (rm2_402)) (nI (g1 3)) (nI (0)) (nI (1)) (nI (0)) := (hf_477 _ (by omega)).trans hc_411
                have hc_492 : ∀ j9 : Nat, j9 < 4 → σ_480 (5 + 10 + 2 * j9) = o7 G (5 + 10 + 2 * j9) (lN (nm2_403 j9)) (lN (on2_404 j9)) (nI (sl2_405 j9)) (nI (mo2_406 j9)) (nI (nb2_407 j9)) := fun j9 hj0 => (hf_477 _ (by omega)).trans (hc_412 j9 (by omega))
                have hc_493 : ∀ j9 : Nat, j9 < 4 → σ_480 (5 + 10 + 2 * j9 + 1) = q_an G 5 (bm2_408 j9) := fun j9 hj0 => (hf_477 _ (by omega)).trans (hc_413 j9 (by omega))
                refine A_if_eqN (tgt := 157) hg dX3_read_150 (by decide) (by decide) (fun c150 => ?_) (fun c150 => absurd (by decide) c150)
                refine A_iconst (v := (nI (0))) hg dX3_read_157 (by decide) ?_
                refine A_istore_n hg dX3_read_158 rfl (by decide) (q_c1d rfl) ?_
                refine A_eq (ls2 := [some (.ref (q_h G + 2)), some (.ref (q_h G + 1)), some (.int (nI (m))), some (.int (nI (0))), some (.int (nI (i)))]) (st2 := []) (pc2 := 0) rfl rfl ?_
                refine A_iincN (k' := 1) hg dX3_read_159 (by decide) rfl (by decide) (q_c1d rfl) ?_
                refine A_eq (ls2 := [some (.ref (q_h G + 2)), some (.ref (q_h G + 1)), some (.int (nI (m))), some (.int (nI (0))), some (.int (nI (i + 1)))]) (st2 := []) (pc2 := 0) rfl rfl ?_
                refine A_goto (tgt := 36) hg dX3_read_162 (by decide) ?_
                refine A_iload hg dX3_read_36 rfl ?_
                refine A_iload_n hg dX3_read_38 rfl rfl ?_
                refine A_icmp_geN (tgt := 165) hg dX3_read_39 (by omega) (by omega) (by decide) (fun c39 => ?_) (fun c39 => ?_)
                · skip
                  refine A_iload_n hg dX3_read_165 rfl rfl ?_
                  refine A_if_eqN (tgt := 185) hg dX3_read_166 (by decide) (by decide) (fun c166 => ?_) (fun c166 => absurd (by decide) c166)
                  refine A_aload_n hg dX3_read_185 rfl rfl ?_
                  refine A_getf (v := .int (nI (1))) hg fl_RX3_29 dX3_read_186 hc_476 (by omega) rfl ?_
                  rw [hQ]
                  exact A_ireturn hg (by decide) (by decide) rfl dX3_read_189 ⟨rfl, Or.inl (⟨1, t2, ft1, (nI (x_kd f m t2)), (nI (t2)), (nI (tk_be f m t2)), (nu2), (rm2_402), (g1 3), nm2_403, on2_404, sl2_405, mo2_406, nb2_407, bm2_408, (g1 1), (g1 2), kd1, fi1, se1, tf1, ts1, rfl, (hRL.trans (rd_t_fu (by omega) (rd_t_e hkd ((rd_m_r c65).trans hR2)))), (by first | assumption | decide), hc_476, hc_490, hc_491, hc_492, hc_493, hc_488, hc_483, hc_484, hc_485, hc_486, hc_487, hc_489, (fun i hi => ((hf_477 i (by omega)).trans ((hf_414 i (by omega)).trans (hf_96 i (by omega)))))⟩)⟩
                · skip
                  refine A_iload_n hg dX3_read_42 rfl rfl ?_
                  refine A_if_eqN (tgt := 165) hg dX3_read_43 (by decide) (by decide) (fun c43 => ?_) (fun c43 => absurd (by decide) c43)
                  refine A_iload_n hg dX3_read_165 rfl rfl ?_
                  refine A_if_eqN (tgt := 185) hg dX3_read_166 (by decide) (by decide) (fun c166 => ?_) (fun c166 => absurd (by decide) c166)
                  refine A_aload_n hg dX3_read_185 rfl rfl ?_
                  refine A_getf (v := .int (nI (1))) hg fl_RX3_29 dX3_read_186 hc_476 (by omega) rfl ?_
                  rw [hQ]
                  exact A_ireturn hg (by decide) (by decide) rfl dX3_read_189 ⟨rfl, Or.inl (⟨1, t2, ft1, (nI (x_kd f m t2)), (nI (t2)), (nI (tk_be f m t2)), (nu2), (rm2_402), (g1 3), nm2_403, on2_404, sl2_405, mo2_406, nb2_407, bm2_408, (g1 1), (g1 2), kd1, fi1, se1, tf1, ts1, rfl, (hRL.trans (rd_t_fu (by omega) (rd_t_e hkd ((rd_m_r c65).trans hR2)))), (by first | assumption | decide), hc_476, hc_490, hc_491, hc_492, hc_493, hc_488, hc_483, hc_484, hc_485, hc_486, hc_487, hc_489, (fun i hi => ((hf_477 i (by omega)).trans ((hf_414 i (by omega)).trans (hf_96 i (by omega)))))⟩)⟩
              · skip
                refine (?_ : AJ G K Q 0 0 ex n 150 [some (.ref (q_h G + 2)), some (.ref (q_h G + 1)), some (.int (nI (m))), some (.int (nI (1))), some (.int (nI (i)))] [.int (nI (1))] σ_480)
                have hc_494 : σ_480 1 = q_an G 600 f := (hf_479 _ (by omega)).trans hc_467
                have hc_495 : σ_480 6 = q_rn G 3 4 (fun j => some (5 + 10 + 2 * j)) := (hf_479 _ (by omega)).trans hc_468
                have hc_496 : σ_480 (7 + 1) = q_an G 8 kd1 := (hf_479 _ (by omega)).trans hc_469
                have hc_497 : σ_480 (7 + 2) = q_an G 8 fi1 := (hf_479 _ (by omega)).trans hc_470
                have hc_498 : σ_480 (7 + 3) = q_an G 8 se1 := (hf_479 _ (by omega)).trans hc_471
                have hc_499 : σ_480 (7 + 4) = q_an G 8 tf1 := (hf_479 _ (by omega)).trans hc_472
                have hc_500 : σ_480 (7 + 5) = q_an G 8 ts1 := (hf_479 _ (by omega)).trans hc_473
                have hc_501 : σ_480 (5 + 2) = o6 G (7) (nI (g1 1)) (nI (g1 2)) := (hf_479 _ (by omega)).trans hc_474
                have hc_502 : σ_480 (5 + 8) = q_an G 10 (fun _ => 0) := (hf_479 _ (by omega)).trans hc_475
                have hc_503 : σ_480 2 = o3 G (2) (nI (ft1)) (nI (0)) (q_d (0)) := (hf_479 _ (by omega)).trans hc_410
                have hc_504 : σ_480 5 = o0 G (5) (nI (rm2_402)) (nI (g1 3)) (nI (0)) (nI (1)) (nI (0)) := (hf_479 _ (by omega)).trans hc_411
                have hc_505 : ∀ j9 : Nat, j9 < 4 → σ_480 (5 + 10 + 2 * j9) = o7 G (5 + 10 + 2 * j9) (lN (nm2_403 j9)) (lN (on2_404 j9)) (nI (sl2_405 j9)) (nI (mo2_406 j9)) (nI (nb2_407 j9)) := fun j9 hj0 => (hf_479 _ (by omega)).trans (hc_412 j9 (by omega))
                have hc_506 : ∀ j9 : Nat, j9 < 4 → σ_480 (5 + 10 + 2 * j9 + 1) = q_an G 5 (bm2_408 j9) := fun j9 hj0 => (hf_479 _ (by omega)).trans (hc_413 j9 (by omega))
                refine A_if_eqN (tgt := 157) hg dX3_read_150 (by decide) (by decide) (fun c150 => absurd c150 (by decide)) (fun c150 => ?_)
                exact absurd (x_kd_3.mpr hk3) (by omega)
  exact hL36 _ 0 rd_g0 t0 nu1 0 nm on sl mo nb bm kd fi se tf ts σ_67 hc_68 hc_69 hc_70 hc_71 hc_72 hc_73 hc_74 hc_75 hc_76 hc_77 hc_78 hc_79 hc_80 hc_65 (fun i hi => ((hf_66 i (by omega)).trans ((hf_51 i (by omega)).trans ((hf_35 i (by omega)).trans ((hf_19 i (by omega)).trans (hf_4 i (by omega))))))) (Nat.zero_le _) (by rw [ht0]; exact tk_st_le (Nat.zero_le _)) (Nat.zero_le _) (by rw [ht0]; rfl) rd_inv_0 rd_k_0 (fun r hr => absurd hr (Nat.not_lt_zero r)) (⟨fun p hp => absurd hp (Nat.not_lt_zero p), fun p hp => absurd hp (Nat.not_lt_zero p)⟩) (⟨fun p hp => absurd hp (Nat.not_lt_zero p), fun p hp => absurd hp (Nat.not_lt_zero p)⟩) hnu0 (Nat.lt_succ_self _)
end
