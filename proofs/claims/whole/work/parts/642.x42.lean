section
def x_lj (G : GL) (σ : Nat → va_E) : Prop := ∃ (ft0 : Nat), ∃ (er0 : Int32), ∃ (ea0 : Int32), ∃ (ti : Nat), ∃ (ln : Int32), ∃ (kd0 : Int32), ∃ (st0 : Int32), ∃ (be0 : Int32), ∃ (nu0 : Int32), ∃ (rm : Nat), ∃ (pl : Nat), ∃ (tn : Nat), ∃ (gm : Nat), ∃ (tk : Nat), ∃ (b : Nat), ∃ (sk : Nat), ∃ (nm : Nat → Nat), ∃ (on : Nat → Nat), ∃ (sl : Nat → Nat), ∃ (mo : Nat → Nat), ∃ (nb : Nat → Nat), ∃ (bm : Nat → Nat → Nat), ∃ (kd : Nat → Nat), ∃ (fi : Nat → Nat), ∃ (se : Nat → Nat), ∃ (tf : Nat → Nat), ∃ (ts : Nat → Nat), ∃ (ac : Nat → Nat), ∃ (tu : Nat → Nat), σ 2 = o3 G (2) (nI (ft0)) (er0) (ea0) ∧ σ 3 = o9 G (ti) (ln) (kd0) (st0) (be0) (nu0) ∧ σ 5 = o0 G (5) (nI (rm)) (nI (pl)) (nI (tn)) (nI (gm)) (nI (tk)) ∧ σ 6 = q_rn G 3 4 (fun j => some (5 + 10 + 2 * j)) ∧ σ 7 = o6 G (7) (nI (b)) (nI (sk)) ∧ σ (7 + 1) = q_an G 8 kd ∧ σ (7 + 2) = q_an G 8 fi ∧ σ (7 + 3) = q_an G 8 se ∧ σ (7 + 4) = q_an G 8 tf ∧ σ (7 + 5) = q_an G 8 ts ∧ σ 13 = q_an G 10 ac ∧ (∀ j9 : Nat, j9 < 4 → σ (5 + 10 + 2 * j9) = o7 G (5 + 10 + 2 * j9) (lN (nm j9)) (lN (on j9)) (nI (sl j9)) (nI (mo j9)) (nI (nb j9))) ∧ (∀ j9 : Nat, j9 < 4 → σ (5 + 10 + 2 * j9 + 1) = q_an G 5 (bm j9)) ∧ σ 14 = q_an G 100 tu
theorem x_lj_e {G : GL} {σ σ2 : Nat → va_E} (e : ∀ i : Nat, 2 ≤ i → i ≤ 22 → σ2 i = σ i) (h : x_lj G σ) : x_lj G σ2 := by
  obtain ⟨ft0, er0, ea0, ti, ln, kd0, st0, be0, nu0, rm, pl, tn, gm, tk, b, sk, nm, on, sl, mo, nb, bm, kd, fi, se, tf, ts, ac, tu, q0, q1, q2, q3, q4, q5, q6, q7, q8, q9, q10, q11, q12, q13⟩ := h
  exact ⟨ft0, er0, ea0, ti, ln, kd0, st0, be0, nu0, rm, pl, tn, gm, tk, b, sk, nm, on, sl, mo, nb, bm, kd, fi, se, tf, ts, ac, tu, ((e _ (by omega) (by omega)).trans q0), ((e _ (by omega) (by omega)).trans q1), ((e _ (by omega) (by omega)).trans q2), ((e _ (by omega) (by omega)).trans q3), ((e _ (by omega) (by omega)).trans q4), ((e _ (by omega) (by omega)).trans q5), ((e _ (by omega) (by omega)).trans q6), ((e _ (by omega) (by omega)).trans q7), ((e _ (by omega) (by omega)).trans q8), ((e _ (by omega) (by omega)).trans q9), ((e _ (by omega) (by omega)).trans q10), (fun j9 hj => (e _ (by omega) (by omega)).trans (q11 j9 hj)), (fun j9 hj => (e _ (by omega) (by omega)).trans (q12 j9 hj)), ((e _ (by omega) (by omega)).trans q13)⟩
set_option maxRecDepth 100000 in
set_option maxHeartbeats 4000000 in
theorem c_X10_loadHeaps (G : GL) (ex : Bool) (n : Nat) (σ : Nat → va_E) (z2 : Int32) (z3 : Int32) (f : Nat → Nat) (il : Nat) (g : Nat → Nat) (nx : Nat) (mh : Nat) (ps : Nat → Nat → Nat) (kp : Nat → Nat) (hc0 : σ 0 = o10 G (nI (il)) (z2) (z3)) (hc1 : σ 1 = q_an G 600 f) (hc2 : σ 225 = q_bn G 2 kp) (hn9 : 279 ≤ n) (hG : x_gm G σ 25 g) (hHi : x_hi G σ nx mh ps) (hm6 : il ≤ 600) (hbb : ∀ k : Nat, s_byte f il k ≤ 256) (hL : x_lj G σ) (hcb : ∀ c o : Nat, rd_all f il = .inl (c, o) → c ≤ 5) : Ct G yX10_loadHeaps cX10_loadHeaps 2 (some .int) ⟨8, 0, 0, 176⟩ [.ref (q_h G + 0)] ex n σ (fun v9 σ2 => (∃ (c : Nat), ∃ (o : Nat), v9 = some (.int (q_d (0))) ∧ (rd_all f il = .inl (c, o)) ∧ (¬ c = 0) ∧ (x_lj G σ2) ∧ σ2 0 = o10 G (nI (0)) (nI (c)) (nI (o)) ∧ (∀ i : Nat, i = 1 ∨ 22 < i → σ2 i = σ i)) ∨ (∃ (g' : Nat → Nat), ∃ (t' : Nat), v9 = some (.int (nI (g' 1 + g' 2))) ∧ (rd_all f il = .inr (g', t')) ∧ (rd_inv g') ∧ (x_gm G σ2 25 g') ∧ (x_hi G σ2 nx 0 ps) ∧ (x_lj G σ2) ∧ σ2 0 = o10 G (nI (0)) (nI (0)) (q_d (0)) ∧ σ2 225 = q_bn G 2 (va_up (va_up kp 0 0) 1 0) ∧ (∀ i : Nat, i = 1 ∨ (22 < i ∧ i < 25) ∨ (42 < i ∧ i < 78) ∨ (78 < i ∧ i ≠ 225) → σ2 i = σ i))) := by
  refine q_enter [some (.ref (q_h G + 0)), none] (by decide) (Nat.le_of_ble_eq_true rfl) rfl ?_
  intro K hg
  obtain ⟨Q, hQ⟩ : ∃ Q, Q = q_Q G K ex n 0 0 (fun v9 n' σ' => n' = n ∧ (fun v9 σ2 => (∃ (c : Nat), ∃ (o : Nat), v9 = some (.int (q_d (0))) ∧ (rd_all f il = .inl (c, o)) ∧ (¬ c = 0) ∧ (x_lj G σ2) ∧ σ2 0 = o10 G (nI (0)) (nI (c)) (nI (o)) ∧ (∀ i : Nat, i = 1 ∨ 22 < i → σ2 i = σ i)) ∨ (∃ (g' : Nat → Nat), ∃ (t' : Nat), v9 = some (.int (nI (g' 1 + g' 2))) ∧ (rd_all f il = .inr (g', t')) ∧ (rd_inv g') ∧ (x_gm G σ2 25 g') ∧ (x_hi G σ2 nx 0 ps) ∧ (x_lj G σ2) ∧ σ2 0 = o10 G (nI (0)) (nI (0)) (q_d (0)) ∧ σ2 225 = q_bn G 2 (va_up (va_up kp 0 0) 1 0) ∧ (∀ i : Nat, i = 1 ∨ (22 < i ∧ i < 25) ∨ (42 < i ∧ i < 78) ∨ (78 < i ∧ i ≠ 225) → σ2 i = σ i))) v9 σ') q_noX := ⟨_, rfl⟩
  refine (?_ : AJ G K (q_Q G K ex n 0 0 _ _) 0 0 ex n 0 _ _ σ)
  rw [← hQ]
  have hG0 := hG
  have hHi0 := hHi
  obtain ⟨hnx, hm8, hc78, hc79, hjs, hps⟩ := hHi
  obtain ⟨ft0, er0, ea0, ti, ln, kd0, st0, be0, nu0, rm, pl, tn, gm, tk, b, sk, nm, on, sl, mo, nb, bm, kd, fi, se, tf, ts, ac, tu, hl_1, hl_2, hl_3, hl_4, hl_5, hl_6, hl_7, hl_8, hl_9, hl_10, hl_11, hl_12, hl_13, hl_14⟩ := hL
  refine A_aload_n hg dX10_loadHeaps_0 rfl rfl ?_
  refine A_aload_n hg dX10_loadHeaps_1 rfl rfl ?_
  refine A_getf (v := .ref (q_h G + 2)) hg fl_RX10_26 dX10_loadHeaps_2 hc0 (by omega) rfl ?_
  refine A_aload_n hg dX10_loadHeaps_5 rfl rfl ?_
  refine A_getf (v := .ref (q_h G + 1)) hg fl_RX10_9 dX10_loadHeaps_6 hc0 (by omega) rfl ?_
  refine A_aload_n hg dX10_loadHeaps_9 rfl rfl ?_
  refine A_getf (v := .int (nI (il))) hg fl_RX10_13 dX10_loadHeaps_10 hc0 (by omega) rfl ?_
  refine A_hV (kc2 := 0) (ks2 := 0) (As := [.ref (q_h G + 1), .int (nI (il))]) (rest := [.ref (q_h G + 0)]) hg lk_RX10_101 in_X3_read se_X3_read rfl dX10_loadHeaps_13 ⟨by decide, by decide⟩ rfl rfl ⟨by decide, by decide⟩ hl_1 (by omega) rfl rfl (Nat.le_of_ble_eq_true rfl) (c_X3_read G ex n σ f il ft0 er0 ea0 ti ln kd0 st0 be0 nu0 rm pl tn gm tk b sk nm on sl mo nb bm kd fi se tf ts ac hl_1 hl_2 hc1 hl_3 hl_4 hl_5 hl_6 hl_7 hl_8 hl_9 hl_10 hl_11 hl_12 hl_13 (by omega) hm6 hbb) ?_
  rintro _ σ_41 (⟨c, o, ft2, kd2, st2, be2, nu2, rm2, pl2, nm2, on2, sl2, mo2, nb2, bm2, bE, skE, kdE, fiE, seE, tfE, tsE, rfl, hR, hc09, hc_15, hc_16, hc_17, hc_18, hc_19, hc_20, hc_21, hc_22, hc_23, hc_24, hc_25, hc_26, hf_27⟩ | ⟨g', t', ft2, kd2, st2, be2, nu2, nm2, on2, sl2, mo2, nb2, bm2, kdE, fiE, seE, tfE, tsE, rfl, hR, hinv2, hkk, hrl2, hxp2, htp2, hc_28, hc_29, hc_30, hc_31, hc_32, hc_33, hc_34, hc_35, hc_36, hc_37, hc_38, hc_39, hf_40⟩)
  · skip
    refine (?_ : AJ G K Q 0 0 ex n 16 [some (.ref (q_h G + 0)), none] [.int (nI (c)), .ref (q_h G + 0)] σ_41)
    have hc_42 : σ_41 0 = o10 G (nI (il)) (z2) (z3) := (hf_27 _ (by omega)).trans hc0
    have hc_43 : σ_41 1 = q_an G 600 f := (hf_27 _ (by omega)).trans hc1
    have hc_44 : σ_41 225 = q_bn G 2 kp := (hf_27 _ (by omega)).trans hc2
    have hc_45 : σ_41 78 = o2 G (78) (nI (nx)) (nI (mh)) := (hf_27 _ (by omega)).trans hc78
    have hc_46 : σ_41 6 = q_rn G 3 4 (fun j => some (5 + 10 + 2 * j)) := (hf_27 _ (by omega)).trans hl_4
    have hc_47 : σ_41 14 = q_an G 100 tu := (hf_27 _ (by omega)).trans hl_14
    refine A_putf hg fl_RX10_17 dX10_loadHeaps_16 hc_42 (by omega) (Nat.le_of_ble_eq_true rfl) rfl rfl rfl (fun σ_48 hc_49 hf_50 => ?_)
    have hc_49 : σ_48 0 = o10 G (nI (il)) (nI (c)) (z3) := hc_49
    have hc_51 : σ_48 1 = q_an G 600 f := (hf_50 _ (by omega)).trans hc_43
    have hc_52 : σ_48 225 = q_bn G 2 kp := (hf_50 _ (by omega)).trans hc_44
    have hc_53 : σ_48 78 = o2 G (78) (nI (nx)) (nI (mh)) := (hf_50 _ (by omega)).trans hc_45
    have hc_54 : σ_48 6 = q_rn G 3 4 (fun j => some (5 + 10 + 2 * j)) := (hf_50 _ (by omega)).trans hc_46
    have hc_55 : σ_48 14 = q_an G 100 tu := (hf_50 _ (by omega)).trans hc_47
    have hc_56 : σ_48 2 = o3 G (2) (nI (ft2)) (nI (c)) (nI (o)) := (hf_50 _ (by omega)).trans hc_15
    have hc_57 : σ_48 3 = o9 G (1) (nI (il)) (kd2) (st2) (be2) (nu2) := (hf_50 _ (by omega)).trans hc_16
    have hc_58 : σ_48 5 = o0 G (5) (nI (rm2)) (nI (pl2)) (nI (0)) (nI (1)) (nI (0)) := (hf_50 _ (by omega)).trans hc_17
    have hc_59 : ∀ j9 : Nat, j9 < 4 → σ_48 (5 + 10 + 2 * j9) = o7 G (5 + 10 + 2 * j9) (lN (nm2 j9)) (lN (on2 j9)) (nI (sl2 j9)) (nI (mo2 j9)) (nI (nb2 j9)) := fun j9 hj0 => (hf_50 _ (by omega)).trans (hc_18 j9 (by omega))
    have hc_60 : ∀ j9 : Nat, j9 < 4 → σ_48 (5 + 10 + 2 * j9 + 1) = q_an G 5 (bm2 j9) := fun j9 hj0 => (hf_50 _ (by omega)).trans (hc_19 j9 (by omega))
    have hc_61 : σ_48 7 = o6 G (7) (nI (bE)) (nI (skE)) := (hf_50 _ (by omega)).trans hc_20
    have hc_62 : σ_48 8 = q_an G 8 kdE := (hf_50 _ (by omega)).trans hc_21
    have hc_63 : σ_48 9 = q_an G 8 fiE := (hf_50 _ (by omega)).trans hc_22
    have hc_64 : σ_48 10 = q_an G 8 seE := (hf_50 _ (by omega)).trans hc_23
    have hc_65 : σ_48 11 = q_an G 8 tfE := (hf_50 _ (by omega)).trans hc_24
    have hc_66 : σ_48 12 = q_an G 8 tsE := (hf_50 _ (by omega)).trans hc_25
    have hc_67 : σ_48 13 = q_an G 10 (fun _ => 0) := (hf_50 _ (by omega)).trans hc_26
    refine A_aload_n hg dX10_loadHeaps_19 rfl rfl ?_
    refine A_aload_n hg dX10_loadHeaps_20 rfl rfl ?_
    refine A_getf (v := .ref (q_h G + 2)) hg fl_RX10_26 dX10_loadHeaps_21 hc_49 (by omega) rfl ?_
    refine A_getf (v := .int (nI (o))) hg fl_RX10_105 dX10_loadHeaps_24 hc_56 (by omega) rfl ?_
    refine A_putf hg fl_RX10_20 dX10_loadHeaps_27 hc_49 (by omega) (Nat.le_of_ble_eq_true rfl) rfl rfl rfl (fun σ_68 hc_69 hf_70 => ?_)
    have hc_69 : σ_68 0 = o10 G (nI (il)) (nI (c)) (nI (o)) := hc_69
    have hc_71 : σ_68 1 = q_an G 600 f := (hf_70 _ (by omega)).trans hc_51
    have hc_72 : σ_68 225 = q_bn G 2 kp := (hf_70 _ (by omega)).trans hc_52
    have hc_73 : σ_68 78 = o2 G (78) (nI (nx)) (nI (mh)) := (hf_70 _ (by omega)).trans hc_53
    have hc_74 : σ_68 6 = q_rn G 3 4 (fun j => some (5 + 10 + 2 * j)) := (hf_70 _ (by omega)).trans hc_54
    have hc_75 : σ_68 14 = q_an G 100 tu := (hf_70 _ (by omega)).trans hc_55
    have hc_76 : σ_68 2 = o3 G (2) (nI (ft2)) (nI (c)) (nI (o)) := (hf_70 _ (by omega)).trans hc_56
    have hc_77 : σ_68 3 = o9 G (1) (nI (il)) (kd2) (st2) (be2) (nu2) := (hf_70 _ (by omega)).trans hc_57
    have hc_78 : σ_68 5 = o0 G (5) (nI (rm2)) (nI (pl2)) (nI (0)) (nI (1)) (nI (0)) := (hf_70 _ (by omega)).trans hc_58
    have hc_79 : ∀ j9 : Nat, j9 < 4 → σ_68 (5 + 10 + 2 * j9) = o7 G (5 + 10 + 2 * j9) (lN (nm2 j9)) (lN (on2 j9)) (nI (sl2 j9)) (nI (mo2 j9)) (nI (nb2 j9)) := fun j9 hj0 => (hf_70 _ (by omega)).trans (hc_59 j9 (by omega))
    have hc_80 : ∀ j9 : Nat, j9 < 4 → σ_68 (5 + 10 + 2 * j9 + 1) = q_an G 5 (bm2 j9) := fun j9 hj0 => (hf_70 _ (by omega)).trans (hc_60 j9 (by omega))
    have hc_81 : σ_68 7 = o6 G (7) (nI (bE)) (nI (skE)) := (hf_70 _ (by omega)).trans hc_61
    have hc_82 : σ_68 8 = q_an G 8 kdE := (hf_70 _ (by omega)).trans hc_62
    have hc_83 : σ_68 9 = q_an G 8 fiE := (hf_70 _ (by omega)).trans hc_63
    have hc_84 : σ_68 10 = q_an G 8 seE := (hf_70 _ (by omega)).trans hc_64
    have hc_85 : σ_68 11 = q_an G 8 tfE := (hf_70 _ (by omega)).trans hc_65
    have hc_86 : σ_68 12 = q_an G 8 tsE := (hf_70 _ (by omega)).trans hc_66
    have hc_87 : σ_68 13 = q_an G 10 (fun _ => 0) := (hf_70 _ (by omega)).trans hc_67
    refine A_aload_n hg dX10_loadHeaps_30 rfl rfl ?_
    refine A_iconst (v := (nI (0))) hg dX10_loadHeaps_31 (by decide) ?_
    refine A_putf hg fl_RX10_13 dX10_loadHeaps_32 hc_69 (by omega) (Nat.le_of_ble_eq_true rfl) rfl rfl rfl (fun σ_88 hc_89 hf_90 => ?_)
    have hc_89 : σ_88 0 = o10 G (nI (0)) (nI (c)) (nI (o)) := hc_89
    have hc_91 : σ_88 1 = q_an G 600 f := (hf_90 _ (by omega)).trans hc_71
    have hc_92 : σ_88 225 = q_bn G 2 kp := (hf_90 _ (by omega)).trans hc_72
    have hc_93 : σ_88 78 = o2 G (78) (nI (nx)) (nI (mh)) := (hf_90 _ (by omega)).trans hc_73
    have hc_94 : σ_88 6 = q_rn G 3 4 (fun j => some (5 + 10 + 2 * j)) := (hf_90 _ (by omega)).trans hc_74
    have hc_95 : σ_88 14 = q_an G 100 tu := (hf_90 _ (by omega)).trans hc_75
    have hc_96 : σ_88 2 = o3 G (2) (nI (ft2)) (nI (c)) (nI (o)) := (hf_90 _ (by omega)).trans hc_76
    have hc_97 : σ_88 3 = o9 G (1) (nI (il)) (kd2) (st2) (be2) (nu2) := (hf_90 _ (by omega)).trans hc_77
    have hc_98 : σ_88 5 = o0 G (5) (nI (rm2)) (nI (pl2)) (nI (0)) (nI (1)) (nI (0)) := (hf_90 _ (by omega)).trans hc_78
    have hc_99 : ∀ j9 : Nat, j9 < 4 → σ_88 (5 + 10 + 2 * j9) = o7 G (5 + 10 + 2 * j9) (lN (nm2 j9)) (lN (on2 j9)) (nI (sl2 j9)) (nI (mo2 j9)) (nI (nb2 j9)) := fun j9 hj0 => (hf_90 _ (by omega)).trans (hc_79 j9 (by omega))
    have hc_100 : ∀ j9 : Nat, j9 < 4 → σ_88 (5 + 10 + 2 * j9 + 1) = q_an G 5 (bm2 j9) := fun j9 hj0 => (hf_90 _ (by omega)).trans (hc_80 j9 (by omega))
    have hc_101 : σ_88 7 = o6 G (7) (nI (bE)) (nI (skE)) := (hf_90 _ (by omega)).trans hc_81
    have hc_102 : σ_88 8 = q_an G 8 kdE := (hf_90 _ (by omega)).trans hc_82
    have hc_103 : σ_88 9 = q_an G 8 fiE := (hf_90 _ (by omega)).trans hc_83
    have hc_104 : σ_88 10 = q_an G 8 seE := (hf_90 _ (by omega)).trans hc_84
    have hc_105 : σ_88 11 = q_an G 8 tfE := (hf_90 _ (by omega)).trans hc_85
    have hc_106 : σ_88 12 = q_an G 8 tsE := (hf_90 _ (by omega)).trans hc_86
    have hc_107 : σ_88 13 = q_an G 10 (fun _ => 0) := (hf_90 _ (by omega)).trans hc_87
    refine A_aload_n hg dX10_loadHeaps_35 rfl rfl ?_
    refine A_getf (v := .int (nI (c))) hg fl_RX10_17 dX10_loadHeaps_36 hc_89 (by omega) rfl ?_
    refine A_if_eqN (tgt := 44) hg dX10_loadHeaps_39 (by have := hcb c o hR; omega) (by decide) (fun c39 => absurd c39 hc09) (fun c39 => ?_)
    refine A_iconst (v := (q_d (0))) hg dX10_loadHeaps_42 (by decide) ?_
    rw [hQ]
    exact A_ireturn hg (by decide) (by decide) rfl dX10_loadHeaps_43 ⟨rfl, Or.inl (⟨c, o, rfl, hR, hc09, ⟨_, _, _, _, _, _, _, _, _, _, _, _, _, _, _, _, _, _, _, _, _, _, _, _, _, _, _, _, _, hc_96, hc_97, hc_98, hc_94, hc_101, hc_102, hc_103, hc_104, hc_105, hc_106, hc_107, hc_99, hc_100, hc_95⟩, hc_89, (fun i hi => ((hf_90 i (by omega)).trans ((hf_70 i (by omega)).trans ((hf_50 i (by omega)).trans (hf_27 i (by omega))))))⟩)⟩
  · skip
    refine (?_ : AJ G K Q 0 0 ex n 16 [some (.ref (q_h G + 0)), none] [.int (nI (0)), .ref (q_h G + 0)] σ_41)
    have hc_108 : σ_41 0 = o10 G (nI (il)) (z2) (z3) := (hf_40 _ (by omega)).trans hc0
    have hc_109 : σ_41 1 = q_an G 600 f := (hf_40 _ (by omega)).trans hc1
    have hc_110 : σ_41 225 = q_bn G 2 kp := (hf_40 _ (by omega)).trans hc2
    have hc_111 : σ_41 78 = o2 G (78) (nI (nx)) (nI (mh)) := (hf_40 _ (by omega)).trans hc78
    have hc_112 : σ_41 6 = q_rn G 3 4 (fun j => some (5 + 10 + 2 * j)) := (hf_40 _ (by omega)).trans hl_4
    have hc_113 : σ_41 14 = q_an G 100 tu := (hf_40 _ (by omega)).trans hl_14
    refine A_putf hg fl_RX10_17 dX10_loadHeaps_16 hc_108 (by omega) (Nat.le_of_ble_eq_true rfl) rfl rfl rfl (fun σ_114 hc_115 hf_116 => ?_)
    have hc_115 : σ_114 0 = o10 G (nI (il)) (nI (0)) (z3) := hc_115
    have hc_117 : σ_114 1 = q_an G 600 f := (hf_116 _ (by omega)).trans hc_109
    have hc_118 : σ_114 225 = q_bn G 2 kp := (hf_116 _ (by omega)).trans hc_110
    have hc_119 : σ_114 78 = o2 G (78) (nI (nx)) (nI (mh)) := (hf_116 _ (by omega)).trans hc_111
    have hc_120 : σ_114 6 = q_rn G 3 4 (fun j => some (5 + 10 + 2 * j)) := (hf_116 _ (by omega)).trans hc_112
    have hc_121 : σ_114 14 = q_an G 100 tu := (hf_116 _ (by omega)).trans hc_113
    have hc_122 : σ_114 2 = o3 G (2) (nI (ft2)) (nI (0)) (q_d (0)) := (hf_116 _ (by omega)).trans hc_28
    have hc_123 : σ_114 3 = o9 G (1) (nI (il)) (kd2) (st2) (be2) (nu2) := (hf_116 _ (by omega)).trans hc_29
    have hc_124 : σ_114 5 = o0 G (5) (nI (g' 0)) (nI (g' 3)) (nI (0)) (nI (1)) (nI (0)) := (hf_116 _ (by omega)).trans hc_30
    have hc_125 : ∀ j9 : Nat, j9 < 4 → σ_114 (5 + 10 + 2 * j9) = o7 G (5 + 10 + 2 * j9) (lN (nm2 j9)) (lN (on2 j9)) (nI (sl2 j9)) (nI (mo2 j9)) (nI (nb2 j9)) := fun j9 hj0 => (hf_116 _ (by omega)).trans (hc_31 j9 (by omega))
    have hc_126 : ∀ j9 : Nat, j9 < 4 → σ_114 (5 + 10 + 2 * j9 + 1) = q_an G 5 (bm2 j9) := fun j9 hj0 => (hf_116 _ (by omega)).trans (hc_32 j9 (by omega))
    have hc_127 : σ_114 7 = o6 G (7) (nI (g' 1)) (nI (g' 2)) := (hf_116 _ (by omega)).trans hc_33
    have hc_128 : σ_114 8 = q_an G 8 kdE := (hf_116 _ (by omega)).trans hc_34
    have hc_129 : σ_114 9 = q_an G 8 fiE := (hf_116 _ (by omega)).trans hc_35
    have hc_130 : σ_114 10 = q_an G 8 seE := (hf_116 _ (by omega)).trans hc_36
    have hc_131 : σ_114 11 = q_an G 8 tfE := (hf_116 _ (by omega)).trans hc_37
    have hc_132 : σ_114 12 = q_an G 8 tsE := (hf_116 _ (by omega)).trans hc_38
    have hc_133 : σ_114 13 = q_an G 10 (fun _ => 0) := (hf_116 _ (by omega)).trans hc_39
    refine A_aload_n hg dX10_loadHeaps_19 rfl rfl ?_
    refine A_aload_n hg dX10_loadHeaps_20 rfl rfl ?_
    refine A_getf (v := .ref (q_h G + 2)) hg fl_RX10_26 dX10_loadHeaps_21 hc_115 (by omega) rfl ?_
    refine A_getf (v := .int (q_d (0))) hg fl_RX10_105 dX10_loadHeaps_24 hc_122 (by omega) rfl ?_
    refine A_putf hg fl_RX10_20 dX10_loadHeaps_27 hc_115 (by omega) (Nat.le_of_ble_eq_true rfl) rfl rfl rfl (fun σ_134 hc_135 hf_136 => ?_)
    have hc_135 : σ_134 0 = o10 G (nI (il)) (nI (0)) (q_d (0)) := hc_135
    have hc_137 : σ_134 1 = q_an G 600 f := (hf_136 _ (by omega)).trans hc_117
    have hc_138 : σ_134 225 = q_bn G 2 kp := (hf_136 _ (by omega)).trans hc_118
    have hc_139 : σ_134 78 = o2 G (78) (nI (nx)) (nI (mh)) := (hf_136 _ (by omega)).trans hc_119
    have hc_140 : σ_134 6 = q_rn G 3 4 (fun j => some (5 + 10 + 2 * j)) := (hf_136 _ (by omega)).trans hc_120
    have hc_141 : σ_134 14 = q_an G 100 tu := (hf_136 _ (by omega)).trans hc_121
    have hc_142 : σ_134 2 = o3 G (2) (nI (ft2)) (nI (0)) (q_d (0)) := (hf_136 _ (by omega)).trans hc_122
    have hc_143 : σ_134 3 = o9 G (1) (nI (il)) (kd2) (st2) (be2) (nu2) := (hf_136 _ (by omega)).trans hc_123
    have hc_144 : σ_134 5 = o0 G (5) (nI (g' 0)) (nI (g' 3)) (nI (0)) (nI (1)) (nI (0)) := (hf_136 _ (by omega)).trans hc_124
    have hc_145 : ∀ j9 : Nat, j9 < 4 → σ_134 (5 + 10 + 2 * j9) = o7 G (5 + 10 + 2 * j9) (lN (nm2 j9)) (lN (on2 j9)) (nI (sl2 j9)) (nI (mo2 j9)) (nI (nb2 j9)) := fun j9 hj0 => (hf_136 _ (by omega)).trans (hc_125 j9 (by omega))
    have hc_146 : ∀ j9 : Nat, j9 < 4 → σ_134 (5 + 10 + 2 * j9 + 1) = q_an G 5 (bm2 j9) := fun j9 hj0 => (hf_136 _ (by omega)).trans (hc_126 j9 (by omega))
    have hc_147 : σ_134 7 = o6 G (7) (nI (g' 1)) (nI (g' 2)) := (hf_136 _ (by omega)).trans hc_127
    have hc_148 : σ_134 8 = q_an G 8 kdE := (hf_136 _ (by omega)).trans hc_128
    have hc_149 : σ_134 9 = q_an G 8 fiE := (hf_136 _ (by omega)).trans hc_129
    have hc_150 : σ_134 10 = q_an G 8 seE := (hf_136 _ (by omega)).trans hc_130
    have hc_151 : σ_134 11 = q_an G 8 tfE := (hf_136 _ (by omega)).trans hc_131
    have hc_152 : σ_134 12 = q_an G 8 tsE := (hf_136 _ (by omega)).trans hc_132
    have hc_153 : σ_134 13 = q_an G 10 (fun _ => 0) := (hf_136 _ (by omega)).trans hc_133
    refine A_aload_n hg dX10_loadHeaps_30 rfl rfl ?_
    refine A_iconst (v := (nI (0))) hg dX10_loadHeaps_31 (by decide) ?_
    refine A_putf hg fl_RX10_13 dX10_loadHeaps_32 hc_135 (by omega) (Nat.le_of_ble_eq_true rfl) rfl rfl rfl (fun σ_154 hc_155 hf_156 => ?_)
    have hc_155 : σ_154 0 = o10 G (nI (0)) (nI (0)) (q_d (0)) := hc_155
    have hc_157 : σ_154 1 = q_an G 600 f := (hf_156 _ (by omega)).trans hc_137
    have hc_158 : σ_154 225 = q_bn G 2 kp := (hf_156 _ (by omega)).trans hc_138
    have hc_159 : σ_154 78 = o2 G (78) (nI (nx)) (nI (mh)) := (hf_156 _ (by omega)).trans hc_139
    have hc_160 : σ_154 6 = q_rn G 3 4 (fun j => some (5 + 10 + 2 * j)) := (hf_156 _ (by omega)).trans hc_140
    have hc_161 : σ_154 14 = q_an G 100 tu := (hf_156 _ (by omega)).trans hc_141
    have hc_162 : σ_154 2 = o3 G (2) (nI (ft2)) (nI (0)) (q_d (0)) := (hf_156 _ (by omega)).trans hc_142
    have hc_163 : σ_154 3 = o9 G (1) (nI (il)) (kd2) (st2) (be2) (nu2) := (hf_156 _ (by omega)).trans hc_143
    have hc_164 : σ_154 5 = o0 G (5) (nI (g' 0)) (nI (g' 3)) (nI (0)) (nI (1)) (nI (0)) := (hf_156 _ (by omega)).trans hc_144
    have hc_165 : ∀ j9 : Nat, j9 < 4 → σ_154 (5 + 10 + 2 * j9) = o7 G (5 + 10 + 2 * j9) (lN (nm2 j9)) (lN (on2 j9)) (nI (sl2 j9)) (nI (mo2 j9)) (nI (nb2 j9)) := fun j9 hj0 => (hf_156 _ (by omega)).trans (hc_145 j9 (by omega))
    have hc_166 : ∀ j9 : Nat, j9 < 4 → σ_154 (5 + 10 + 2 * j9 + 1) = q_an G 5 (bm2 j9) := fun j9 hj0 => (hf_156 _ (by omega)).trans (hc_146 j9 (by omega))
    have hc_167 : σ_154 7 = o6 G (7) (nI (g' 1)) (nI (g' 2)) := (hf_156 _ (by omega)).trans hc_147
    have hc_168 : σ_154 8 = q_an G 8 kdE := (hf_156 _ (by omega)).trans hc_148
    have hc_169 : σ_154 9 = q_an G 8 fiE := (hf_156 _ (by omega)).trans hc_149
    have hc_170 : σ_154 10 = q_an G 8 seE := (hf_156 _ (by omega)).trans hc_150
    have hc_171 : σ_154 11 = q_an G 8 tfE := (hf_156 _ (by omega)).trans hc_151
    have hc_172 : σ_154 12 = q_an G 8 tsE := (hf_156 _ (by omega)).trans hc_152
    have hc_173 : σ_154 13 = q_an G 10 (fun _ => 0) := (hf_156 _ (by omega)).trans hc_153
    refine A_aload_n hg dX10_loadHeaps_35 rfl rfl ?_
    refine A_getf (v := .int (nI (0))) hg fl_RX10_17 dX10_loadHeaps_36 hc_155 (by omega) rfl ?_
    refine A_if_eqN (tgt := 44) hg dX10_loadHeaps_39 (by decide) (by decide) (fun c39 => ?_) (fun c39 => absurd (by decide) c39)
    have hgL : x_gm G σ_154 5 g' := ⟨kdE, fiE, seE, tfE, tsE, fun _ => 0, tu, nm2, on2, sl2, mo2, nb2, bm2, by rw [show g' 4 = 0 from hkk 4 (by omega) (by omega), show g' 5 = 1 from hkk 5 (by omega) (by omega), show g' 6 = 0 from hkk 6 (by omega) (by omega)]; exact ⟨hc_164, hc_160, hc_167, hc_168, hc_169, hc_170, hc_171, hc_172, hc_173, hc_161, hc_165, hc_166⟩, hinv2.1, hxp2, htp2, hrl2, (fun a ha => by have := hkk (7 + a) (by omega) (by omega); rw [if_neg (by omega)] at this; exact this.symm), (fun i hi => absurd hi (by rw [show g' 6 = 0 from hkk 6 (by omega) (by omega)]; exact Nat.not_lt_zero i))⟩
    have hG25 := (x_gm_e (fun i _ _ => ((hf_156 i (by omega)).trans ((hf_136 i (by omega)).trans ((hf_116 i (by omega)).trans (hf_40 i (by omega)))))) hG0)
    have hJ25 := x_gm_j hG25
    obtain ⟨aJ, bJ, cJ, dJ, eJ, hjo_174⟩ := x_gj_o hJ25
    refine A_aload_n hg dX10_loadHeaps_44 rfl rfl ?_
    refine A_getf (v := .ref (q_h G + 25)) hg fl_RX10_40 dX10_loadHeaps_45 hc_155 (by omega) rfl ?_
    refine A_aload_n hg dX10_loadHeaps_48 rfl rfl ?_
    refine A_getf (v := .ref (q_h G + 2)) hg fl_RX10_26 dX10_loadHeaps_49 hc_155 (by omega) rfl ?_
    refine A_getf (v := .ref (q_h G + 5)) hg fl_RX10_108 dX10_loadHeaps_52 hc_162 (by omega) rfl ?_
    refine A_vV (kc2 := 0) (ks2 := 0) (As := [.ref (q_h G + 5)]) (rest := []) hg lk_RX10_111 in_X0_copyFrom se_X0_copyFrom rfl dX10_loadHeaps_55 ⟨by decide, by decide⟩ rfl rfl ⟨by decide, by decide⟩ hjo_174 (by omega) rfl rfl (Nat.le_of_ble_eq_true rfl) (c_X0_copyG G ex n σ_154 25 5 g' (by omega) (by omega) (by omega) hJ25 hgL) ?_
    rintro σ_177 ⟨hG9, hc_175, hf_176⟩
    have hc_178 : σ_177 1 = q_an G 600 f := (hf_176 _ (by omega)).trans hc_157
    have hc_179 : σ_177 225 = q_bn G 2 kp := (hf_176 _ (by omega)).trans hc_158
    have hc_180 : σ_177 78 = o2 G (78) (nI (nx)) (nI (mh)) := (hf_176 _ (by omega)).trans hc_159
    have hc_181 : σ_177 6 = q_rn G 3 4 (fun j => some (5 + 10 + 2 * j)) := (hf_176 _ (by omega)).trans hc_160
    have hc_182 : σ_177 14 = q_an G 100 tu := (hf_176 _ (by omega)).trans hc_161
    have hc_183 : σ_177 2 = o3 G (2) (nI (ft2)) (nI (0)) (q_d (0)) := (hf_176 _ (by omega)).trans hc_162
    have hc_184 : σ_177 3 = o9 G (1) (nI (il)) (kd2) (st2) (be2) (nu2) := (hf_176 _ (by omega)).trans hc_163
    have hc_185 : σ_177 5 = o0 G (5) (nI (g' 0)) (nI (g' 3)) (nI (0)) (nI (1)) (nI (0)) := (hf_176 _ (by omega)).trans hc_164
    have hc_186 : ∀ j9 : Nat, j9 < 4 → σ_177 (5 + 10 + 2 * j9) = o7 G (5 + 10 + 2 * j9) (lN (nm2 j9)) (lN (on2 j9)) (nI (sl2 j9)) (nI (mo2 j9)) (nI (nb2 j9)) := fun j9 hj0 => (hf_176 _ (by omega)).trans (hc_165 j9 (by omega))
    have hc_187 : ∀ j9 : Nat, j9 < 4 → σ_177 (5 + 10 + 2 * j9 + 1) = q_an G 5 (bm2 j9) := fun j9 hj0 => (hf_176 _ (by omega)).trans (hc_166 j9 (by omega))
    have hc_188 : σ_177 7 = o6 G (7) (nI (g' 1)) (nI (g' 2)) := (hf_176 _ (by omega)).trans hc_167
    have hc_189 : σ_177 8 = q_an G 8 kdE := (hf_176 _ (by omega)).trans hc_168
    have hc_190 : σ_177 9 = q_an G 8 fiE := (hf_176 _ (by omega)).trans hc_169
    have hc_191 : σ_177 10 = q_an G 8 seE := (hf_176 _ (by omega)).trans hc_170
    have hc_192 : σ_177 11 = q_an G 8 tfE := (hf_176 _ (by omega)).trans hc_171
    have hc_193 : σ_177 12 = q_an G 8 tsE := (hf_176 _ (by omega)).trans hc_172
    have hc_194 : σ_177 13 = q_an G 10 (fun _ => 0) := (hf_176 _ (by omega)).trans hc_173
    have hc_195 : σ_177 0 = o10 G (nI (0)) (nI (0)) (q_d (0)) := (hf_176 _ (by omega)).trans hc_155
    have hc27 : σ_177 27 = o6 G 27 (nI (g' 1)) (nI (g' 2)) := by
      obtain ⟨_, _, _, _, _, _, _, _, _, _, _, _, _, ⟨q0, q1, q2, -⟩, -⟩ := hG9
      exact q2
    refine A_aload_n hg dX10_loadHeaps_58 rfl rfl ?_
    refine A_getf (v := .ref (q_h G + 78)) hg fl_RX10_54 dX10_loadHeaps_59 hc_195 (by omega) rfl ?_
    refine A_vV (kc2 := 0) (ks2 := 0) (As := []) (rest := []) hg lk_RX10_115 in_X2_clear se_X2_clear rfl dX10_loadHeaps_62 ⟨by decide, by decide⟩ rfl rfl ⟨by decide, by decide⟩ hc_180 (by omega) rfl rfl (Nat.le_of_ble_eq_true rfl) (c_X2_clear G ex n σ_177 nx mh hc_180 (by omega)) ?_
    rintro σ_198 ⟨hc_196, hf_197⟩
    have hc_199 : σ_198 1 = q_an G 600 f := (hf_197 _ (by omega)).trans hc_178
    have hc_200 : σ_198 225 = q_bn G 2 kp := (hf_197 _ (by omega)).trans hc_179
    have hc_201 : σ_198 6 = q_rn G 3 4 (fun j => some (5 + 10 + 2 * j)) := (hf_197 _ (by omega)).trans hc_181
    have hc_202 : σ_198 14 = q_an G 100 tu := (hf_197 _ (by omega)).trans hc_182
    have hc_203 : σ_198 2 = o3 G (2) (nI (ft2)) (nI (0)) (q_d (0)) := (hf_197 _ (by omega)).trans hc_183
    have hc_204 : σ_198 3 = o9 G (1) (nI (il)) (kd2) (st2) (be2) (nu2) := (hf_197 _ (by omega)).trans hc_184
    have hc_205 : σ_198 5 = o0 G (5) (nI (g' 0)) (nI (g' 3)) (nI (0)) (nI (1)) (nI (0)) := (hf_197 _ (by omega)).trans hc_185
    have hc_206 : ∀ j9 : Nat, j9 < 4 → σ_198 (5 + 10 + 2 * j9) = o7 G (5 + 10 + 2 * j9) (lN (nm2 j9)) (lN (on2 j9)) (nI (sl2 j9)) (nI (mo2 j9)) (nI (nb2 j9)) := fun j9 hj0 => (hf_197 _ (by omega)).trans (hc_186 j9 (by omega))
    have hc_207 : ∀ j9 : Nat, j9 < 4 → σ_198 (5 + 10 + 2 * j9 + 1) = q_an G 5 (bm2 j9) := fun j9 hj0 => (hf_197 _ (by omega)).trans (hc_187 j9 (by omega))
    have hc_208 : σ_198 7 = o6 G (7) (nI (g' 1)) (nI (g' 2)) := (hf_197 _ (by omega)).trans hc_188
    have hc_209 : σ_198 8 = q_an G 8 kdE := (hf_197 _ (by omega)).trans hc_189
    have hc_210 : σ_198 9 = q_an G 8 fiE := (hf_197 _ (by omega)).trans hc_190
    have hc_211 : σ_198 10 = q_an G 8 seE := (hf_197 _ (by omega)).trans hc_191
    have hc_212 : σ_198 11 = q_an G 8 tfE := (hf_197 _ (by omega)).trans hc_192
    have hc_213 : σ_198 12 = q_an G 8 tsE := (hf_197 _ (by omega)).trans hc_193
    have hc_214 : σ_198 13 = q_an G 10 (fun _ => 0) := (hf_197 _ (by omega)).trans hc_194
    have hc_215 : σ_198 0 = o10 G (nI (0)) (nI (0)) (q_d (0)) := (hf_197 _ (by omega)).trans hc_195
    have hc_216 : σ_198 25 = o0 G (25) (nI (g' 0)) (nI (g' 3)) (nI (g' 4)) (nI (g' 5)) (nI (g' 6)) := (hf_197 _ (by omega)).trans hc_175
    have hc_217 : σ_198 27 = o6 G (27) (nI (g' 1)) (nI (g' 2)) := (hf_197 _ (by omega)).trans hc27
    have hHi1 := x_hi_e (σ2 := σ_177) (fun i _ _ => ((hf_176 i (by omega)).trans ((hf_156 i (by omega)).trans ((hf_136 i (by omega)).trans ((hf_116 i (by omega)).trans (hf_40 i (by omega))))))) hHi0
    have hHiP := x_hi_clear (σ2 := σ_198) hHi1 hc_196 (fun i a b => hf_197 i (by omega))
    refine A_iconst (v := (nI (0))) hg dX10_loadHeaps_65 (by decide) ?_
    refine A_istore_n hg dX10_loadHeaps_66 rfl (by decide) (q_c1d rfl) ?_
    refine A_eq (ls2 := [some (.ref (q_h G + 0)), some (.int (nI (0)))]) (st2 := []) (pc2 := 0) rfl rfl ?_
    refine A_iload_n hg dX10_loadHeaps_67 rfl rfl ?_
    refine A_iconst (v := (nI (2))) hg dX10_loadHeaps_68 (by decide) ?_
    refine A_icmp_geN (tgt := 85) hg dX10_loadHeaps_69 (by decide) (by decide) (by decide) (fun c69 => False.elim (by omega)) (fun c69 => ?_)
    refine A_aload_n hg dX10_loadHeaps_72 rfl rfl ?_
    refine A_getf (v := .ref (q_h G + 225)) hg fl_RX10_62 dX10_loadHeaps_73 hc_215 (by omega) rfl ?_
    refine A_iload_n hg dX10_loadHeaps_76 rfl rfl ?_
    refine A_iconst (v := (nI (0))) hg dX10_loadHeaps_77 (by decide) ?_
    refine A_bast (j := 0) (x := 0) hg dX10_loadHeaps_78 hc_200 (by omega) (by omega) (by decide) (by decide) (fun σ_218 hc_219 hf_220 => ?_)
    have hc_221 : σ_218 1 = q_an G 600 f := (hf_220 _ (by omega)).trans hc_199
    have hc_222 : σ_218 6 = q_rn G 3 4 (fun j => some (5 + 10 + 2 * j)) := (hf_220 _ (by omega)).trans hc_201
    have hc_223 : σ_218 14 = q_an G 100 tu := (hf_220 _ (by omega)).trans hc_202
    have hc_224 : σ_218 2 = o3 G (2) (nI (ft2)) (nI (0)) (q_d (0)) := (hf_220 _ (by omega)).trans hc_203
    have hc_225 : σ_218 3 = o9 G (1) (nI (il)) (kd2) (st2) (be2) (nu2) := (hf_220 _ (by omega)).trans hc_204
    have hc_226 : σ_218 5 = o0 G (5) (nI (g' 0)) (nI (g' 3)) (nI (0)) (nI (1)) (nI (0)) := (hf_220 _ (by omega)).trans hc_205
    have hc_227 : ∀ j9 : Nat, j9 < 4 → σ_218 (5 + 10 + 2 * j9) = o7 G (5 + 10 + 2 * j9) (lN (nm2 j9)) (lN (on2 j9)) (nI (sl2 j9)) (nI (mo2 j9)) (nI (nb2 j9)) := fun j9 hj0 => (hf_220 _ (by omega)).trans (hc_206 j9 (by omega))
    have hc_228 : ∀ j9 : Nat, j9 < 4 → σ_218 (5 + 10 + 2 * j9 + 1) = q_an G 5 (bm2 j9) := fun j9 hj0 => (hf_220 _ (by omega)).trans (hc_207 j9 (by omega))
    have hc_229 : σ_218 7 = o6 G (7) (nI (g' 1)) (nI (g' 2)) := (hf_220 _ (by omega)).trans hc_208
    have hc_230 : σ_218 8 = q_an G 8 kdE := (hf_220 _ (by omega)).trans hc_209
    have hc_231 : σ_218 9 = q_an G 8 fiE := (hf_220 _ (by omega)).trans hc_210
    have hc_232 : σ_218 10 = q_an G 8 seE := (hf_220 _ (by omega)).trans hc_211
    have hc_233 : σ_218 11 = q_an G 8 tfE := (hf_220 _ (by omega)).trans hc_212
    have hc_234 : σ_218 12 = q_an G 8 tsE := (hf_220 _ (by omega)).trans hc_213
    have hc_235 : σ_218 13 = q_an G 10 (fun _ => 0) := (hf_220 _ (by omega)).trans hc_214
    have hc_236 : σ_218 0 = o10 G (nI (0)) (nI (0)) (q_d (0)) := (hf_220 _ (by omega)).trans hc_215
    have hc_237 : σ_218 25 = o0 G (25) (nI (g' 0)) (nI (g' 3)) (nI (g' 4)) (nI (g' 5)) (nI (g' 6)) := (hf_220 _ (by omega)).trans hc_216
    have hc_238 : σ_218 27 = o6 G (27) (nI (g' 1)) (nI (g' 2)) := (hf_220 _ (by omega)).trans hc_217
    have hc_239 : σ_218 78 = o2 G (78) (nI (nx)) (nI (0)) := (hf_220 _ (by omega)).trans hc_196
    refine A_iincN (k' := 1) hg dX10_loadHeaps_79 (by decide) rfl (by decide) (q_c1d rfl) ?_
    refine A_eq (ls2 := [some (.ref (q_h G + 0)), some (.int (nI (0 + 1)))]) (st2 := []) (pc2 := 0) rfl rfl ?_
    refine A_goto (tgt := 67) hg dX10_loadHeaps_82 (by decide) ?_
    refine A_eq (ls2 := [some (.ref (q_h G + 0)), some (.int (nI (1)))]) (st2 := []) (pc2 := 0) rfl rfl ?_
    refine A_iload_n hg dX10_loadHeaps_67 rfl rfl ?_
    refine A_iconst (v := (nI (2))) hg dX10_loadHeaps_68 (by decide) ?_
    refine A_icmp_geN (tgt := 85) hg dX10_loadHeaps_69 (by decide) (by decide) (by decide) (fun c69 => False.elim (by omega)) (fun c69 => ?_)
    refine A_aload_n hg dX10_loadHeaps_72 rfl rfl ?_
    refine A_getf (v := .ref (q_h G + 225)) hg fl_RX10_62 dX10_loadHeaps_73 hc_236 (by omega) rfl ?_
    refine A_iload_n hg dX10_loadHeaps_76 rfl rfl ?_
    refine A_iconst (v := (nI (0))) hg dX10_loadHeaps_77 (by decide) ?_
    refine A_bast (j := 1) (x := 0) hg dX10_loadHeaps_78 hc_219 (by omega) (by omega) (by decide) (by decide) (fun σ_240 hc_241 hf_242 => ?_)
    have hc_243 : σ_240 1 = q_an G 600 f := (hf_242 _ (by omega)).trans hc_221
    have hc_244 : σ_240 6 = q_rn G 3 4 (fun j => some (5 + 10 + 2 * j)) := (hf_242 _ (by omega)).trans hc_222
    have hc_245 : σ_240 14 = q_an G 100 tu := (hf_242 _ (by omega)).trans hc_223
    have hc_246 : σ_240 2 = o3 G (2) (nI (ft2)) (nI (0)) (q_d (0)) := (hf_242 _ (by omega)).trans hc_224
    have hc_247 : σ_240 3 = o9 G (1) (nI (il)) (kd2) (st2) (be2) (nu2) := (hf_242 _ (by omega)).trans hc_225
    have hc_248 : σ_240 5 = o0 G (5) (nI (g' 0)) (nI (g' 3)) (nI (0)) (nI (1)) (nI (0)) := (hf_242 _ (by omega)).trans hc_226
    have hc_249 : ∀ j9 : Nat, j9 < 4 → σ_240 (5 + 10 + 2 * j9) = o7 G (5 + 10 + 2 * j9) (lN (nm2 j9)) (lN (on2 j9)) (nI (sl2 j9)) (nI (mo2 j9)) (nI (nb2 j9)) := fun j9 hj0 => (hf_242 _ (by omega)).trans (hc_227 j9 (by omega))
    have hc_250 : ∀ j9 : Nat, j9 < 4 → σ_240 (5 + 10 + 2 * j9 + 1) = q_an G 5 (bm2 j9) := fun j9 hj0 => (hf_242 _ (by omega)).trans (hc_228 j9 (by omega))
    have hc_251 : σ_240 7 = o6 G (7) (nI (g' 1)) (nI (g' 2)) := (hf_242 _ (by omega)).trans hc_229
    have hc_252 : σ_240 8 = q_an G 8 kdE := (hf_242 _ (by omega)).trans hc_230
    have hc_253 : σ_240 9 = q_an G 8 fiE := (hf_242 _ (by omega)).trans hc_231
    have hc_254 : σ_240 10 = q_an G 8 seE := (hf_242 _ (by omega)).trans hc_232
    have hc_255 : σ_240 11 = q_an G 8 tfE := (hf_242 _ (by omega)).trans hc_233
    have hc_256 : σ_240 12 = q_an G 8 tsE := (hf_242 _ (by omega)).trans hc_234
    have hc_257 : σ_240 13 = q_an G 10 (fun _ => 0) := (hf_242 _ (by omega)).trans hc_235
    have hc_258 : σ_240 0 = o10 G (nI (0)) (nI (0)) (q_d (0)) := (hf_242 _ (by omega)).trans hc_236
    have hc_259 : σ_240 25 = o0 G (25) (nI (g' 0)) (nI (g' 3)) (nI (g' 4)) (nI (g' 5)) (nI (g' 6)) := (hf_242 _ (by omega)).trans hc_237
    have hc_260 : σ_240 27 = o6 G (27) (nI (g' 1)) (nI (g' 2)) := (hf_242 _ (by omega)).trans hc_238
    have hc_261 : σ_240 78 = o2 G (78) (nI (nx)) (nI (0)) := (hf_242 _ (by omega)).trans hc_239
    refine A_iincN (k' := 1) hg dX10_loadHeaps_79 (by decide) rfl (by decide) (q_c1d rfl) ?_
    refine A_eq (ls2 := [some (.ref (q_h G + 0)), some (.int (nI (1 + 1)))]) (st2 := []) (pc2 := 0) rfl rfl ?_
    refine A_goto (tgt := 67) hg dX10_loadHeaps_82 (by decide) ?_
    refine A_eq (ls2 := [some (.ref (q_h G + 0)), some (.int (nI (2)))]) (st2 := []) (pc2 := 0) rfl rfl ?_
    refine A_iload_n hg dX10_loadHeaps_67 rfl rfl ?_
    refine A_iconst (v := (nI (2))) hg dX10_loadHeaps_68 (by decide) ?_
    refine A_icmp_geN (tgt := 85) hg dX10_loadHeaps_69 (by decide) (by decide) (by decide) (fun c69 => ?_) (fun c69 => False.elim (by omega))
    refine A_aload_n hg dX10_loadHeaps_85 rfl rfl ?_
    refine A_getf (v := .ref (q_h G + 25)) hg fl_RX10_40 dX10_loadHeaps_86 hc_258 (by omega) rfl ?_
    refine A_getf (v := .ref (q_h G + 27)) hg fl_RX10_118 dX10_loadHeaps_89 hc_259 (by omega) rfl ?_
    refine A_eV (kc2 := 0) (ks2 := 0) (As := []) (rest := []) hg lk_RX10_121 in_X6_many se_X6_many rfl dX10_loadHeaps_92 ⟨by decide, by decide⟩ rfl rfl ⟨by decide, by decide⟩ hc_260 (by omega) rfl rfl (Nat.le_of_ble_eq_true rfl) (c_X6_many G ex n σ_240 27 (g' 1) (g' 2) hc_260 (by omega)) ?_
    rw [hQ]
    exact A_ireturn hg (by decide) (by decide) rfl dX10_loadHeaps_95 ⟨rfl, Or.inr ((⟨g', t', rfl, hR, hinv2, (x_gm_e (fun i _ _ => ((hf_242 i (by omega)).trans ((hf_220 i (by omega)).trans (hf_197 i (by omega))))) hG9), (x_hi_e (fun i _ _ => ((hf_242 i (by omega)).trans (hf_220 i (by omega)))) hHiP), ⟨_, _, _, _, _, _, _, _, _, _, _, _, _, _, _, _, _, _, _, _, _, _, _, _, _, _, _, _, _, hc_246, hc_247, hc_248, hc_244, hc_251, hc_252, hc_253, hc_254, hc_255, hc_256, hc_257, hc_249, hc_250, hc_245⟩, hc_258, hc_241, (fun i hi => ((hf_242 i (by omega)).trans ((hf_220 i (by omega)).trans ((hf_197 i (by omega)).trans ((hf_176 i (by omega)).trans ((hf_156 i (by omega)).trans ((hf_136 i (by omega)).trans ((hf_116 i (by omega)).trans (hf_40 i (by omega))))))))))⟩))⟩
end
