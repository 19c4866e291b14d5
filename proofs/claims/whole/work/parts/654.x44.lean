section
set_option maxRecDepth 100000 in
set_option maxHeartbeats 4000000 in
theorem c_X10_printRule (G : GL) (ex : Bool) (n : Nat) (σ : Nat → va_E) (z1 : Int32) (z2 : Int32) (z3 : Int32) (x : Int32) (o : Nat → Nat) (g : Nat → Nat) (r : Int32) (hc0 : σ 0 = o10 G (z1) (z2) (z3)) (hc1 : σ 23 = o5 G (23) (x)) (hc2 : σ 24 = q_an G 256 o) (hn9 : 279 ≤ n) (hG : x_gm G σ 25 g) : CtX G yX10_printRule cX10_printRule 4 (some .int) ⟨7, 1, 6, 111⟩ [.ref (q_h G + 0), .int (r)] ex n σ (fun v9 σ2 => ∃ (r1 : Nat), ∃ (o' : Nat → Nat), v9 = some (.int (nI ((s_prR (s_rule g r1)).length))) ∧ (r = nI r1) ∧ (r1 < g 0) ∧ (∀ j : Nat, j < (s_prR (s_rule g r1)).length → o' j = (s_prR (s_rule g r1)).getD j 0) ∧ ((s_prR (s_rule g r1)).length ≤ 256) ∧ σ2 23 = o5 G (23) (nI ((s_prR (s_rule g r1)).length)) ∧ σ2 24 = q_an G 256 o' ∧ (∀ i : Nat, i ≠ 23 ∧ i ≠ 24 → σ2 i = σ i)) (fun E σ2 => σ2 = σ ∧ ((E = "java/lang/IndexOutOfBoundsException" ∧ (∀ j : Nat, j < g 0 → r = nI j → False)))) := by
  refine q_enter [some (.ref (q_h G + 0)), some (.int (r)), none, none] (by decide) (Nat.le_of_ble_eq_true rfl) rfl ?_
  intro K hg
  obtain ⟨Q, hQ⟩ : ∃ Q, Q = q_Q G K ex n 1 6 (fun v9 n' σ' => n' = n ∧ (fun v9 σ2 => ∃ (r1 : Nat), ∃ (o' : Nat → Nat), v9 = some (.int (nI ((s_prR (s_rule g r1)).length))) ∧ (r = nI r1) ∧ (r1 < g 0) ∧ (∀ j : Nat, j < (s_prR (s_rule g r1)).length → o' j = (s_prR (s_rule g r1)).getD j 0) ∧ ((s_prR (s_rule g r1)).length ≤ 256) ∧ σ2 23 = o5 G (23) (nI ((s_prR (s_rule g r1)).length)) ∧ σ2 24 = q_an G 256 o' ∧ (∀ i : Nat, i ≠ 23 ∧ i ≠ 24 → σ2 i = σ i)) v9 σ') (fun E σ2 => σ2 = σ ∧ ((E = "java/lang/IndexOutOfBoundsException" ∧ (∀ j : Nat, j < g 0 → r = nI j → False)))) := ⟨_, rfl⟩
  refine (?_ : AJ G K (q_Q G K ex n 1 6 _ _) 0 0 ex n 0 _ _ σ)
  rw [← hQ]
  obtain ⟨kd, fi, se, tf, ts, ac, tu, nm, on, sl, mo, nb, bm, ⟨hg_1, hg_2, hg_3, hg_4, hg_5, hg_6, hg_7, hg_8, hg_9, hg_10, hg_11, hg_12⟩, hgr⟩ := hG
  obtain ⟨hgw, hxp, htp, hrl, hac, htu⟩ := hgr
  have hrs := x_rl_rs hrl
  have hg0 := hgw.1
  have hg1 := hgw.2.1
  have hg2 := hgw.2.2.1
  have hg3 := hgw.2.2.2.1
  have hg6 := hgw.2.2.2.2.1
  have hnp : s_np g = g 1 + g 2 := rfl
  have hc_13 : ∀ j9 : Nat, j9 < g 0 → σ (25 + 10 + 2 * j9) = o7 G (25 + 10 + 2 * j9) (lN (nm j9)) (lN (on j9)) (nI (s_rule g j9 18)) (nI (s_rule g j9 19)) (nI (s_rule g j9 20)) := fun j9 hj => (hg_11 j9 (by omega)).trans (by rw [(hrl j9 hj).2.2.2.1, (hrl j9 hj).2.2.2.2.1, (hrl j9 hj).2.2.2.2.2.1])
  have hc_14 : ∀ j9 : Nat, j9 < g 0 → σ (25 + 10 + 2 * j9 + 1) = q_an G 5 (bm j9) := fun j9 hj => hg_12 j9 (by omega)
  refine A_aload_n hg dX10_printRule_0 rfl rfl ?_
  refine A_iload_n hg dX10_printRule_1 rfl rfl ?_
  refine A_pVX (kc2 := 1) (ks2 := 6) (As := [.int (r)]) (rest := []) hg lk_RX10_195 in_X10_needRule se_X10_needRule rfl dX10_printRule_2 ⟨by decide, by decide⟩ rfl rfl ⟨by decide, by decide⟩ hc0 (by omega) rfl rfl (Nat.le_of_ble_eq_true rfl) (c_X10_needRule G ex n σ z1 z2 z3 (g 0) (g 3) (g 4) (g 5) (g 6) r hc0 hg_1 (by omega) (by omega)) (fun E σx hx => by rw [hQ]; exact A_out hg (by decide) (by decide) (by obtain ⟨hs, hE, hx⟩ := hx; exact ⟨hs, ⟨hE, hx⟩⟩)) ?_
  rintro _ ⟨r1, rfl, hre, hrl9⟩
  refine (?_ : AJ G K Q 1 6 ex n 5 [some (.ref (q_h G + 0)), some (.int (r)), none, none] [] σ)
  subst hre
  have hu := hgw.2.2.2.2.2.1 r1 hrl9
  have hrr := hrl r1 hrl9
  have hon := hrr.2.1
  have hu0 := hu.1
  have hu18 := hu.2.2.1
  have hu19 := hu.2.2.2.1
  have hu20 := hu.2.2.2.2.1
  have hon1 := hon.1
  have hno0 := hrr.1.1.1
  refine A_aload_n hg dX10_printRule_5 rfl rfl ?_
  refine A_getf (v := .ref (q_h G + 25)) hg fl_RX10_40 dX10_printRule_6 hc0 (by omega) rfl ?_
  refine A_iload_n hg dX10_printRule_9 rfl rfl ?_
  refine A_eV (kc2 := 1) (ks2 := 6) (As := [.int (nI (r1))]) (rest := []) hg lk_RX10_198 in_X0_ruleAt se_X0_ruleAt rfl dX10_printRule_10 ⟨by decide, by decide⟩ rfl rfl ⟨by decide, by decide⟩ hg_1 (by omega) rfl rfl (Nat.le_of_ble_eq_true rfl) (c_X0_ruleAt G ex n σ 25 (g 0) (g 3) (g 4) (g 5) (g 6) r1 hg_1 hg_2 (by omega) (by omega)) ?_
  refine A_astore_n hg dX10_printRule_13 rfl (by decide) (q_c1d rfl) ?_
  refine A_eq (ls2 := [some (.ref (q_h G + 0)), some (.int (nI (r1))), some (.ref (q_h G + (25 + 10 + 2 * r1))), none]) (st2 := []) (pc2 := 0) rfl rfl ?_
  refine A_aload_n hg dX10_printRule_14 rfl rfl ?_
  refine A_getf (v := .ref (q_h G + 23)) hg fl_RX10_33 dX10_printRule_15 hc0 (by omega) rfl ?_
  refine A_vV (kc2 := 1) (ks2 := 6) (As := []) (rest := []) hg lk_RX10_416 in_X5_clear se_X5_clear rfl dX10_printRule_18 ⟨by decide, by decide⟩ rfl rfl ⟨by decide, by decide⟩ hc1 (by omega) rfl rfl (Nat.le_of_ble_eq_true rfl) (c_X5_clear G ex n σ x hc1 (by omega)) ?_
  rintro σ_17 ⟨hc_15, hf_16⟩
  have hc_18 : σ_17 0 = o10 G (z1) (z2) (z3) := (hf_16 _ (by omega)).trans hc0
  have hc_19 : σ_17 24 = q_an G 256 o := (hf_16 _ (by omega)).trans hc2
  have hc_20 : σ_17 25 = o0 G (25) (nI (g 0)) (nI (g 3)) (nI (g 4)) (nI (g 5)) (nI (g 6)) := (hf_16 _ (by omega)).trans hg_1
  have hc_21 : σ_17 26 = q_rn G 3 4 (fun j => some (25 + 10 + 2 * j)) := (hf_16 _ (by omega)).trans hg_2
  have hc_22 : σ_17 27 = o6 G (27) (nI (g 1)) (nI (g 2)) := (hf_16 _ (by omega)).trans hg_3
  have hc_23 : σ_17 (27 + 1) = q_an G 8 kd := (hf_16 _ (by omega)).trans hg_4
  have hc_24 : σ_17 (27 + 2) = q_an G 8 fi := (hf_16 _ (by omega)).trans hg_5
  have hc_25 : σ_17 (27 + 3) = q_an G 8 se := (hf_16 _ (by omega)).trans hg_6
  have hc_26 : σ_17 (27 + 4) = q_an G 8 tf := (hf_16 _ (by omega)).trans hg_7
  have hc_27 : σ_17 (27 + 5) = q_an G 8 ts := (hf_16 _ (by omega)).trans hg_8
  have hc_28 : σ_17 (25 + 8) = q_an G 10 ac := (hf_16 _ (by omega)).trans hg_9
  have hc_29 : σ_17 (25 + 9) = q_an G 100 tu := (hf_16 _ (by omega)).trans hg_10
  have hc_30 : ∀ j9 : Nat, j9 < g 0 → σ_17 (25 + 10 + 2 * j9) = o7 G (25 + 10 + 2 * j9) (lN (nm j9)) (lN (on j9)) (nI (s_rule g j9 18)) (nI (s_rule g j9 19)) (nI (s_rule g j9 20)) := fun j9 hj0 => (hf_16 _ (by omega)).trans (hc_13 j9 (by omega))
  have hc_31 : ∀ j9 : Nat, j9 < g 0 → σ_17 (25 + 10 + 2 * j9 + 1) = q_an G 5 (bm j9) := fun j9 hj0 => (hf_16 _ (by omega)).trans (hc_14 j9 (by omega))
  refine A_aload_n hg dX10_printRule_21 rfl rfl ?_
  refine A_getf (v := .ref (q_h G + 23)) hg fl_RX10_33 dX10_printRule_22 hc_18 (by omega) rfl ?_
  refine A_ldcwS hg (sc_RX10_433 hg.2.2.2.2.2.2.1.1).1 dX10_printRule_25 ?_
  refine A_vV (kc2 := 1) (ks2 := 6) (As := [.ref (q_sa G RX10 433)]) (rest := []) hg lk_RX10_435 in_X5_putWord se_X5_putWord rfl dX10_printRule_28 ⟨by decide, by decide⟩ rfl rfl ⟨by decide, by decide⟩ hc_15 (by omega) rfl rfl (Nat.le_of_ble_eq_true rfl) (c_X5_putWord G ex n σ_17 ([] : List Nat) o (q_sa G RX10 433) ([114, 117, 108, 101, 32]) hc_15 hc_19 (by omega) (fun j h => absurd h (Nat.not_lt_zero j)) ((sc_RX10_433 hg.2.2.2.2.2.2.1.1).2) (by decide)) ?_
  rintro σ_35 ⟨L28, o28, hL28, hlen28, hO28, hc_32, hc_33, hf_34⟩
  have hc_36 : σ_35 0 = o10 G (z1) (z2) (z3) := (hf_34 _ (by omega)).trans hc_18
  have hc_37 : σ_35 25 = o0 G (25) (nI (g 0)) (nI (g 3)) (nI (g 4)) (nI (g 5)) (nI (g 6)) := (hf_34 _ (by omega)).trans hc_20
  have hc_38 : σ_35 26 = q_rn G 3 4 (fun j => some (25 + 10 + 2 * j)) := (hf_34 _ (by omega)).trans hc_21
  have hc_39 : σ_35 27 = o6 G (27) (nI (g 1)) (nI (g 2)) := (hf_34 _ (by omega)).trans hc_22
  have hc_40 : σ_35 (27 + 1) = q_an G 8 kd := (hf_34 _ (by omega)).trans hc_23
  have hc_41 : σ_35 (27 + 2) = q_an G 8 fi := (hf_34 _ (by omega)).trans hc_24
  have hc_42 : σ_35 (27 + 3) = q_an G 8 se := (hf_34 _ (by omega)).trans hc_25
  have hc_43 : σ_35 (27 + 4) = q_an G 8 tf := (hf_34 _ (by omega)).trans hc_26
  have hc_44 : σ_35 (27 + 5) = q_an G 8 ts := (hf_34 _ (by omega)).trans hc_27
  have hc_45 : σ_35 (25 + 8) = q_an G 10 ac := (hf_34 _ (by omega)).trans hc_28
  have hc_46 : σ_35 (25 + 9) = q_an G 100 tu := (hf_34 _ (by omega)).trans hc_29
  have hc_47 : ∀ j9 : Nat, j9 < g 0 → σ_35 (25 + 10 + 2 * j9) = o7 G (25 + 10 + 2 * j9) (lN (nm j9)) (lN (on j9)) (nI (s_rule g j9 18)) (nI (s_rule g j9 19)) (nI (s_rule g j9 20)) := fun j9 hj0 => (hf_34 _ (by omega)).trans (hc_30 j9 (by omega))
  have hc_48 : ∀ j9 : Nat, j9 < g 0 → σ_35 (25 + 10 + 2 * j9 + 1) = q_an G 5 (bm j9) := fun j9 hj0 => (hf_34 _ (by omega)).trans (hc_31 j9 (by omega))
  have hlw28 : ([114, 117, 108, 101, 32] : List Nat).length = 5 := rfl
  have hl28 : L28.length ≤ 5 := hlen28
  refine A_aload_n hg dX10_printRule_31 rfl rfl ?_
  refine A_getf (v := .ref (q_h G + 23)) hg fl_RX10_33 dX10_printRule_32 hc_36 (by omega) rfl ?_
  refine A_aload_n hg dX10_printRule_35 rfl rfl ?_
  refine A_getf (v := .long (lN (nm r1))) hg fl_RX10_250 dX10_printRule_36 (hc_47 r1 (by omega)) (by omega) rfl ?_
  refine A_vV (kc2 := 1) (ks2 := 6) (As := [.long (lN (nm r1))]) (rest := []) hg lk_RX10_426 in_X5_putName se_X5_putName rfl dX10_printRule_39 ⟨by decide, by decide⟩ rfl rfl ⟨by decide, by decide⟩ hc_32 (by omega) rfl rfl (Nat.le_of_ble_eq_true rfl) (c_X5_putName G ex n σ_35 L28 o28 (s_rule g r1) (nm r1) hc_32 hc_33 (by omega) (by assumption) hrr.1 (by omega)) ?_
  rintro σ_52 ⟨L39, o39, hL39, hlen39, hO39, hc_49, hc_50, hf_51⟩
  have hc_53 : σ_52 0 = o10 G (z1) (z2) (z3) := (hf_51 _ (by omega)).trans hc_36
  have hc_54 : σ_52 25 = o0 G (25) (nI (g 0)) (nI (g 3)) (nI (g 4)) (nI (g 5)) (nI (g 6)) := (hf_51 _ (by omega)).trans hc_37
  have hc_55 : σ_52 26 = q_rn G 3 4 (fun j => some (25 + 10 + 2 * j)) := (hf_51 _ (by omega)).trans hc_38
  have hc_56 : σ_52 27 = o6 G (27) (nI (g 1)) (nI (g 2)) := (hf_51 _ (by omega)).trans hc_39
  have hc_57 : σ_52 (27 + 1) = q_an G 8 kd := (hf_51 _ (by omega)).trans hc_40
  have hc_58 : σ_52 (27 + 2) = q_an G 8 fi := (hf_51 _ (by omega)).trans hc_41
  have hc_59 : σ_52 (27 + 3) = q_an G 8 se := (hf_51 _ (by omega)).trans hc_42
  have hc_60 : σ_52 (27 + 4) = q_an G 8 tf := (hf_51 _ (by omega)).trans hc_43
  have hc_61 : σ_52 (27 + 5) = q_an G 8 ts := (hf_51 _ (by omega)).trans hc_44
  have hc_62 : σ_52 (25 + 8) = q_an G 10 ac := (hf_51 _ (by omega)).trans hc_45
  have hc_63 : σ_52 (25 + 9) = q_an G 100 tu := (hf_51 _ (by omega)).trans hc_46
  have hc_64 : ∀ j9 : Nat, j9 < g 0 → σ_52 (25 + 10 + 2 * j9) = o7 G (25 + 10 + 2 * j9) (lN (nm j9)) (lN (on j9)) (nI (s_rule g j9 18)) (nI (s_rule g j9 19)) (nI (s_rule g j9 20)) := fun j9 hj0 => (hf_51 _ (by omega)).trans (hc_47 j9 (by omega))
  have hc_65 : ∀ j9 : Nat, j9 < g 0 → σ_52 (25 + 10 + 2 * j9 + 1) = q_an G 5 (bm j9) := fun j9 hj0 => (hf_51 _ (by omega)).trans (hc_48 j9 (by omega))
  refine A_aload_n hg dX10_printRule_42 rfl rfl ?_
  refine A_getf (v := .long (lN (on r1))) hg fl_RX10_208 dX10_printRule_43 (hc_64 r1 (by omega)) (by omega) rfl ?_
  refine A_lconst (v := (lN (0))) hg dX10_printRule_46 (by decide) ?_
  refine A_lcmp hg dX10_printRule_47 ?_
  refine A_lc_eq (tgt := 91) hg dX10_printRule_48 (by omega) (by decide) (by decide) (fun c48 => ?_) (fun c48 => ?_)
  · skip
    have hL91 : L39 = s_pr1 (s_rule g r1) ++ s_prn (s_rule g r1) (s_rule g r1 9) := by
      have h9 : s_rule g r1 9 = 0 := hon.2.2.mpr c48
      rw [hL39, hL28, h9]; exact s_pr1_f h9
    have hl91 : L39.length ≤ 141 := by omega
    refine A_aload_n hg dX10_printRule_91 rfl rfl ?_
    refine A_getf (v := .ref (q_h G + 23)) hg fl_RX10_33 dX10_printRule_92 hc_53 (by omega) rfl ?_
    have hlw98 : ([32, 115, 108, 97, 99, 107] : List Nat).length = 6 := rfl
    refine A_ldcwS hg (sc_RX10_446 hg.2.2.2.2.2.2.1.1).1 dX10_printRule_95 ?_
    refine A_vV (kc2 := 1) (ks2 := 6) (As := [.ref (q_sa G RX10 446)]) (rest := []) hg lk_RX10_435 in_X5_putWord se_X5_putWord rfl dX10_printRule_98 ⟨by decide, by decide⟩ rfl rfl ⟨by decide, by decide⟩ hc_49 (by omega) rfl rfl (Nat.le_of_ble_eq_true rfl) (c_X5_putWord G ex n σ_52 L39 o39 (q_sa G RX10 446) ([32, 115, 108, 97, 99, 107]) hc_49 hc_50 (by omega) (by assumption) ((sc_RX10_446 hg.2.2.2.2.2.2.1.1).2) (by omega)) ?_
    rintro σ_69 ⟨L98, o98, hL98, hlen98, hO98, hc_66, hc_67, hf_68⟩
    have hc_70 : σ_69 0 = o10 G (z1) (z2) (z3) := (hf_68 _ (by omega)).trans hc_53
    have hc_71 : σ_69 25 = o0 G (25) (nI (g 0)) (nI (g 3)) (nI (g 4)) (nI (g 5)) (nI (g 6)) := (hf_68 _ (by omega)).trans hc_54
    have hc_72 : σ_69 26 = q_rn G 3 4 (fun j => some (25 + 10 + 2 * j)) := (hf_68 _ (by omega)).trans hc_55
    have hc_73 : σ_69 27 = o6 G (27) (nI (g 1)) (nI (g 2)) := (hf_68 _ (by omega)).trans hc_56
    have hc_74 : σ_69 (27 + 1) = q_an G 8 kd := (hf_68 _ (by omega)).trans hc_57
    have hc_75 : σ_69 (27 + 2) = q_an G 8 fi := (hf_68 _ (by omega)).trans hc_58
    have hc_76 : σ_69 (27 + 3) = q_an G 8 se := (hf_68 _ (by omega)).trans hc_59
    have hc_77 : σ_69 (27 + 4) = q_an G 8 tf := (hf_68 _ (by omega)).trans hc_60
    have hc_78 : σ_69 (27 + 5) = q_an G 8 ts := (hf_68 _ (by omega)).trans hc_61
    have hc_79 : σ_69 (25 + 8) = q_an G 10 ac := (hf_68 _ (by omega)).trans hc_62
    have hc_80 : σ_69 (25 + 9) = q_an G 100 tu := (hf_68 _ (by omega)).trans hc_63
    have hc_81 : ∀ j9 : Nat, j9 < g 0 → σ_69 (25 + 10 + 2 * j9) = o7 G (25 + 10 + 2 * j9) (lN (nm j9)) (lN (on j9)) (nI (s_rule g j9 18)) (nI (s_rule g j9 19)) (nI (s_rule g j9 20)) := fun j9 hj0 => (hf_68 _ (by omega)).trans (hc_64 j9 (by omega))
    have hc_82 : ∀ j9 : Nat, j9 < g 0 → σ_69 (25 + 10 + 2 * j9 + 1) = q_an G 5 (bm j9) := fun j9 hj0 => (hf_68 _ (by omega)).trans (hc_65 j9 (by omega))
    refine A_aload_n hg dX10_printRule_101 rfl rfl ?_
    refine A_getf (v := .ref (q_h G + 23)) hg fl_RX10_33 dX10_printRule_102 hc_70 (by omega) rfl ?_
    refine A_aload_n hg dX10_printRule_105 rfl rfl ?_
    refine A_getf (v := .int (nI (s_rule g r1 18))) hg fl_RX10_202 dX10_printRule_106 (hc_81 r1 (by omega)) (by omega) rfl ?_
    refine A_vV (kc2 := 1) (ks2 := 6) (As := [.int (nI (s_rule g r1 18))]) (rest := []) hg lk_RX10_443 in_X5_putSpaced se_X5_putSpaced rfl dX10_printRule_109 ⟨by decide, by decide⟩ rfl rfl ⟨by decide, by decide⟩ hc_66 (by omega) rfl rfl (Nat.le_of_ble_eq_true rfl) (c_X5_putSpaced G ex n σ_69 L98 o98 (s_rule g r1 18) hc_66 hc_67 (by omega) (by assumption) (by omega) (by omega)) ?_
    rintro σ_86 ⟨L109, o109, hL109, hlen109, hO109, hc_83, hc_84, hf_85⟩
    have hc_87 : σ_86 0 = o10 G (z1) (z2) (z3) := (hf_85 _ (by omega)).trans hc_70
    have hc_88 : σ_86 25 = o0 G (25) (nI (g 0)) (nI (g 3)) (nI (g 4)) (nI (g 5)) (nI (g 6)) := (hf_85 _ (by omega)).trans hc_71
    have hc_89 : σ_86 26 = q_rn G 3 4 (fun j => some (25 + 10 + 2 * j)) := (hf_85 _ (by omega)).trans hc_72
    have hc_90 : σ_86 27 = o6 G (27) (nI (g 1)) (nI (g 2)) := (hf_85 _ (by omega)).trans hc_73
    have hc_91 : σ_86 (27 + 1) = q_an G 8 kd := (hf_85 _ (by omega)).trans hc_74
    have hc_92 : σ_86 (27 + 2) = q_an G 8 fi := (hf_85 _ (by omega)).trans hc_75
    have hc_93 : σ_86 (27 + 3) = q_an G 8 se := (hf_85 _ (by omega)).trans hc_76
    have hc_94 : σ_86 (27 + 4) = q_an G 8 tf := (hf_85 _ (by omega)).trans hc_77
    have hc_95 : σ_86 (27 + 5) = q_an G 8 ts := (hf_85 _ (by omega)).trans hc_78
    have hc_96 : σ_86 (25 + 8) = q_an G 10 ac := (hf_85 _ (by omega)).trans hc_79
    have hc_97 : σ_86 (25 + 9) = q_an G 100 tu := (hf_85 _ (by omega)).trans hc_80
    have hc_98 : ∀ j9 : Nat, j9 < g 0 → σ_86 (25 + 10 + 2 * j9) = o7 G (25 + 10 + 2 * j9) (lN (nm j9)) (lN (on j9)) (nI (s_rule g j9 18)) (nI (s_rule g j9 19)) (nI (s_rule g j9 20)) := fun j9 hj0 => (hf_85 _ (by omega)).trans (hc_81 j9 (by omega))
    have hc_99 : ∀ j9 : Nat, j9 < g 0 → σ_86 (25 + 10 + 2 * j9 + 1) = q_an G 5 (bm j9) := fun j9 hj0 => (hf_85 _ (by omega)).trans (hc_82 j9 (by omega))
    refine A_aload_n hg dX10_printRule_112 rfl rfl ?_
    refine A_getf (v := .ref (q_h G + 23)) hg fl_RX10_33 dX10_printRule_113 hc_87 (by omega) rfl ?_
    have hlw119 : ([32, 109, 111, 115, 116] : List Nat).length = 5 := rfl
    refine A_ldcwS hg (sc_RX10_448 hg.2.2.2.2.2.2.1.1).1 dX10_printRule_116 ?_
    refine A_vV (kc2 := 1) (ks2 := 6) (As := [.ref (q_sa G RX10 448)]) (rest := []) hg lk_RX10_435 in_X5_putWord se_X5_putWord rfl dX10_printRule_119 ⟨by decide, by decide⟩ rfl rfl ⟨by decide, by decide⟩ hc_83 (by omega) rfl rfl (Nat.le_of_ble_eq_true rfl) (c_X5_putWord G ex n σ_86 L109 o109 (q_sa G RX10 448) ([32, 109, 111, 115, 116]) hc_83 hc_84 (by omega) (by assumption) ((sc_RX10_448 hg.2.2.2.2.2.2.1.1).2) (by omega)) ?_
    rintro σ_103 ⟨L119, o119, hL119, hlen119, hO119, hc_100, hc_101, hf_102⟩
    have hc_104 : σ_103 0 = o10 G (z1) (z2) (z3) := (hf_102 _ (by omega)).trans hc_87
    have hc_105 : σ_103 25 = o0 G (25) (nI (g 0)) (nI (g 3)) (nI (g 4)) (nI (g 5)) (nI (g 6)) := (hf_102 _ (by omega)).trans hc_88
    have hc_106 : σ_103 26 = q_rn G 3 4 (fun j => some (25 + 10 + 2 * j)) := (hf_102 _ (by omega)).trans hc_89
    have hc_107 : σ_103 27 = o6 G (27) (nI (g 1)) (nI (g 2)) := (hf_102 _ (by omega)).trans hc_90
    have hc_108 : σ_103 (27 + 1) = q_an G 8 kd := (hf_102 _ (by omega)).trans hc_91
    have hc_109 : σ_103 (27 + 2) = q_an G 8 fi := (hf_102 _ (by omega)).trans hc_92
    have hc_110 : σ_103 (27 + 3) = q_an G 8 se := (hf_102 _ (by omega)).trans hc_93
    have hc_111 : σ_103 (27 + 4) = q_an G 8 tf := (hf_102 _ (by omega)).trans hc_94
    have hc_112 : σ_103 (27 + 5) = q_an G 8 ts := (hf_102 _ (by omega)).trans hc_95
    have hc_113 : σ_103 (25 + 8) = q_an G 10 ac := (hf_102 _ (by omega)).trans hc_96
    have hc_114 : σ_103 (25 + 9) = q_an G 100 tu := (hf_102 _ (by omega)).trans hc_97
    have hc_115 : ∀ j9 : Nat, j9 < g 0 → σ_103 (25 + 10 + 2 * j9) = o7 G (25 + 10 + 2 * j9) (lN (nm j9)) (lN (on j9)) (nI (s_rule g j9 18)) (nI (s_rule g j9 19)) (nI (s_rule g j9 20)) := fun j9 hj0 => (hf_102 _ (by omega)).trans (hc_98 j9 (by omega))
    have hc_116 : ∀ j9 : Nat, j9 < g 0 → σ_103 (25 + 10 + 2 * j9 + 1) = q_an G 5 (bm j9) := fun j9 hj0 => (hf_102 _ (by omega)).trans (hc_99 j9 (by omega))
    refine A_aload_n hg dX10_printRule_122 rfl rfl ?_
    refine A_getf (v := .ref (q_h G + 23)) hg fl_RX10_33 dX10_printRule_123 hc_104 (by omega) rfl ?_
    refine A_aload_n hg dX10_printRule_126 rfl rfl ?_
    refine A_getf (v := .int (nI (s_rule g r1 19))) hg fl_RX10_205 dX10_printRule_127 (hc_115 r1 (by omega)) (by omega) rfl ?_
    refine A_vV (kc2 := 1) (ks2 := 6) (As := [.int (nI (s_rule g r1 19))]) (rest := []) hg lk_RX10_443 in_X5_putSpaced se_X5_putSpaced rfl dX10_printRule_130 ⟨by decide, by decide⟩ rfl rfl ⟨by decide, by decide⟩ hc_100 (by omega) rfl rfl (Nat.le_of_ble_eq_true rfl) (c_X5_putSpaced G ex n σ_103 L119 o119 (s_rule g r1 19) hc_100 hc_101 (by omega) (by assumption) (by omega) (by omega)) ?_
    rintro σ_120 ⟨L130, o130, hL130, hlen130, hO130, hc_117, hc_118, hf_119⟩
    have hc_121 : σ_120 0 = o10 G (z1) (z2) (z3) := (hf_119 _ (by omega)).trans hc_104
    have hc_122 : σ_120 25 = o0 G (25) (nI (g 0)) (nI (g 3)) (nI (g 4)) (nI (g 5)) (nI (g 6)) := (hf_119 _ (by omega)).trans hc_105
    have hc_123 : σ_120 26 = q_rn G 3 4 (fun j => some (25 + 10 + 2 * j)) := (hf_119 _ (by omega)).trans hc_106
    have hc_124 : σ_120 27 = o6 G (27) (nI (g 1)) (nI (g 2)) := (hf_119 _ (by omega)).trans hc_107
    have hc_125 : σ_120 (27 + 1) = q_an G 8 kd := (hf_119 _ (by omega)).trans hc_108
    have hc_126 : σ_120 (27 + 2) = q_an G 8 fi := (hf_119 _ (by omega)).trans hc_109
    have hc_127 : σ_120 (27 + 3) = q_an G 8 se := (hf_119 _ (by omega)).trans hc_110
    have hc_128 : σ_120 (27 + 4) = q_an G 8 tf := (hf_119 _ (by omega)).trans hc_111
    have hc_129 : σ_120 (27 + 5) = q_an G 8 ts := (hf_119 _ (by omega)).trans hc_112
    have hc_130 : σ_120 (25 + 8) = q_an G 10 ac := (hf_119 _ (by omega)).trans hc_113
    have hc_131 : σ_120 (25 + 9) = q_an G 100 tu := (hf_119 _ (by omega)).trans hc_114
    have hc_132 : ∀ j9 : Nat, j9 < g 0 → σ_120 (25 + 10 + 2 * j9) = o7 G (25 + 10 + 2 * j9) (lN (nm j9)) (lN (on j9)) (nI (s_rule g j9 18)) (nI (s_rule g j9 19)) (nI (s_rule g j9 20)) := fun j9 hj0 => (hf_119 _ (by omega)).trans (hc_115 j9 (by omega))
    have hc_133 : ∀ j9 : Nat, j9 < g 0 → σ_120 (25 + 10 + 2 * j9 + 1) = q_an G 5 (bm j9) := fun j9 hj0 => (hf_119 _ (by omega)).trans (hc_116 j9 (by omega))
    refine A_iconst (v := (nI (0))) hg dX10_printRule_133 (by decide) ?_
    refine A_istore_n hg dX10_printRule_134 rfl (by decide) (q_c1d rfl) ?_
    refine A_eq (ls2 := [some (.ref (q_h G + 0)), some (.int (nI (r1))), some (.ref (q_h G + (25 + 10 + 2 * r1))), some (.int (nI (0)))]) (st2 := []) (pc2 := 0) rfl rfl ?_
    have hL135 : ∀ (fu : Nat) (i : Nat) (L2 : List Nat) (o2 : Nat → Nat) (σ_134 : Nat → va_E), (σ_134 0 = o10 G (z1) (z2) (z3)) → (σ_134 25 = o0 G (25) (nI (g 0)) (nI (g 3)) (nI (g 4)) (nI (g 5)) (nI (g 6))) → (σ_134 26 = q_rn G 3 4 (fun j => some (25 + 10 + 2 * j))) → (σ_134 27 = o6 G (27) (nI (g 1)) (nI (g 2))) → (σ_134 (27 + 1) = q_an G 8 kd) → (σ_134 (27 + 2) = q_an G 8 fi) → (σ_134 (27 + 3) = q_an G 8 se) → (σ_134 (27 + 4) = q_an G 8 tf) → (σ_134 (27 + 5) = q_an G 8 ts) → (σ_134 (25 + 8) = q_an G 10 ac) → (σ_134 (25 + 9) = q_an G 100 tu) → (∀ j9 : Nat, j9 < g 0 → σ_134 (25 + 10 + 2 * j9) = o7 G (25 + 10 + 2 * j9) (lN (nm j9)) (lN (on j9)) (nI (s_rule g j9 18)) (nI (s_rule g j9 19)) (nI (s_rule g j9 20))) → (∀ j9 : Nat, j9 < g 0 → σ_134 (25 + 10 + 2 * j9 + 1) = q_an G 5 (bm j9)) → (σ_134 23 = o5 G (23) (nI (L2.length))) → (σ_134 24 = q_an G 256 o2) → (∀ i : Nat, i ≠ 23 ∧ i ≠ 24 → σ_134 i = σ i) → (i ≤ s_rule g r1 20) → (L2 = s_pr2 (s_rule g r1) ++ s_prb (s_rule g r1) i) → (L2.length ≤ 158 + 10 * i) → (∀ j : Nat, j < L2.length → o2 j = L2.getD j 0) → (s_rule g r1 20 - i) < fu → AJ G K Q 1 6 ex n 135 [some (.ref (q_h G + 0)), some (.int (nI (r1))), some (.ref (q_h G + (25 + 10 + 2 * r1))), some (.int (nI (i)))] [] σ_134 := by
      intro fu
      induction fu with
      | zero => intro i L2 o2 σ_134 hc_135 hc_136 hc_137 hc_138 hc_139 hc_140 hc_141 hc_142 hc_143 hc_144 hc_145 hc_146 hc_147 hc_148 hc_149 hf_150 hi hL2 hl2 hO2 hm; exact absurd hm (Nat.not_lt_zero _)
      | succ fu ih135 =>
        intro i L2 o2 σ_134 hc_135 hc_136 hc_137 hc_138 hc_139 hc_140 hc_141 hc_142 hc_143 hc_144 hc_145 hc_146 hc_147 hc_148 hc_149 hf_150 hi hL2 hl2 hO2 hm135
        refine A_iload_n hg dX10_printRule_135 rfl rfl ?_
        refine A_aload_n hg dX10_printRule_136 rfl rfl ?_
        refine A_getf (v := .int (nI (s_rule g r1 20))) hg fl_RX10_218 dX10_printRule_137 (hc_146 r1 (by omega)) (by omega) rfl ?_
        refine A_icmp_geN (tgt := 189) hg dX10_printRule_140 (by omega) (by omega) (by decide) (fun c140 => ?_) (fun c140 => ?_)
        · skip
          refine A_aload_n hg dX10_printRule_189 rfl rfl ?_
          refine A_getf (v := .ref (q_h G + 23)) hg fl_RX10_33 dX10_printRule_190 hc_135 (by omega) rfl ?_
          refine A_getf (v := .int (nI (L2.length))) hg fl_RX10_423 dX10_printRule_193 hc_148 (by omega) rfl ?_
          have hie : i = s_rule g r1 20 := by omega
          rw [hie] at hL2
          have hLR : L2 = (s_prR (s_rule g r1)) := hL2
          have hc_151 : σ_134 23 = o5 G (23) (nI ((s_prR (s_rule g r1)).length)) := hc_148.trans (by rw [hLR])
          rw [hQ]
          exact A_ireturn hg (by decide) (by decide) rfl dX10_printRule_196 ⟨rfl, ⟨r1, o2, (by rw [hLR]), rfl, hrl9, (by rw [← hLR]; exact hO2), (by rw [← hLR]; omega), hc_151, hc_149, (fun i hi => (hf_150 i (by omega)))⟩⟩
        · skip
          have hbi := hrr.2.2.2.2.2.2 i (by omega)
          have hb1 := hu.2.2.2.2.2.2 (2 * i) (by omega)
          have hb2 := hu.2.2.2.2.2.2 (2 * i + 1) (by omega)
          rw [← Nat.add_assoc] at hb2
          have hd1 : bm r1 i / 41 = s_rule g r1 (21 + 2 * i) := by omega
          have hd2 : bm r1 i % 41 = s_rule g r1 (21 + 2 * i + 1) := by omega
          refine A_aload_n hg dX10_printRule_143 rfl rfl ?_
          refine A_getf (v := .ref (q_h G + 23)) hg fl_RX10_33 dX10_printRule_144 hc_135 (by omega) rfl ?_
          have hlw150 : ([32, 98, 97, 114] : List Nat).length = 4 := rfl
          refine A_ldcwS hg (sc_RX10_450 hg.2.2.2.2.2.2.1.1).1 dX10_printRule_147 ?_
          refine A_vV (kc2 := 1) (ks2 := 6) (As := [.ref (q_sa G RX10 450)]) (rest := []) hg lk_RX10_435 in_X5_putWord se_X5_putWord rfl dX10_printRule_150 ⟨by decide, by decide⟩ rfl rfl ⟨by decide, by decide⟩ hc_148 (by omega) rfl rfl (Nat.le_of_ble_eq_true rfl) (c_X5_putWord G ex n σ_134 L2 o2 (q_sa G RX10 450) ([32, 98, 97, 114]) hc_148 hc_149 (by omega) (by assumption) ((sc_RX10_450 hg.2.2.2.2.2.2.1.1).2) (by omega)) ?_
          rintro σ_155 ⟨L150, o150, hL150, hlen150, hO150, hc_152, hc_153, hf_154⟩
          have hc_156 : σ_155 0 = o10 G (z1) (z2) (z3) := (hf_154 _ (by omega)).trans hc_135
          have hc_157 : σ_155 25 = o0 G (25) (nI (g 0)) (nI (g 3)) (nI (g 4)) (nI (g 5)) (nI (g 6)) := (hf_154 _ (by omega)).trans hc_136
          have hc_158 : σ_155 26 = q_rn G 3 4 (fun j => some (25 + 10 + 2 * j)) := (hf_154 _ (by omega)).trans hc_137
          have hc_159 : σ_155 27 = o6 G (27) (nI (g 1)) (nI (g 2)) := (hf_154 _ (by omega)).trans hc_138
          have hc_160 : σ_155 (27 + 1) = q_an G 8 kd := (hf_154 _ (by omega)).trans hc_139
          have hc_161 : σ_155 (27 + 2) = q_an G 8 fi := (hf_154 _ (by omega)).trans hc_140
          have hc_162 : σ_155 (27 + 3) = q_an G 8 se := (hf_154 _ (by omega)).trans hc_141
          have hc_163 : σ_155 (27 + 4) = q_an G 8 tf := (hf_154 _ (by omega)).trans hc_142
          have hc_164 : σ_155 (27 + 5) = q_an G 8 ts := (hf_154 _ (by omega)).trans hc_143
          have hc_165 : σ_155 (25 + 8) = q_an G 10 ac := (hf_154 _ (by omega)).trans hc_144
          have hc_166 : σ_155 (25 + 9) = q_an G 100 tu := (hf_154 _ (by omega)).trans hc_145
          have hc_167 : ∀ j9 : Nat, j9 < g 0 → σ_155 (25 + 10 + 2 * j9) = o7 G (25 + 10 + 2 * j9) (lN (nm j9)) (lN (on j9)) (nI (s_rule g j9 18)) (nI (s_rule g j9 19)) (nI (s_rule g j9 20)) := fun j9 hj0 => (hf_154 _ (by omega)).trans (hc_146 j9 (by omega))
          have hc_168 : ∀ j9 : Nat, j9 < g 0 → σ_155 (25 + 10 + 2 * j9 + 1) = q_an G 5 (bm j9) := fun j9 hj0 => (hf_154 _ (by omega)).trans (hc_147 j9 (by omega))
          refine A_aload_n hg dX10_printRule_153 rfl rfl ?_
          refine A_getf (v := .ref (q_h G + 23)) hg fl_RX10_33 dX10_printRule_154 hc_156 (by omega) rfl ?_
          refine A_aload_n hg dX10_printRule_157 rfl rfl ?_
          refine A_iload_n hg dX10_printRule_158 rfl rfl ?_
          refine A_hV (kc2 := 1) (ks2 := 6) (As := [.int (nI (i))]) (rest := [.ref (q_h G + 23)]) hg lk_RX10_247 in_X7_barAt se_X7_barAt rfl dX10_printRule_159 ⟨by decide, by decide⟩ rfl rfl ⟨by decide, by decide⟩ (hc_167 r1 (by omega)) (by omega) rfl rfl (Nat.le_of_ble_eq_true rfl) (c_X7_barAt G ex n σ_155 (25 + 10 + 2 * r1) (nm r1) (on r1) (s_rule g r1 18) (s_rule g r1 19) (s_rule g r1 20) (bm r1) (nI (i)) (hc_167 r1 (by omega)) (hc_168 r1 (by omega)) (by omega) (by omega)) ?_
          rintro _ σ_171 (⟨j159, rfl, hx159, hj159, he_169⟩ | ⟨rfl, hno159, he_170⟩)
          · skip
            rw [he_169]
            refine (?_ : AJ G K Q 1 6 ex n 162 [some (.ref (q_h G + 0)), some (.int (nI (r1))), some (.ref (q_h G + (25 + 10 + 2 * r1))), some (.int (nI (i)))] [.int (nI ((bm r1) j159)), .ref (q_h G + 23)] σ_155)
            have hji159 : j159 = i := (q_nI_inj (by omega) (by omega) hx159).symm
            refine A_top (w := .int (nI (bm r1 i))) (by rw [hji159]) ?_
            refine A_bipush (v := (nI (41))) hg dX10_printRule_162 (by decide) ?_
            refine A_idivN hg dX10_printRule_164 (by omega) (by decide) (by decide) ?_
            refine A_top (w := .int (nI (s_rule g r1 (21 + 2 * i)))) (by rw [hd1]) ?_
            refine A_vV (kc2 := 1) (ks2 := 6) (As := [.int (nI (s_rule g r1 (21 + 2 * i)))]) (rest := []) hg lk_RX10_443 in_X5_putSpaced se_X5_putSpaced rfl dX10_printRule_165 ⟨by decide, by decide⟩ rfl rfl ⟨by decide, by decide⟩ hc_152 (by omega) rfl rfl (Nat.le_of_ble_eq_true rfl) (c_X5_putSpaced G ex n σ_155 L150 o150 (s_rule g r1 (21 + 2 * i)) hc_152 hc_153 (by omega) (by assumption) (by omega) (by omega)) ?_
            rintro σ_175 ⟨L165, o165, hL165, hlen165, hO165, hc_172, hc_173, hf_174⟩
            have hc_176 : σ_175 0 = o10 G (z1) (z2) (z3) := (hf_174 _ (by omega)).trans hc_156
            have hc_177 : σ_175 25 = o0 G (25) (nI (g 0)) (nI (g 3)) (nI (g 4)) (nI (g 5)) (nI (g 6)) := (hf_174 _ (by omega)).trans hc_157
            have hc_178 : σ_175 26 = q_rn G 3 4 (fun j => some (25 + 10 + 2 * j)) := (hf_174 _ (by omega)).trans hc_158
            have hc_179 : σ_175 27 = o6 G (27) (nI (g 1)) (nI (g 2)) := (hf_174 _ (by omega)).trans hc_159
            have hc_180 : σ_175 (27 + 1) = q_an G 8 kd := (hf_174 _ (by omega)).trans hc_160
            have hc_181 : σ_175 (27 + 2) = q_an G 8 fi := (hf_174 _ (by omega)).trans hc_161
            have hc_182 : σ_175 (27 + 3) = q_an G 8 se := (hf_174 _ (by omega)).trans hc_162
            have hc_183 : σ_175 (27 + 4) = q_an G 8 tf := (hf_174 _ (by omega)).trans hc_163
            have hc_184 : σ_175 (27 + 5) = q_an G 8 ts := (hf_174 _ (by omega)).trans hc_164
            have hc_185 : σ_175 (25 + 8) = q_an G 10 ac := (hf_174 _ (by omega)).trans hc_165
            have hc_186 : σ_175 (25 + 9) = q_an G 100 tu := (hf_174 _ (by omega)).trans hc_166
            have hc_187 : ∀ j9 : Nat, j9 < g 0 → σ_175 (25 + 10 + 2 * j9) = o7 G (25 + 10 + 2 * j9) (lN (nm j9)) (lN (on j9)) (nI (s_rule g j9 18)) (nI (s_rule g j9 19)) (nI (s_rule g j9 20)) := fun j9 hj0 => (hf_174 _ (by omega)).trans (hc_167 j9 (by omega))
            have hc_188 : ∀ j9 : Nat, j9 < g 0 → σ_175 (25 + 10 + 2 * j9 + 1) = q_an G 5 (bm j9) := fun j9 hj0 => (hf_174 _ (by omega)).trans (hc_168 j9 (by omega))
            refine A_aload_n hg dX10_printRule_168 rfl rfl ?_
            refine A_getf (v := .ref (q_h G + 23)) hg fl_RX10_33 dX10_printRule_169 hc_176 (by omega) rfl ?_
            refine A_aload_n hg dX10_printRule_172 rfl rfl ?_
            refine A_iload_n hg dX10_printRule_173 rfl rfl ?_
            refine A_hV (kc2 := 1) (ks2 := 6) (As := [.int (nI (i))]) (rest := [.ref (q_h G + 23)]) hg lk_RX10_247 in_X7_barAt se_X7_barAt rfl dX10_printRule_174 ⟨by decide, by decide⟩ rfl rfl ⟨by decide, by decide⟩ (hc_187 r1 (by omega)) (by omega) rfl rfl (Nat.le_of_ble_eq_true rfl) (c_X7_barAt G ex n σ_175 (25 + 10 + 2 * r1) (nm r1) (on r1) (s_rule g r1 18) (s_rule g r1 19) (s_rule g r1 20) (bm r1) (nI (i)) (hc_187 r1 (by omega)) (hc_188 r1 (by omega)) (by omega) (by omega)) ?_
            rintro _ σ_191 (⟨j174, rfl, hx174, hj174, he_189⟩ | ⟨rfl, hno174, he_190⟩)
            · skip
              rw [he_189]
              refine (?_ : AJ G K Q 1 6 ex n 177 [some (.ref (q_h G + 0)), some (.int (nI (r1))), some (.ref (q_h G + (25 + 10 + 2 * r1))), some (.int (nI (i)))] [.int (nI ((bm r1) j174)), .ref (q_h G + 23)] σ_175)
              have hji174 : j174 = i := (q_nI_inj (by omega) (by omega) hx174).symm
              refine A_top (w := .int (nI (bm r1 i))) (by rw [hji174]) ?_
              refine A_bipush (v := (nI (41))) hg dX10_printRule_177 (by decide) ?_
              refine A_iremN hg dX10_printRule_179 (by omega) (by decide) (by decide) ?_
              refine A_top (w := .int (nI (s_rule g r1 (21 + 2 * i + 1)))) (by rw [hd2]) ?_
              refine A_vV (kc2 := 1) (ks2 := 6) (As := [.int (nI (s_rule g r1 (21 + 2 * i + 1)))]) (rest := []) hg lk_RX10_443 in_X5_putSpaced se_X5_putSpaced rfl dX10_printRule_180 ⟨by decide, by decide⟩ rfl rfl ⟨by decide, by decide⟩ hc_172 (by omega) rfl rfl (Nat.le_of_ble_eq_true rfl) (c_X5_putSpaced G ex n σ_175 L165 o165 (s_rule g r1 (21 + 2 * i + 1)) hc_172 hc_173 (by omega) (by assumption) (by omega) (by omega)) ?_
              rintro σ_195 ⟨L180, o180, hL180, hlen180, hO180, hc_192, hc_193, hf_194⟩
              have hc_196 : σ_195 0 = o10 G (z1) (z2) (z3) := (hf_194 _ (by omega)).trans hc_176
              have hc_197 : σ_195 25 = o0 G (25) (nI (g 0)) (nI (g 3)) (nI (g 4)) (nI (g 5)) (nI (g 6)) := (hf_194 _ (by omega)).trans hc_177
              have hc_198 : σ_195 26 = q_rn G 3 4 (fun j => some (25 + 10 + 2 * j)) := (hf_194 _ (by omega)).trans hc_178
              have hc_199 : σ_195 27 = o6 G (27) (nI (g 1)) (nI (g 2)) := (hf_194 _ (by omega)).trans hc_179
              have hc_200 : σ_195 (27 + 1) = q_an G 8 kd := (hf_194 _ (by omega)).trans hc_180
              have hc_201 : σ_195 (27 + 2) = q_an G 8 fi := (hf_194 _ (by omega)).trans hc_181
              have hc_202 : σ_195 (27 + 3) = q_an G 8 se := (hf_194 _ (by omega)).trans hc_182
              have hc_203 : σ_195 (27 + 4) = q_an G 8 tf := (hf_194 _ (by omega)).trans hc_183
              have hc_204 : σ_195 (27 + 5) = q_an G 8 ts := (hf_194 _ (by omega)).trans hc_184
              have hc_205 : σ_195 (25 + 8) = q_an G 10 ac := (hf_194 _ (by omega)).trans hc_185
              have hc_206 : σ_195 (25 + 9) = q_an G 100 tu := (hf_194 _ (by omega)).trans hc_186
              have hc_207 : ∀ j9 : Nat, j9 < g 0 → σ_195 (25 + 10 + 2 * j9) = o7 G (25 + 10 + 2 * j9) (lN (nm j9)) (lN (on j9)) (nI (s_rule g j9 18)) (nI (s_rule g j9 19)) (nI (s_rule g j9 20)) := fun j9 hj0 => (hf_194 _ (by omega)).trans (hc_187 j9 (by omega))
              have hc_208 : ∀ j9 : Nat, j9 < g 0 → σ_195 (25 + 10 + 2 * j9 + 1) = q_an G 5 (bm j9) := fun j9 hj0 => (hf_194 _ (by omega)).trans (hc_188 j9 (by omega))
              refine A_iincN (k' := 1) hg dX10_printRule_183 (by decide) rfl (by decide) (q_c1d rfl) ?_
              refine A_eq (ls2 := [some (.ref (q_h G + 0)), some (.int (nI (r1))), some (.ref (q_h G + (25 + 10 + 2 * r1))), some (.int (nI (i + 1)))]) (st2 := []) (pc2 := 0) rfl rfl ?_
              refine A_goto (tgt := 135) hg dX10_printRule_186 (by decide) ?_
              exact ih135 (i + 1) L180 o180 σ_195 hc_196 hc_197 hc_198 hc_199 hc_200 hc_201 hc_202 hc_203 hc_204 hc_205 hc_206 hc_207 hc_208 hc_192 hc_193 (fun i hi => ((hf_194 i (by omega)).trans ((hf_174 i (by omega)).trans ((hf_154 i (by omega)).trans (hf_150 i (by omega)))))) (by omega) (by rw [hL180, hL165, hL150, hL2]; exact s_prb_s _) (by omega) hO180 (by omega)
            · skip
              rw [he_190]
              refine (?_ : AJ G K Q 1 6 ex n 177 [some (.ref (q_h G + 0)), some (.int (nI (r1))), some (.ref (q_h G + (25 + 10 + 2 * r1))), some (.int (nI (i)))] [.int (q_d (0)), .ref (q_h G + 23)] σ_175)
              exact absurd rfl (fun e => hno174 i (by omega) e)
          · skip
            rw [he_170]
            refine (?_ : AJ G K Q 1 6 ex n 162 [some (.ref (q_h G + 0)), some (.int (nI (r1))), some (.ref (q_h G + (25 + 10 + 2 * r1))), some (.int (nI (i)))] [.int (q_d (0)), .ref (q_h G + 23)] σ_155)
            exact absurd rfl (fun e => hno159 i (by omega) e)
    exact hL135 _ 0 L130 o130 σ_120 hc_121 hc_122 hc_123 hc_124 hc_125 hc_126 hc_127 hc_128 hc_129 hc_130 hc_131 hc_132 hc_133 hc_117 hc_118 (fun i hi => ((hf_119 i (by omega)).trans ((hf_102 i (by omega)).trans ((hf_85 i (by omega)).trans ((hf_68 i (by omega)).trans ((hf_51 i (by omega)).trans ((hf_34 i (by omega)).trans (hf_16 i (by omega))))))))) (Nat.zero_le _) (by rw [hL130, hL119, hL109, hL98, hL91]; exact s_pr2_e) (by omega) hO130 (Nat.lt_succ_self _)
  · skip
    refine A_aload_n hg dX10_printRule_51 rfl rfl ?_
    refine A_getf (v := .ref (q_h G + 23)) hg fl_RX10_33 dX10_printRule_52 hc_53 (by omega) rfl ?_
    have hlw58 : ([32, 111, 110, 108, 121] : List Nat).length = 5 := rfl
    refine A_ldcwS hg (sc_RX10_438 hg.2.2.2.2.2.2.1.1).1 dX10_printRule_55 ?_
    refine A_vV (kc2 := 1) (ks2 := 6) (As := [.ref (q_sa G RX10 438)]) (rest := []) hg lk_RX10_435 in_X5_putWord se_X5_putWord rfl dX10_printRule_58 ⟨by decide, by decide⟩ rfl rfl ⟨by decide, by decide⟩ hc_49 (by omega) rfl rfl (Nat.le_of_ble_eq_true rfl) (c_X5_putWord G ex n σ_52 L39 o39 (q_sa G RX10 438) ([32, 111, 110, 108, 121]) hc_49 hc_50 (by omega) (by assumption) ((sc_RX10_438 hg.2.2.2.2.2.2.1.1).2) (by omega)) ?_
    rintro σ_212 ⟨L58, o58, hL58, hlen58, hO58, hc_209, hc_210, hf_211⟩
    have hc_213 : σ_212 0 = o10 G (z1) (z2) (z3) := (hf_211 _ (by omega)).trans hc_53
    have hc_214 : σ_212 25 = o0 G (25) (nI (g 0)) (nI (g 3)) (nI (g 4)) (nI (g 5)) (nI (g 6)) := (hf_211 _ (by omega)).trans hc_54
    have hc_215 : σ_212 26 = q_rn G 3 4 (fun j => some (25 + 10 + 2 * j)) := (hf_211 _ (by omega)).trans hc_55
    have hc_216 : σ_212 27 = o6 G (27) (nI (g 1)) (nI (g 2)) := (hf_211 _ (by omega)).trans hc_56
    have hc_217 : σ_212 (27 + 1) = q_an G 8 kd := (hf_211 _ (by omega)).trans hc_57
    have hc_218 : σ_212 (27 + 2) = q_an G 8 fi := (hf_211 _ (by omega)).trans hc_58
    have hc_219 : σ_212 (27 + 3) = q_an G 8 se := (hf_211 _ (by omega)).trans hc_59
    have hc_220 : σ_212 (27 + 4) = q_an G 8 tf := (hf_211 _ (by omega)).trans hc_60
    have hc_221 : σ_212 (27 + 5) = q_an G 8 ts := (hf_211 _ (by omega)).trans hc_61
    have hc_222 : σ_212 (25 + 8) = q_an G 10 ac := (hf_211 _ (by omega)).trans hc_62
    have hc_223 : σ_212 (25 + 9) = q_an G 100 tu := (hf_211 _ (by omega)).trans hc_63
    have hc_224 : ∀ j9 : Nat, j9 < g 0 → σ_212 (25 + 10 + 2 * j9) = o7 G (25 + 10 + 2 * j9) (lN (nm j9)) (lN (on j9)) (nI (s_rule g j9 18)) (nI (s_rule g j9 19)) (nI (s_rule g j9 20)) := fun j9 hj0 => (hf_211 _ (by omega)).trans (hc_64 j9 (by omega))
    have hc_225 : ∀ j9 : Nat, j9 < g 0 → σ_212 (25 + 10 + 2 * j9 + 1) = q_an G 5 (bm j9) := fun j9 hj0 => (hf_211 _ (by omega)).trans (hc_65 j9 (by omega))
    refine A_iconst (v := (nI (1))) hg dX10_printRule_61 (by decide) ?_
    refine A_istore_n hg dX10_printRule_62 rfl (by decide) (q_c1d rfl) ?_
    refine A_eq (ls2 := [some (.ref (q_h G + 0)), some (.int (nI (r1))), some (.ref (q_h G + (25 + 10 + 2 * r1))), some (.int (nI (1)))]) (st2 := []) (pc2 := 0) rfl rfl ?_
    have hL63 : ∀ (fu : Nat) (q : Nat) (L1 : List Nat) (o1 : Nat → Nat) (σ_226 : Nat → va_E), (σ_226 0 = o10 G (z1) (z2) (z3)) → (σ_226 25 = o0 G (25) (nI (g 0)) (nI (g 3)) (nI (g 4)) (nI (g 5)) (nI (g 6))) → (σ_226 26 = q_rn G 3 4 (fun j => some (25 + 10 + 2 * j))) → (σ_226 27 = o6 G (27) (nI (g 1)) (nI (g 2))) → (σ_226 (27 + 1) = q_an G 8 kd) → (σ_226 (27 + 2) = q_an G 8 fi) → (σ_226 (27 + 3) = q_an G 8 se) → (σ_226 (27 + 4) = q_an G 8 tf) → (σ_226 (27 + 5) = q_an G 8 ts) → (σ_226 (25 + 8) = q_an G 10 ac) → (σ_226 (25 + 9) = q_an G 100 tu) → (∀ j9 : Nat, j9 < g 0 → σ_226 (25 + 10 + 2 * j9) = o7 G (25 + 10 + 2 * j9) (lN (nm j9)) (lN (on j9)) (nI (s_rule g j9 18)) (nI (s_rule g j9 19)) (nI (s_rule g j9 20))) → (∀ j9 : Nat, j9 < g 0 → σ_226 (25 + 10 + 2 * j9 + 1) = q_an G 5 (bm j9)) → (σ_226 23 = o5 G (23) (nI (L1.length))) → (σ_226 24 = q_an G 256 o1) → (∀ i : Nat, i ≠ 23 ∧ i ≠ 24 → σ_226 i = σ i) → (1 ≤ q ∧ q ≤ 41) → (L1 = s_pr1 (s_rule g r1) ++ s_prn (s_rule g r1) (x_oc (on r1) q)) → (L1.length ≤ 18 + 3 * q) → (∀ j : Nat, j < L1.length → o1 j = L1.getD j 0) → (41 - q) < fu → AJ G K Q 1 6 ex n 63 [some (.ref (q_h G + 0)), some (.int (nI (r1))), some (.ref (q_h G + (25 + 10 + 2 * r1))), some (.int (nI (q)))] [] σ_226 := by
      intro fu
      induction fu with
      | zero => intro q L1 o1 σ_226 hc_227 hc_228 hc_229 hc_230 hc_231 hc_232 hc_233 hc_234 hc_235 hc_236 hc_237 hc_238 hc_239 hc_240 hc_241 hf_242 hq hL1 hl1 hO1 hm; exact absurd hm (Nat.not_lt_zero _)
      | succ fu ih63 =>
        intro q L1 o1 σ_226 hc_227 hc_228 hc_229 hc_230 hc_231 hc_232 hc_233 hc_234 hc_235 hc_236 hc_237 hc_238 hc_239 hc_240 hc_241 hf_242 hq hL1 hl1 hO1 hm63
        refine A_iload_n hg dX10_printRule_63 rfl rfl ?_
        refine A_bipush (v := (nI (40))) hg dX10_printRule_64 (by decide) ?_
        refine A_icmp_gtN (tgt := 91) hg dX10_printRule_66 (by omega) (by decide) (by decide) (fun c66 => ?_) (fun c66 => ?_)
        · skip
          have hL91 : L1 = s_pr1 (s_rule g r1) ++ s_prn (s_rule g r1) (s_rule g r1 9) := by rw [hL1, show q = 41 by omega, x_oc_all hon hrr.2.2.1]
          have hl91 : L1.length ≤ 141 := by omega
          refine A_aload_n hg dX10_printRule_91 rfl rfl ?_
          refine A_getf (v := .ref (q_h G + 23)) hg fl_RX10_33 dX10_printRule_92 hc_227 (by omega) rfl ?_
          have hlw98 : ([32, 115, 108, 97, 99, 107] : List Nat).length = 6 := rfl
          refine A_ldcwS hg (sc_RX10_446 hg.2.2.2.2.2.2.1.1).1 dX10_printRule_95 ?_
          refine A_vV (kc2 := 1) (ks2 := 6) (As := [.ref (q_sa G RX10 446)]) (rest := []) hg lk_RX10_435 in_X5_putWord se_X5_putWord rfl dX10_printRule_98 ⟨by decide, by decide⟩ rfl rfl ⟨by decide, by decide⟩ hc_240 (by omega) rfl rfl (Nat.le_of_ble_eq_true rfl) (c_X5_putWord G ex n σ_226 L1 o1 (q_sa G RX10 446) ([32, 115, 108, 97, 99, 107]) hc_240 hc_241 (by omega) (by assumption) ((sc_RX10_446 hg.2.2.2.2.2.2.1.1).2) (by omega)) ?_
          rintro σ_246 ⟨L98, o98, hL98, hlen98, hO98, hc_243, hc_244, hf_245⟩
          have hc_247 : σ_246 0 = o10 G (z1) (z2) (z3) := (hf_245 _ (by omega)).trans hc_227
          have hc_248 : σ_246 25 = o0 G (25) (nI (g 0)) (nI (g 3)) (nI (g 4)) (nI (g 5)) (nI (g 6)) := (hf_245 _ (by omega)).trans hc_228
          have hc_249 : σ_246 26 = q_rn G 3 4 (fun j => some (25 + 10 + 2 * j)) := (hf_245 _ (by omega)).trans hc_229
          have hc_250 : σ_246 27 = o6 G (27) (nI (g 1)) (nI (g 2)) := (hf_245 _ (by omega)).trans hc_230
          have hc_251 : σ_246 (27 + 1) = q_an G 8 kd := (hf_245 _ (by omega)).trans hc_231
          have hc_252 : σ_246 (27 + 2) = q_an G 8 fi := (hf_245 _ (by omega)).trans hc_232
          have hc_253 : σ_246 (27 + 3) = q_an G 8 se := (hf_245 _ (by omega)).trans hc_233
          have hc_254 : σ_246 (27 + 4) = q_an G 8 tf := (hf_245 _ (by omega)).trans hc_234
          have hc_255 : σ_246 (27 + 5) = q_an G 8 ts := (hf_245 _ (by omega)).trans hc_235
          have hc_256 : σ_246 (25 + 8) = q_an G 10 ac := (hf_245 _ (by omega)).trans hc_236
          have hc_257 : σ_246 (25 + 9) = q_an G 100 tu := (hf_245 _ (by omega)).trans hc_237
          have hc_258 : ∀ j9 : Nat, j9 < g 0 → σ_246 (25 + 10 + 2 * j9) = o7 G (25 + 10 + 2 * j9) (lN (nm j9)) (lN (on j9)) (nI (s_rule g j9 18)) (nI (s_rule g j9 19)) (nI (s_rule g j9 20)) := fun j9 hj0 => (hf_245 _ (by omega)).trans (hc_238 j9 (by omega))
          have hc_259 : ∀ j9 : Nat, j9 < g 0 → σ_246 (25 + 10 + 2 * j9 + 1) = q_an G 5 (bm j9) := fun j9 hj0 => (hf_245 _ (by omega)).trans (hc_239 j9 (by omega))
          refine A_aload_n hg dX10_printRule_101 rfl rfl ?_
          refine A_getf (v := .ref (q_h G + 23)) hg fl_RX10_33 dX10_printRule_102 hc_247 (by omega) rfl ?_
          refine A_aload_n hg dX10_printRule_105 rfl rfl ?_
          refine A_getf (v := .int (nI (s_rule g r1 18))) hg fl_RX10_202 dX10_printRule_106 (hc_258 r1 (by omega)) (by omega) rfl ?_
          refine A_vV (kc2 := 1) (ks2 := 6) (As := [.int (nI (s_rule g r1 18))]) (rest := []) hg lk_RX10_443 in_X5_putSpaced se_X5_putSpaced rfl dX10_printRule_109 ⟨by decide, by decide⟩ rfl rfl ⟨by decide, by decide⟩ hc_243 (by omega) rfl rfl (Nat.le_of_ble_eq_true rfl) (c_X5_putSpaced G ex n σ_246 L98 o98 (s_rule g r1 18) hc_243 hc_244 (by omega) (by assumption) (by omega) (by omega)) ?_
          rintro σ_263 ⟨L109, o109, hL109, hlen109, hO109, hc_260, hc_261, hf_262⟩
          have hc_264 : σ_263 0 = o10 G (z1) (z2) (z3) := (hf_262 _ (by omega)).trans hc_247
          have hc_265 : σ_263 25 = o0 G (25) (nI (g 0)) (nI (g 3)) (nI (g 4)) (nI (g 5)) (nI (g 6)) := (hf_262 _ (by omega)).trans hc_248
          have hc_266 : σ_263 26 = q_rn G 3 4 (fun j => some (25 + 10 + 2 * j)) := (hf_262 _ (by omega)).trans hc_249
          have hc_267 : σ_263 27 = o6 G (27) (nI (g 1)) (nI (g 2)) := (hf_262 _ (by omega)).trans hc_250
          have hc_268 : σ_263 (27 + 1) = q_an G 8 kd := (hf_262 _ (by omega)).trans hc_251
          have hc_269 : σ_263 (27 + 2) = q_an G 8 fi := (hf_262 _ (by omega)).trans hc_252
          have hc_270 : σ_263 (27 + 3) = q_an G 8 se := (hf_262 _ (by omega)).trans hc_253
          have hc_271 : σ_263 (27 + 4) = q_an G 8 tf := (hf_262 _ (by omega)).trans hc_254
          have hc_272 : σ_263 (27 + 5) = q_an G 8 ts := (hf_262 _ (by omega)).trans hc_255
          have hc_273 : σ_263 (25 + 8) = q_an G 10 ac := (hf_262 _ (by omega)).trans hc_256
          have hc_274 : σ_263 (25 + 9) = q_an G 100 tu := (hf_262 _ (by omega)).trans hc_257
          have hc_275 : ∀ j9 : Nat, j9 < g 0 → σ_263 (25 + 10 + 2 * j9) = o7 G (25 + 10 + 2 * j9) (lN (nm j9)) (lN (on j9)) (nI (s_rule g j9 18)) (nI (s_rule g j9 19)) (nI (s_rule g j9 20)) := fun j9 hj0 => (hf_262 _ (by omega)).trans (hc_258 j9 (by omega))
          have hc_276 : ∀ j9 : Nat, j9 < g 0 → σ_263 (25 + 10 + 2 * j9 + 1) = q_an G 5 (bm j9) := fun j9 hj0 => (hf_262 _ (by omega)).trans (hc_259 j9 (by omega))
          refine A_aload_n hg dX10_printRule_112 rfl rfl ?_
          refine A_getf (v := .ref (q_h G + 23)) hg fl_RX10_33 dX10_printRule_113 hc_264 (by omega) rfl ?_
          have hlw119 : ([32, 109, 111, 115, 116] : List Nat).length = 5 := rfl
          refine A_ldcwS hg (sc_RX10_448 hg.2.2.2.2.2.2.1.1).1 dX10_printRule_116 ?_
          refine A_vV (kc2 := 1) (ks2 := 6) (As := [.ref (q_sa G RX10 448)]) (rest := []) hg lk_RX10_435 in_X5_putWord se_X5_putWord rfl dX10_printRule_119 ⟨by decide, by decide⟩ rfl rfl ⟨by decide, by decide⟩ hc_260 (by omega) rfl rfl (Nat.le_of_ble_eq_true rfl) (c_X5_putWord G ex n σ_263 L109 o109 (q_sa G RX10 448) ([32, 109, 111, 115, 116]) hc_260 hc_261 (by omega) (by assumption) ((sc_RX10_448 hg.2.2.2.2.2.2.1.1).2) (by omega)) ?_
          rintro σ_280 ⟨L119, o119, hL119, hlen119, hO119, hc_277, hc_278, hf_279⟩
          have hc_281 : σ_280 0 = o10 G (z1) (z2) (z3) := (hf_279 _ (by omega)).trans hc_264
          have hc_282 : σ_280 25 = o0 G (25) (nI (g 0)) (nI (g 3)) (nI (g 4)) (nI (g 5)) (nI (g 6)) := (hf_279 _ (by omega)).trans hc_265
          have hc_283 : σ_280 26 = q_rn G 3 4 (fun j => some (25 + 10 + 2 * j)) := (hf_279 _ (by omega)).trans hc_266
          have hc_284 : σ_280 27 = o6 G (27) (nI (g 1)) (nI (g 2)) := (hf_279 _ (by omega)).trans hc_267
          have hc_285 : σ_280 (27 + 1) = q_an G 8 kd := (hf_279 _ (by omega)).trans hc_268
          have hc_286 : σ_280 (27 + 2) = q_an G 8 fi := (hf_279 _ (by omega)).trans hc_269
          have hc_287 : σ_280 (27 + 3) = q_an G 8 se := (hf_279 _ (by omega)).trans hc_270
          have hc_288 : σ_280 (27 + 4) = q_an G 8 tf := (hf_279 _ (by omega)).trans hc_271
          have hc_289 : σ_280 (27 + 5) = q_an G 8 ts := (hf_279 _ (by omega)).trans hc_272
          have hc_290 : σ_280 (25 + 8) = q_an G 10 ac := (hf_279 _ (by omega)).trans hc_273
          have hc_291 : σ_280 (25 + 9) = q_an G 100 tu := (hf_279 _ (by omega)).trans hc_274
          have hc_292 : ∀ j9 : Nat, j9 < g 0 → σ_280 (25 + 10 + 2 * j9) = o7 G (25 + 10 + 2 * j9) (lN (nm j9)) (lN (on j9)) (nI (s_rule g j9 18)) (nI (s_rule g j9 19)) (nI (s_rule g j9 20)) := fun j9 hj0 => (hf_279 _ (by omega)).trans (hc_275 j9 (by omega))
          have hc_293 : ∀ j9 : Nat, j9 < g 0 → σ_280 (25 + 10 + 2 * j9 + 1) = q_an G 5 (bm j9) := fun j9 hj0 => (hf_279 _ (by omega)).trans (hc_276 j9 (by omega))
          refine A_aload_n hg dX10_printRule_122 rfl rfl ?_
          refine A_getf (v := .ref (q_h G + 23)) hg fl_RX10_33 dX10_printRule_123 hc_281 (by omega) rfl ?_
          refine A_aload_n hg dX10_printRule_126 rfl rfl ?_
          refine A_getf (v := .int (nI (s_rule g r1 19))) hg fl_RX10_205 dX10_printRule_127 (hc_292 r1 (by omega)) (by omega) rfl ?_
          refine A_vV (kc2 := 1) (ks2 := 6) (As := [.int (nI (s_rule g r1 19))]) (rest := []) hg lk_RX10_443 in_X5_putSpaced se_X5_putSpaced rfl dX10_printRule_130 ⟨by decide, by decide⟩ rfl rfl ⟨by decide, by decide⟩ hc_277 (by omega) rfl rfl (Nat.le_of_ble_eq_true rfl) (c_X5_putSpaced G ex n σ_280 L119 o119 (s_rule g r1 19) hc_277 hc_278 (by omega) (by assumption) (by omega) (by omega)) ?_
          rintro σ_297 ⟨L130, o130, hL130, hlen130, hO130, hc_294, hc_295, hf_296⟩
          have hc_298 : σ_297 0 = o10 G (z1) (z2) (z3) := (hf_296 _ (by omega)).trans hc_281
          have hc_299 : σ_297 25 = o0 G (25) (nI (g 0)) (nI (g 3)) (nI (g 4)) (nI (g 5)) (nI (g 6)) := (hf_296 _ (by omega)).trans hc_282
          have hc_300 : σ_297 26 = q_rn G 3 4 (fun j => some (25 + 10 + 2 * j)) := (hf_296 _ (by omega)).trans hc_283
          have hc_301 : σ_297 27 = o6 G (27) (nI (g 1)) (nI (g 2)) := (hf_296 _ (by omega)).trans hc_284
          have hc_302 : σ_297 (27 + 1) = q_an G 8 kd := (hf_296 _ (by omega)).trans hc_285
          have hc_303 : σ_297 (27 + 2) = q_an G 8 fi := (hf_296 _ (by omega)).trans hc_286
          have hc_304 : σ_297 (27 + 3) = q_an G 8 se := (hf_296 _ (by omega)).trans hc_287
          have hc_305 : σ_297 (27 + 4) = q_an G 8 tf := (hf_296 _ (by omega)).trans hc_288
          have hc_306 : σ_297 (27 + 5) = q_an G 8 ts := (hf_296 _ (by omega)).trans hc_289
          have hc_307 : σ_297 (25 + 8) = q_an G 10 ac := (hf_296 _ (by omega)).trans hc_290
          have hc_308 : σ_297 (25 + 9) = q_an G 100 tu := (hf_296 _ (by omega)).trans hc_291
          have hc_309 : ∀ j9 : Nat, j9 < g 0 → σ_297 (25 + 10 + 2 * j9) = o7 G (25 + 10 + 2 * j9) (lN (nm j9)) (lN (on j9)) (nI (s_rule g j9 18)) (nI (s_rule g j9 19)) (nI (s_rule g j9 20)) := fun j9 hj0 => (hf_296 _ (by omega)).trans (hc_292 j9 (by omega))
          have hc_310 : ∀ j9 : Nat, j9 < g 0 → σ_297 (25 + 10 + 2 * j9 + 1) = q_an G 5 (bm j9) := fun j9 hj0 => (hf_296 _ (by omega)).trans (hc_293 j9 (by omega))
          refine A_iconst (v := (nI (0))) hg dX10_printRule_133 (by decide) ?_
          refine A_istore_n hg dX10_printRule_134 rfl (by decide) (q_c1d rfl) ?_
          refine A_eq (ls2 := [some (.ref (q_h G + 0)), some (.int (nI (r1))), some (.ref (q_h G + (25 + 10 + 2 * r1))), some (.int (nI (0)))]) (st2 := []) (pc2 := 0) rfl rfl ?_
          have hL135 : ∀ (fu : Nat) (i : Nat) (L2 : List Nat) (o2 : Nat → Nat) (σ_311 : Nat → va_E), (σ_311 0 = o10 G (z1) (z2) (z3)) → (σ_311 25 = o0 G (25) (nI (g 0)) (nI (g 3)) (nI (g 4)) (nI (g 5)) (nI (g 6))) → (σ_311 26 = q_rn G 3 4 (fun j => some (25 + 10 + 2 * j))) → (σ_311 27 = o6 G (27) (nI (g 1)) (nI (g 2))) → (σ_311 (27 + 1) = q_an G 8 kd) → (σ_311 (27 + 2) = q_an G 8 fi) → (σ_311 (27 + 3) = q_an G 8 se) → (σ_311 (27 + 4) = q_an G 8 tf) → (σ_311 (27 + 5) = q_an G 8 ts) → (σ_311 (25 + 8) = q_an G 10 ac) → (σ_311 (25 + 9) = q_an G 100 tu) → (∀ j9 : Nat, j9 < g 0 → σ_311 (25 + 10 + 2 * j9) = o7 G (25 + 10 + 2 * j9) (lN (nm j9)) (lN (on j9)) (nI (s_rule g j9 18)) (nI (s_rule g j9 19)) (nI (s_rule g j9 20))) → (∀ j9 : Nat, j9 < g 0 → σ_311 (25 + 10 + 2 * j9 + 1) = q_an G 5 (bm j9)) → (σ_311 23 = o5 G (23) (nI (L2.length))) → (σ_311 24 = q_an G 256 o2) → (∀ i : Nat, i ≠ 23 ∧ i ≠ 24 → σ_311 i = σ i) → (i ≤ s_rule g r1 20) → (L2 = s_pr2 (s_rule g r1) ++ s_prb (s_rule g r1) i) → (L2.length ≤ 158 + 10 * i) → (∀ j : Nat, j < L2.length → o2 j = L2.getD j 0) → (s_rule g r1 20 - i) < fu → AJ G K Q 1 6 ex n 135 [some (.ref (q_h G + 0)), some (.int (nI (r1))), some (.ref (q_h G + (25 + 10 + 2 * r1))), some (.int (nI (i)))] [] σ_311 := by
            intro fu
            induction fu with
            | zero => intro i L2 o2 σ_311 hc_312 hc_313 hc_314 hc_315 hc_316 hc_317 hc_318 hc_319 hc_320 hc_321 hc_322 hc_323 hc_324 hc_325 hc_326 hf_327 hi hL2 hl2 hO2 hm; exact absurd hm (Nat.not_lt_zero _)
            | succ fu ih135 =>
              intro i L2 o2 σ_311 hc_312 hc_313 hc_314 hc_315 hc_316 hc_317 hc_318 hc_319 hc_320 hc_321 hc_322 hc_323 hc_324 hc_325 hc_326 hf_327 hi hL2 hl2 hO2 hm135
              refine A_iload_n hg dX10_printRule_135 rfl rfl ?_
              refine A_aload_n hg dX10_printRule_136 rfl rfl ?_
              refine A_getf (v := .int (nI (s_rule g r1 20))) hg fl_RX10_218 dX10_printRule_137 (hc_323 r1 (by omega)) (by omega) rfl ?_
              refine A_icmp_geN (tgt := 189) hg dX10_printRule_140 (by omega) (by omega) (by decide) (fun c140 => ?_) (fun c140 => ?_)
              · skip
                refine A_aload_n hg dX10_printRule_189 rfl rfl ?_
                refine A_getf (v := .ref (q_h G + 23)) hg fl_RX10_33 dX10_printRule_190 hc_312 (by omega) rfl ?_
                refine A_getf (v := .int (nI (L2.length))) hg fl_RX10_423 dX10_printRule_193 hc_325 (by omega) rfl ?_
                have hie : i = s_rule g r1 20 := by omega
                rw [hie] at hL2
                have hLR : L2 = (s_prR (s_rule g r1)) := hL2
                have hc_328 : σ_311 23 = o5 G (23) (nI ((s_prR (s_rule g r1)).length)) := hc_325.trans (by rw [hLR])
                rw [hQ]
                exact A_ireturn hg (by decide) (by decide) rfl dX10_printRule_196 ⟨rfl, ⟨r1, o2, (by rw [hLR]), rfl, hrl9, (by rw [← hLR]; exact hO2), (by rw [← hLR]; omega), hc_328, hc_326, (fun i hi => (hf_327 i (by omega)))⟩⟩
              · skip
                have hbi := hrr.2.2.2.2.2.2 i (by omega)
                have hb1 := hu.2.2.2.2.2.2 (2 * i) (by omega)
                have hb2 := hu.2.2.2.2.2.2 (2 * i + 1) (by omega)
                rw [← Nat.add_assoc] at hb2
                have hd1 : bm r1 i / 41 = s_rule g r1 (21 + 2 * i) := by omega
                have hd2 : bm r1 i % 41 = s_rule g r1 (21 + 2 * i + 1) := by omega
                refine A_aload_n hg dX10_printRule_143 rfl rfl ?_
                refine A_getf (v := .ref (q_h G + 23)) hg fl_RX10_33 dX10_printRule_144 hc_312 (by omega) rfl ?_
                have hlw150 : ([32, 98, 97, 114] : List Nat).length = 4 := rfl
                refine A_ldcwS hg (sc_RX10_450 hg.2.2.2.2.2.2.1.1).1 dX10_printRule_147 ?_
                refine A_vV (kc2 := 1) (ks2 := 6) (As := [.ref (q_sa G RX10 450)]) (rest := []) hg lk_RX10_435 in_X5_putWord se_X5_putWord rfl dX10_printRule_150 ⟨by decide, by decide⟩ rfl rfl ⟨by decide, by decide⟩ hc_325 (by omega) rfl rfl (Nat.le_of_ble_eq_true rfl) (c_X5_putWord G ex n σ_311 L2 o2 (q_sa G RX10 450) ([32, 98, 97, 114]) hc_325 hc_326 (by omega) (by assumption) ((sc_RX10_450 hg.2.2.2.2.2.2.1.1).2) (by omega)) ?_
                rintro σ_332 ⟨L150, o150, hL150, hlen150, hO150, hc_329, hc_330, hf_331⟩
                have hc_333 : σ_332 0 = o10 G (z1) (z2) (z3) := (hf_331 _ (by omega)).trans hc_312
                have hc_334 : σ_332 25 = o0 G (25) (nI (g 0)) (nI (g 3)) (nI (g 4)) (nI (g 5)) (nI (g 6)) := (hf_331 _ (by omega)).trans hc_313
                have hc_335 : σ_332 26 = q_rn G 3 4 (fun j => some (25 + 10 + 2 * j)) := (hf_331 _ (by omega)).trans hc_314
                have hc_336 : σ_332 27 = o6 G (27) (nI (g 1)) (nI (g 2)) := (hf_331 _ (by omega)).trans hc_315
                have hc_337 : σ_332 (27 + 1) = q_an G 8 kd := (hf_331 _ (by omega)).trans hc_316
                have hc_338 : σ_332 (27 + 2) = q_an G 8 fi := (hf_331 _ (by omega)).trans hc_317
                have hc_339 : σ_332 (27 + 3) = q_an G 8 se := (hf_331 _ (by omega)).trans hc_318
                have hc_340 : σ_332 (27 + 4) = q_an G 8 tf := (hf_331 _ (by omega)).trans hc_319
                have hc_341 : σ_332 (27 + 5) = q_an G 8 ts := (hf_331 _ (by omega)).trans hc_320
                have hc_342 : σ_332 (25 + 8) = q_an G 10 ac := (hf_331 _ (by omega)).trans hc_321
                have hc_343 : σ_332 (25 + 9) = q_an G 100 tu := (hf_331 _ (by omega)).trans hc_322
                have hc_344 : ∀ j9 : Nat, j9 < g 0 → σ_332 (25 + 10 + 2 * j9) = o7 G (25 + 10 + 2 * j9) (lN (nm j9)) (lN (on j9)) (nI (s_rule g j9 18)) (nI (s_rule g j9 19)) (nI (s_rule g j9 20)) := fun j9 hj0 => (hf_331 _ (by omega)).trans (hc_323 j9 (by omega))
                have hc_345 : ∀ j9 : Nat, j9 < g 0 → σ_332 (25 + 10 + 2 * j9 + 1) = q_an G 5 (bm j9) := fun j9 hj0 => (hf_331 _ (by omega)).trans (hc_324 j9 (by omega))
                refine A_aload_n hg dX10_printRule_153 rfl rfl ?_
                refine A_getf (v := .ref (q_h G + 23)) hg fl_RX10_33 dX10_printRule_154 hc_333 (by omega) rfl ?_
                refine A_aload_n hg dX10_printRule_157 rfl rfl ?_
                refine A_iload_n hg dX10_printRule_158 rfl rfl ?_
                refine A_hV (kc2 := 1) (ks2 := 6) (As := [.int (nI (i))]) (rest := [.ref (q_h G + 23)]) hg lk_RX10_247 in_X7_barAt se_X7_barAt rfl dX10_printRule_159 ⟨by decide, by decide⟩ rfl rfl ⟨by decide, by decide⟩ (hc_344 r1 (by omega)) (by omega) rfl rfl (Nat.le_of_ble_eq_true rfl) (c_X7_barAt G ex n σ_332 (25 + 10 + 2 * r1) (nm r1) (on r1) (s_rule g r1 18) (s_rule g r1 19) (s_rule g r1 20) (bm r1) (nI (i)) (hc_344 r1 (by omega)) (hc_345 r1 (by omega)) (by omega) (by omega)) ?_
                rintro _ σ_348 (⟨j159, rfl, hx159, hj159, he_346⟩ | ⟨rfl, hno159, he_347⟩)
                · skip
                  rw [he_346]
                  refine (?_ : AJ G K Q 1 6 ex n 162 [some (.ref (q_h G + 0)), some (.int (nI (r1))), some (.ref (q_h G + (25 + 10 + 2 * r1))), some (.int (nI (i)))] [.int (nI ((bm r1) j159)), .ref (q_h G + 23)] σ_332)
                  have hji159 : j159 = i := (q_nI_inj (by omega) (by omega) hx159).symm
                  refine A_top (w := .int (nI (bm r1 i))) (by rw [hji159]) ?_
                  refine A_bipush (v := (nI (41))) hg dX10_printRule_162 (by decide) ?_
                  refine A_idivN hg dX10_printRule_164 (by omega) (by decide) (by decide) ?_
                  refine A_top (w := .int (nI (s_rule g r1 (21 + 2 * i)))) (by rw [hd1]) ?_
                  refine A_vV (kc2 := 1) (ks2 := 6) (As := [.int (nI (s_rule g r1 (21 + 2 * i)))]) (rest := []) hg lk_RX10_443 in_X5_putSpaced se_X5_putSpaced rfl dX10_printRule_165 ⟨by decide, by decide⟩ rfl rfl ⟨by decide, by decide⟩ hc_329 (by omega) rfl rfl (Nat.le_of_ble_eq_true rfl) (c_X5_putSpaced G ex n σ_332 L150 o150 (s_rule g r1 (21 + 2 * i)) hc_329 hc_330 (by omega) (by assumption) (by omega) (by omega)) ?_
                  rintro σ_352 ⟨L165, o165, hL165, hlen165, hO165, hc_349, hc_350, hf_351⟩
                  have hc_353 : σ_352 0 = o10 G (z1) (z2) (z3) := (hf_351 _ (by omega)).trans hc_333
                  have hc_354 : σ_352 25 = o0 G (25) (nI (g 0)) (nI (g 3)) (nI (g 4)) (nI (g 5)) (nI (g 6)) := (hf_351 _ (by omega)).trans hc_334
                  have hc_355 : σ_352 26 = q_rn G 3 4 (fun j => some (25 + 10 + 2 * j)) := (hf_351 _ (by omega)).trans hc_335
                  have hc_356 : σ_352 27 = o6 G (27) (nI (g 1)) (nI (g 2)) := (hf_351 _ (by omega)).trans hc_336
                  have hc_357 : σ_352 (27 + 1) = q_an G 8 kd := (hf_351 _ (by omega)).trans hc_337
                  have hc_358 : σ_352 (27 + 2) = q_an G 8 fi := (hf_351 _ (by omega)).trans hc_338
                  have hc_359 : σ_352 (27 + 3) = q_an G 8 se := (hf_351 _ (by omega)).trans hc_339
                  have hc_360 : σ_352 (27 + 4) = q_an G 8 tf := (hf_351 _ (by omega)).trans hc_340
                  have hc_361 : σ_352 (27 + 5) = q_an G 8 ts := (hf_351 _ (by omega)).trans hc_341
                  have hc_362 : σ_352 (25 + 8) = q_an G 10 ac := (hf_351 _ (by omega)).trans hc_342
                  have hc_363 : σ_352 (25 + 9) = q_an G 100 tu := (hf_351 _ (by omega)).trans hc_343
                  have hc_364 : ∀ j9 : Nat, j9 < g 0 → σ_352 (25 + 10 + 2 * j9) = o7 G (25 + 10 + 2 * j9) (lN (nm j9)) (lN (on j9)) (nI (s_rule g j9 18)) (nI (s_rule g j9 19)) (nI (s_rule g j9 20)) := fun j9 hj0 => (hf_351 _ (by omega)).trans (hc_344 j9 (by omega))
                  have hc_365 : ∀ j9 : Nat, j9 < g 0 → σ_352 (25 + 10 + 2 * j9 + 1) = q_an G 5 (bm j9) := fun j9 hj0 => (hf_351 _ (by omega)).trans (hc_345 j9 (by omega))
                  refine A_aload_n hg dX10_printRule_168 rfl rfl ?_
                  refine A_getf (v := .ref (q_h G + 23)) hg fl_RX10_33 dX10_printRule_169 hc_353 (by omega) rfl ?_
                  refine A_aload_n hg dX10_printRule_172 rfl rfl ?_
                  refine A_iload_n hg dX10_printRule_173 rfl rfl ?_
                  refine A_hV (kc2 := 1) (ks2 := 6) (As := [.int (nI (i))]) (rest := [.ref (q_h G + 23)]) hg lk_RX10_247 in_X7_barAt se_X7_barAt rfl dX10_printRule_174 ⟨by decide, by decide⟩ rfl rfl ⟨by decide, by decide⟩ (hc_364 r1 (by omega)) (by omega) rfl rfl (Nat.le_of_ble_eq_true rfl) (c_X7_barAt G ex n σ_352 (25 + 10 + 2 * r1) (nm r1) (on r1) (s_rule g r1 18) (s_rule g r1 19) (s_rule g r1 20) (bm r1) (nI (i)) (hc_364 r1 (by omega)) (hc_365 r1 (by omega)) (by omega) (by omega)) ?_
                  rintro _ σ_368 (⟨j174, rfl, hx174, hj174, he_366⟩ | ⟨rfl, hno174, he_367⟩)
                  · skip
                    rw [he_366]
                    refine (?_ : AJ G K Q 1 6 ex n 177 [some (.ref (q_h G + 0)), some (.int (nI (r1))), some (.ref (q_h G + (25 + 10 + 2 * r1))), some (.int (nI (i)))] [.int (nI ((bm r1) j174)), .ref (q_h G + 23)] σ_352)
                    have hji174 : j174 = i := (q_nI_inj (by omega) (by omega) hx174).symm
                    refine A_top (w := .int (nI (bm r1 i))) (by rw [hji174]) ?_
                    refine A_bipush (v := (nI (41))) hg dX10_printRule_177 (by decide) ?_
                    refine A_iremN hg dX10_printRule_179 (by omega) (by decide) (by decide) ?_
                    refine A_top (w := .int (nI (s_rule g r1 (21 + 2 * i + 1)))) (by rw [hd2]) ?_
                    refine A_vV (kc2 := 1) (ks2 := 6) (As := [.int (nI (s_rule g r1 (21 + 2 * i + 1)))]) (rest := []) hg lk_RX10_443 in_X5_putSpaced se_X5_putSpaced rfl dX10_printRule_180 ⟨by decide, by decide⟩ rfl rfl ⟨by decide, by decide⟩ hc_349 (by omega) rfl rfl (Nat.le_of_ble_eq_true rfl) (c_X5_putSpaced G ex n σ_352 L165 o165 (s_rule g r1 (21 + 2 * i + 1)) hc_349 hc_350 (by omega) (by assumption) (by omega) (by omega)) ?_
                    rintro σ_372 ⟨L180, o180, hL180, hlen180, hO180, hc_369, hc_370, hf_371⟩
                    have hc_373 : σ_372 0 = o10 G (z1) (z2) (z3) := (hf_371 _ (by omega)).trans hc_353
                    have hc_374 : σ_372 25 = o0 G (25) (nI (g 0)) (nI (g 3)) (nI (g 4)) (nI (g 5)) (nI (g 6)) := (hf_371 _ (by omega)).trans hc_354
                    have hc_375 : σ_372 26 = q_rn G 3 4 (fun j => some (25 + 10 + 2 * j)) := (hf_371 _ (by omega)).trans hc_355
                    have hc_376 : σ_372 27 = o6 G (27) (nI (g 1)) (nI (g 2)) := (hf_371 _ (by omega)).trans hc_356
                    have hc_377 : σ_372 (27 + 1) = q_an G 8 kd := (hf_371 _ (by omega)).trans hc_357
                    have hc_378 : σ_372 (27 + 2) = q_an G 8 fi := (hf_371 _ (by omega)).trans hc_358
                    have hc_379 : σ_372 (27 + 3) = q_an G 8 se := (hf_371 _ (by omega)).trans hc_359
                    have hc_380 : σ_372 (27 + 4) = q_an G 8 tf := (hf_371 _ (by omega)).trans hc_360
                    have hc_381 : σ_372 (27 + 5) = q_an G 8 ts := (hf_371 _ (by omega)).trans hc_361
                    have hc_382 : σ_372 (25 + 8) = q_an G 10 ac := (hf_371 _ (by omega)).trans hc_362
                    have hc_383 : σ_372 (25 + 9) = q_an G 100 tu := (hf_371 _ (by omega)).trans hc_363
                    have hc_384 : ∀ j9 : Nat, j9 < g 0 → σ_372 (25 + 10 + 2 * j9) = o7 G (25 + 10 + 2 * j9) (lN (nm j9)) (lN (on j9)) (nI (s_rule g j9 18)) (nI (s_rule g j9 19)) (nI (s_rule g j9 20)) := fun j9 hj0 => (hf_371 _ (by omega)).trans (hc_364 j9 (by omega))
                    have hc_385 : ∀ j9 : Nat, j9 < g 0 → σ_372 (25 + 10 + 2 * j9 + 1) = q_an G 5 (bm j9) := fun j9 hj0 => (hf_371 _ (by omega)).trans (hc_365 j9 (by omega))
                    refine A_iincN (k' := 1) hg dX10_printRule_183 (by decide) rfl (by decide) (q_c1d rfl) ?_
                    refine A_eq (ls2 := [some (.ref (q_h G + 0)), some (.int (nI (r1))), some (.ref (q_h G + (25 + 10 + 2 * r1))), some (.int (nI (i + 1)))]) (st2 := []) (pc2 := 0) rfl rfl ?_
                    refine A_goto (tgt := 135) hg dX10_printRule_186 (by decide) ?_
                    exact ih135 (i + 1) L180 o180 σ_372 hc_373 hc_374 hc_375 hc_376 hc_377 hc_378 hc_379 hc_380 hc_381 hc_382 hc_383 hc_384 hc_385 hc_369 hc_370 (fun i hi => ((hf_371 i (by omega)).trans ((hf_351 i (by omega)).trans ((hf_331 i (by omega)).trans (hf_327 i (by omega)))))) (by omega) (by rw [hL180, hL165, hL150, hL2]; exact s_prb_s _) (by omega) hO180 (by omega)
                  · skip
                    rw [he_367]
                    refine (?_ : AJ G K Q 1 6 ex n 177 [some (.ref (q_h G + 0)), some (.int (nI (r1))), some (.ref (q_h G + (25 + 10 + 2 * r1))), some (.int (nI (i)))] [.int (q_d (0)), .ref (q_h G + 23)] σ_352)
                    exact absurd rfl (fun e => hno174 i (by omega) e)
                · skip
                  rw [he_347]
                  refine (?_ : AJ G K Q 1 6 ex n 162 [some (.ref (q_h G + 0)), some (.int (nI (r1))), some (.ref (q_h G + (25 + 10 + 2 * r1))), some (.int (nI (i)))] [.int (q_d (0)), .ref (q_h G + 23)] σ_332)
                  exact absurd rfl (fun e => hno159 i (by omega) e)
          exact hL135 _ 0 L130 o130 σ_297 hc_298 hc_299 hc_300 hc_301 hc_302 hc_303 hc_304 hc_305 hc_306 hc_307 hc_308 hc_309 hc_310 hc_294 hc_295 (fun i hi => ((hf_296 i (by omega)).trans ((hf_279 i (by omega)).trans ((hf_262 i (by omega)).trans ((hf_245 i (by omega)).trans (hf_242 i (by omega))))))) (Nat.zero_le _) (by rw [hL130, hL119, hL109, hL98, hL91]; exact s_pr2_e) (by omega) hO130 (Nat.lt_succ_self _)
        · skip
          refine A_aload_n hg dX10_printRule_69 rfl rfl ?_
          refine A_iload_n hg dX10_printRule_70 rfl rfl ?_
          refine A_eV (kc2 := 1) (ks2 := 6) (As := [.int (nI (q))]) (rest := []) hg lk_RX10_440 in_X7_hasOnly se_X7_hasOnly rfl dX10_printRule_71 ⟨by decide, by decide⟩ rfl rfl ⟨by decide, by decide⟩ (hc_238 r1 (by omega)) (by omega) rfl rfl (Nat.le_of_ble_eq_true rfl) (c_X7_hasOnly G ex n σ_226 (25 + 10 + 2 * r1) (s_rule g r1) (nm r1) (on r1) (bm r1) q (hc_238 r1 (by omega)) (hc_239 r1 (by omega)) (by omega) (x_w_of hu) hon hrr.2.2.2.2.2.2 (by omega)) ?_
          refine A_if_eqB (tgt := 85) hg dX10_printRule_74 (by decide) (fun c74 => ?_) (fun c74 => ?_)
          · skip
            refine A_iincN (k' := 1) hg dX10_printRule_85 (by decide) rfl (by decide) (q_c1d rfl) ?_
            refine A_eq (ls2 := [some (.ref (q_h G + 0)), some (.int (nI (r1))), some (.ref (q_h G + (25 + 10 + 2 * r1))), some (.int (nI (q + 1)))]) (st2 := []) (pc2 := 0) rfl rfl ?_
            refine A_goto (tgt := 63) hg dX10_printRule_88 (by decide) ?_
            exact ih63 (q + 1) L1 o1 σ_226 hc_227 hc_228 hc_229 hc_230 hc_231 hc_232 hc_233 hc_234 hc_235 hc_236 hc_237 hc_238 hc_239 hc_240 hc_241 (fun i hi => (hf_242 i (by omega))) (by omega) (by rw [x_oc_f (x_tf (by omega) c74)]; exact hL1) (by omega) hO1 (by omega)
          · skip
            obtain ⟨hi1, hi2⟩ := x_on_i hon hrr.2.2.1 hq.1 (by omega) (x_tb c74)
            refine A_aload_n hg dX10_printRule_77 rfl rfl ?_
            refine A_getf (v := .ref (q_h G + 23)) hg fl_RX10_33 dX10_printRule_78 hc_227 (by omega) rfl ?_
            refine A_iload_n hg dX10_printRule_81 rfl rfl ?_
            refine A_vV (kc2 := 1) (ks2 := 6) (As := [.int (nI (q))]) (rest := []) hg lk_RX10_443 in_X5_putSpaced se_X5_putSpaced rfl dX10_printRule_82 ⟨by decide, by decide⟩ rfl rfl ⟨by decide, by decide⟩ hc_240 (by omega) rfl rfl (Nat.le_of_ble_eq_true rfl) (c_X5_putSpaced G ex n σ_226 L1 o1 q hc_240 hc_241 (by omega) (by assumption) (by omega) (by omega)) ?_
            rintro σ_389 ⟨L82, o82, hL82, hlen82, hO82, hc_386, hc_387, hf_388⟩
            have hc_390 : σ_389 0 = o10 G (z1) (z2) (z3) := (hf_388 _ (by omega)).trans hc_227
            have hc_391 : σ_389 25 = o0 G (25) (nI (g 0)) (nI (g 3)) (nI (g 4)) (nI (g 5)) (nI (g 6)) := (hf_388 _ (by omega)).trans hc_228
            have hc_392 : σ_389 26 = q_rn G 3 4 (fun j => some (25 + 10 + 2 * j)) := (hf_388 _ (by omega)).trans hc_229
            have hc_393 : σ_389 27 = o6 G (27) (nI (g 1)) (nI (g 2)) := (hf_388 _ (by omega)).trans hc_230
            have hc_394 : σ_389 (27 + 1) = q_an G 8 kd := (hf_388 _ (by omega)).trans hc_231
            have hc_395 : σ_389 (27 + 2) = q_an G 8 fi := (hf_388 _ (by omega)).trans hc_232
            have hc_396 : σ_389 (27 + 3) = q_an G 8 se := (hf_388 _ (by omega)).trans hc_233
            have hc_397 : σ_389 (27 + 4) = q_an G 8 tf := (hf_388 _ (by omega)).trans hc_234
            have hc_398 : σ_389 (27 + 5) = q_an G 8 ts := (hf_388 _ (by omega)).trans hc_235
            have hc_399 : σ_389 (25 + 8) = q_an G 10 ac := (hf_388 _ (by omega)).trans hc_236
            have hc_400 : σ_389 (25 + 9) = q_an G 100 tu := (hf_388 _ (by omega)).trans hc_237
            have hc_401 : ∀ j9 : Nat, j9 < g 0 → σ_389 (25 + 10 + 2 * j9) = o7 G (25 + 10 + 2 * j9) (lN (nm j9)) (lN (on j9)) (nI (s_rule g j9 18)) (nI (s_rule g j9 19)) (nI (s_rule g j9 20)) := fun j9 hj0 => (hf_388 _ (by omega)).trans (hc_238 j9 (by omega))
            have hc_402 : ∀ j9 : Nat, j9 < g 0 → σ_389 (25 + 10 + 2 * j9 + 1) = q_an G 5 (bm j9) := fun j9 hj0 => (hf_388 _ (by omega)).trans (hc_239 j9 (by omega))
            refine A_iincN (k' := 1) hg dX10_printRule_85 (by decide) rfl (by decide) (q_c1d rfl) ?_
            refine A_eq (ls2 := [some (.ref (q_h G + 0)), some (.int (nI (r1))), some (.ref (q_h G + (25 + 10 + 2 * r1))), some (.int (nI (q + 1)))]) (st2 := []) (pc2 := 0) rfl rfl ?_
            refine A_goto (tgt := 63) hg dX10_printRule_88 (by decide) ?_
            exact ih63 (q + 1) L82 o82 σ_389 hc_390 hc_391 hc_392 hc_393 hc_394 hc_395 hc_396 hc_397 hc_398 hc_399 hc_400 hc_401 hc_402 hc_386 hc_387 (fun i hi => ((hf_388 i (by omega)).trans (hf_242 i (by omega)))) (by omega) (by rw [hL82, hL1, x_oc_t hq.1 (x_tb c74), ← s_prn_s (s_pr1 (s_rule g r1)), hi2]) (by omega) hO82 (by omega)
    exact hL63 _ 1 L58 o58 σ_212 hc_213 hc_214 hc_215 hc_216 hc_217 hc_218 hc_219 hc_220 hc_221 hc_222 hc_223 hc_224 hc_225 hc_209 hc_210 (fun i hi => ((hf_211 i (by omega)).trans ((hf_51 i (by omega)).trans ((hf_34 i (by omega)).trans (hf_16 i (by omega)))))) (⟨Nat.le_refl _, by decide⟩) (by rw [hL58, hL39, hL28, x_oc_1]; exact s_pr1_t (fun z => c48 (hon.2.2.mp z))) (by omega) hO58 (Nat.lt_succ_self _)
end
