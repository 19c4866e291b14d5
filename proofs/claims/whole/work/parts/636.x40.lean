section
set_option maxRecDepth 100000 in
set_option maxHeartbeats 4000000 in
theorem c_X10_bar (G : GL) (ex : Bool) (n : Nat) (σ : Nat → va_E) (z1 : Int32) (z2 : Int32) (z3 : Int32) (g : Nat → Nat) (nx : Nat) (m : Nat) (ps : Nat → Nat → Nat) (r : Int32) (k : Int32) (l : Int32) (s : Bool) (hc0 : σ 0 = o10 G (z1) (z2) (z3)) (hn9 : 279 ≤ n) (hG : x_gm G σ 25 g) (hHi : x_hi G σ nx m ps) : CtX G yX10_bar cX10_bar 6 (some .int) ⟨9, 5, 30, 154⟩ [.ref (q_h G + 0), .int (r), .int (k), .int (l), .int (q_b (s))] ex n σ (fun v9 σ2 => ∃ (r1 : Nat), ∃ (a1 : Nat), ∃ (b1 : Nat), v9 = some (.int (nI (s_rule (s_barG g r1 s a1 b1) r1 20))) ∧ (r = nI r1) ∧ (r1 < g 0) ∧ (k = nI a1) ∧ (l = nI b1) ∧ (a1 ≤ 40) ∧ (b1 ≤ 40) ∧ (0 < a1 + b1) ∧ (x_gm G σ2 25 (s_barG g r1 s a1 b1)) ∧ (x_hi G σ2 ((nx + 1) % 8) (min (m + 1) 8) (x_psh m ps g)) ∧ (∀ i : Nat, i < 25 ∨ (42 < i ∧ i < 78) ∨ 223 < i → σ2 i = σ i)) (fun E σ2 => σ2 = σ ∧ ((E = "java/lang/IndexOutOfBoundsException" ∧ (∀ j : Nat, j < g 0 → r = nI j → False)) ∨ (E = "java/lang/IllegalArgumentException" ∧ (∃ r1 : Nat, r = nI r1 ∧ r1 < g 0 ∧ ∀ a b : Nat, a ≤ 40 → b ≤ 40 → 0 < a + b → k = nI a → l = nI b → False)) ∨ (E = "java/lang/IllegalStateException" ∧ (∃ r1 a1 b1 : Nat, r = nI r1 ∧ r1 < g 0 ∧ k = nI a1 ∧ l = nI b1 ∧ a1 ≤ 40 ∧ b1 ≤ 40 ∧ 0 < a1 + b1 ∧ s = true ∧ s_barred (s_rule g r1) a1 b1 = false ∧ s_rule g r1 20 = 4)))) := by
  refine q_enter [some (.ref (q_h G + 0)), some (.int (r)), some (.int (k)), some (.int (l)), some (.int (q_b (s))), none] (by decide) (Nat.le_of_ble_eq_true rfl) rfl ?_
  intro K hg
  obtain ⟨Q, hQ⟩ : ∃ Q, Q = q_Q G K ex n 5 30 (fun v9 n' σ' => n' = n ∧ (fun v9 σ2 => ∃ (r1 : Nat), ∃ (a1 : Nat), ∃ (b1 : Nat), v9 = some (.int (nI (s_rule (s_barG g r1 s a1 b1) r1 20))) ∧ (r = nI r1) ∧ (r1 < g 0) ∧ (k = nI a1) ∧ (l = nI b1) ∧ (a1 ≤ 40) ∧ (b1 ≤ 40) ∧ (0 < a1 + b1) ∧ (x_gm G σ2 25 (s_barG g r1 s a1 b1)) ∧ (x_hi G σ2 ((nx + 1) % 8) (min (m + 1) 8) (x_psh m ps g)) ∧ (∀ i : Nat, i < 25 ∨ (42 < i ∧ i < 78) ∨ 223 < i → σ2 i = σ i)) v9 σ') (fun E σ2 => σ2 = σ ∧ ((E = "java/lang/IndexOutOfBoundsException" ∧ (∀ j : Nat, j < g 0 → r = nI j → False)) ∨ (E = "java/lang/IllegalArgumentException" ∧ (∃ r1 : Nat, r = nI r1 ∧ r1 < g 0 ∧ ∀ a b : Nat, a ≤ 40 → b ≤ 40 → 0 < a + b → k = nI a → l = nI b → False)) ∨ (E = "java/lang/IllegalStateException" ∧ (∃ r1 a1 b1 : Nat, r = nI r1 ∧ r1 < g 0 ∧ k = nI a1 ∧ l = nI b1 ∧ a1 ≤ 40 ∧ b1 ≤ 40 ∧ 0 < a1 + b1 ∧ s = true ∧ s_barred (s_rule g r1) a1 b1 = false ∧ s_rule g r1 20 = 4)))) := ⟨_, rfl⟩
  refine (?_ : AJ G K (q_Q G K ex n 5 30 _ _) 0 0 ex n 0 _ _ σ)
  rw [← hQ]
  have hG0 := hG
  obtain ⟨kd, fi, se, tf, ts, ac, tu, nm, on, sl, mo, nb, bm, ⟨hg_1, hg_2, hg_3, hg_4, hg_5, hg_6, hg_7, hg_8, hg_9, hg_10, hg_11, hg_12⟩, hgr⟩ := hG
  obtain ⟨hgw, hxp, htp, hrl, hac, htu⟩ := hgr
  have hrs := x_rl_rs hrl
  have hg0 := hgw.1
  have hg1 := hgw.2.1
  have hg2 := hgw.2.2.1
  have hg3 := hgw.2.2.2.1
  have hg6 := hgw.2.2.2.2.1
  have hnp : s_np g = g 1 + g 2 := rfl
  have hgr0 : x_gr g kd fi se tf ts ac tu nm on sl mo nb bm := ⟨hgw, hxp, htp, hrl, hac, htu⟩
  have hHi0 := hHi
  obtain ⟨hnx, hm8, hc78, hc79, hjs, hps⟩ := hHi
  refine A_aload_n hg dX10_bar_0 rfl rfl ?_
  refine A_iload_n hg dX10_bar_1 rfl rfl ?_
  refine A_pVX (kc2 := 1) (ks2 := 6) (As := [.int (r)]) (rest := []) hg lk_RX10_195 in_X10_needRule se_X10_needRule rfl dX10_bar_2 ⟨by decide, by decide⟩ rfl rfl ⟨by decide, by decide⟩ hc0 (by omega) rfl rfl (Nat.le_of_ble_eq_true rfl) (c_X10_needRule G ex n σ z1 z2 z3 (g 0) (g 3) (g 4) (g 5) (g 6) r hc0 hg_1 (by omega) (by omega)) (fun E σx hx => by rw [hQ]; exact A_out hg (by decide) (by decide) (by obtain ⟨hs, hE, hx⟩ := hx; exact ⟨hs, Or.inl (⟨hE, hx⟩)⟩)) ?_
  rintro _ ⟨r1, rfl, hre, hrl9⟩
  refine (?_ : AJ G K Q 1 6 ex n 5 [some (.ref (q_h G + 0)), some (.int (r)), some (.int (k)), some (.int (l)), some (.int (q_b (s))), none] [] σ)
  subst hre
  have hu := hgw.2.2.2.2.2.1 r1 hrl9
  have hrr := hrl r1 hrl9
  have hon := hrr.2.1
  refine A_iload_n hg dX10_bar_5 rfl rfl ?_
  refine A_iload_n hg dX10_bar_6 rfl rfl ?_
  refine A_pSX (kc2 := 4) (ks2 := 24) (As := [.int (k), .int (l)]) (rest := []) hg lk_RX10_357 st_X10_needMove dX10_bar_7 ⟨by decide, by decide⟩ rfl rfl ⟨by decide, by decide⟩ rfl rfl (Nat.le_of_ble_eq_true rfl) (c_X10_needMove G ex n σ k l) (fun E σx hx => by rw [hQ]; exact A_out hg (by decide) (by decide) (by obtain ⟨hs, hE, hx⟩ := hx; exact ⟨hs, Or.inr (Or.inl (⟨hE, r1, rfl, hrl9, hx⟩))⟩)) ?_
  rintro _ ⟨a1, b1, rfl, hke, hle, ha9, hb9, hab9⟩
  refine (?_ : AJ G K Q 4 24 ex n 10 [some (.ref (q_h G + 0)), some (.int (nI (r1))), some (.int (k)), some (.int (l)), some (.int (q_b (s))), none] [] σ)
  subst hke
  subst hle
  refine A_aload_n hg dX10_bar_10 rfl rfl ?_
  refine A_getf (v := .ref (q_h G + 25)) hg fl_RX10_40 dX10_bar_11 hc0 (by omega) rfl ?_
  refine A_iload_n hg dX10_bar_14 rfl rfl ?_
  refine A_eV (kc2 := 4) (ks2 := 24) (As := [.int (nI (r1))]) (rest := []) hg lk_RX10_198 in_X0_ruleAt se_X0_ruleAt rfl dX10_bar_15 ⟨by decide, by decide⟩ rfl rfl ⟨by decide, by decide⟩ hg_1 (by omega) rfl rfl (Nat.le_of_ble_eq_true rfl) (c_X0_ruleAt G ex n σ 25 (g 0) (g 3) (g 4) (g 5) (g 6) r1 hg_1 hg_2 (by omega) (by omega)) ?_
  have hb_13 : σ (25 + 10 + 2 * r1) = o7 G (25 + 10 + 2 * r1) (lN (nm r1)) (lN (on r1)) (nI (s_rule g r1 18)) (nI (s_rule g r1 19)) (nI (s_rule g r1 20)) := (hg_11 r1 (by omega)).trans (by rw [hrr.2.2.2.1, hrr.2.2.2.2.1, hrr.2.2.2.2.2.1])
  have hc_14 : ∀ j9 : Nat, j9 < 4 → j9 ≠ r1 → σ (25 + 10 + 2 * j9) = o7 G (25 + 10 + 2 * j9) (lN (nm j9)) (lN (on j9)) (nI (sl j9)) (nI (mo j9)) (nI (nb j9)) := fun j9 h0 h1 => hg_11 j9 h0
  have hb_15 : σ (25 + 10 + 2 * r1 + 1) = q_an G 5 (bm r1) := hg_12 r1 (by omega)
  have hc_16 : ∀ j9 : Nat, j9 < 4 → j9 ≠ r1 → σ (25 + 10 + 2 * j9 + 1) = q_an G 5 (bm j9) := fun j9 h0 h1 => hg_12 j9 h0
  refine A_astore hg dX10_bar_18 (by decide) (q_c1d rfl) ?_
  refine A_eq (ls2 := [some (.ref (q_h G + 0)), some (.int (nI (r1))), some (.int (nI (a1))), some (.int (nI (b1))), some (.int (q_b (s))), some (.ref (q_h G + (25 + 10 + 2 * r1)))]) (st2 := []) (pc2 := 0) rfl rfl ?_
  refine A_iload hg dX10_bar_20 rfl ?_
  refine A_if_eqB (tgt := 55) hg dX10_bar_22 (by decide) (fun c22 => ?_) (fun c22 => ?_)
  · skip
    refine A_aload_n hg dX10_bar_55 rfl rfl ?_
    refine A_getf (v := .ref (q_h G + 78)) hg fl_RX10_54 dX10_bar_56 hc0 (by omega) rfl ?_
    refine A_aload_n hg dX10_bar_59 rfl rfl ?_
    refine A_getf (v := .ref (q_h G + 25)) hg fl_RX10_40 dX10_bar_60 hc0 (by omega) rfl ?_
    refine A_vV (kc2 := 4) (ks2 := 24) (As := [.ref (q_h G + 25)]) (rest := []) hg lk_RX10_389 in_X2_push se_X2_push rfl dX10_bar_63 ⟨by decide, by decide⟩ rfl rfl ⟨by decide, by decide⟩ hc78 (by omega) rfl rfl (Nat.le_of_ble_eq_true rfl) (c_X2_push G ex n σ nx m 25 g hc78 hc79 (by omega) (by omega) (by omega) rfl (hjs nx hnx) hG0) ?_
    rintro σ_19 ⟨hG9, hc_17, hf_18⟩
    have hc_20 : σ_19 0 = o10 G (z1) (z2) (z3) := (hf_18 _ (by omega)).trans hc0
    have hc_21 : σ_19 25 = o0 G (25) (nI (g 0)) (nI (g 3)) (nI (g 4)) (nI (g 5)) (nI (g 6)) := (hf_18 _ (by omega)).trans hg_1
    have hc_22 : σ_19 26 = q_rn G 3 4 (fun j => some (25 + 10 + 2 * j)) := (hf_18 _ (by omega)).trans hg_2
    have hc_23 : σ_19 27 = o6 G (27) (nI (g 1)) (nI (g 2)) := (hf_18 _ (by omega)).trans hg_3
    have hc_24 : σ_19 (27 + 1) = q_an G 8 kd := (hf_18 _ (by omega)).trans hg_4
    have hc_25 : σ_19 (27 + 2) = q_an G 8 fi := (hf_18 _ (by omega)).trans hg_5
    have hc_26 : σ_19 (27 + 3) = q_an G 8 se := (hf_18 _ (by omega)).trans hg_6
    have hc_27 : σ_19 (27 + 4) = q_an G 8 tf := (hf_18 _ (by omega)).trans hg_7
    have hc_28 : σ_19 (27 + 5) = q_an G 8 ts := (hf_18 _ (by omega)).trans hg_8
    have hc_29 : σ_19 (25 + 8) = q_an G 10 ac := (hf_18 _ (by omega)).trans hg_9
    have hc_30 : σ_19 (25 + 9) = q_an G 100 tu := (hf_18 _ (by omega)).trans hg_10
    have hc_31 : ∀ j9 : Nat, j9 < 4 → j9 ≠ r1 → σ_19 (25 + 10 + 2 * j9) = o7 G (25 + 10 + 2 * j9) (lN (nm j9)) (lN (on j9)) (nI (sl j9)) (nI (mo j9)) (nI (nb j9)) := fun j9 hj0 hj1 => (hf_18 _ (by omega)).trans (hc_14 j9 (by omega) (by omega))
    have hc_32 : ∀ j9 : Nat, j9 < 4 → j9 ≠ r1 → σ_19 (25 + 10 + 2 * j9 + 1) = q_an G 5 (bm j9) := fun j9 hj0 hj1 => (hf_18 _ (by omega)).trans (hc_16 j9 (by omega) (by omega))
    have hc_33 : σ_19 79 = q_rn G 2 8 (fun j => some (80 + 18 * j)) := (hf_18 _ (by omega)).trans hc79
    have hc_34 : σ_19 (25 + 10 + 2 * r1) = o7 G (25 + 10 + 2 * r1) (lN (nm r1)) (lN (on r1)) (nI (s_rule g r1 18)) (nI (s_rule g r1 19)) (nI (s_rule g r1 20)) := (hf_18 _ (by omega)).trans hb_13
    have hc_35 : σ_19 (25 + 10 + 2 * r1 + 1) = q_an G 5 (bm r1) := (hf_18 _ (by omega)).trans hb_15
    have hHiP := x_hi_push hHi0 hG9 hc_17 (fun i a b => hf_18 i (by omega))
    refine A_aload hg dX10_bar_66 rfl ?_
    refine A_iload_n hg dX10_bar_68 rfl rfl ?_
    refine A_iload_n hg dX10_bar_69 rfl rfl ?_
    refine A_iload hg dX10_bar_70 rfl ?_
    refine A_hV (kc2 := 4) (ks2 := 24) (As := [.int (nI (a1)), .int (nI (b1)), .int (q_b (s))]) (rest := []) hg lk_RX10_367 in_X7_setBarred se_X7_setBarred rfl dX10_bar_72 ⟨by decide, by decide⟩ rfl rfl ⟨by decide, by decide⟩ hc_34 (by omega) rfl rfl (Nat.le_of_ble_eq_true rfl) (c_X7_setBarred G ex n σ_19 (25 + 10 + 2 * r1) (s_rule g r1) (nm r1) (on r1) (bm r1) a1 b1 s hc_34 hc_35 (by omega) (x_w_of hu) hon hrr.2.2.2.2.2.2 (by omega) (by omega)) ?_
    rintro _ σ_43 (⟨rfl, hh9, he_36⟩ | ⟨rfl, hs19, hb19, h59, hc_37, hc_38, hf_39⟩ | ⟨rfl, hs19, hb19, hc_40, hc_41, hf_42⟩)
    · skip
      rw [he_36]
      refine (?_ : AJ G K Q 4 24 ex n 75 [some (.ref (q_h G + 0)), some (.int (nI (r1))), some (.int (nI (a1))), some (.int (nI (b1))), some (.int (q_b (s))), some (.ref (q_h G + (25 + 10 + 2 * r1)))] [] σ_19)
      have hbg : s_barG g r1 s a1 b1 = g := by
        unfold s_barG
        rcases hh9 with ⟨h1, h2 | h2⟩ | ⟨h1, h2⟩
        · rw [if_pos h1, if_pos h2]
        · exact absurd h2 (by have := hu.2.2.2.2.1; omega)
        · rw [if_neg (by rw [h1]; decide), if_neg (by rw [h2]; decide)]
      refine A_aload hg dX10_bar_75 rfl ?_
      refine A_getf (v := .int (nI (s_rule g r1 20))) hg fl_RX10_218 dX10_bar_77 hc_34 (by omega) rfl ?_
      rw [hQ]
      exact A_ireturn hg (by decide) (by decide) rfl dX10_bar_80 ⟨rfl, ⟨r1, a1, b1, (by rw [hbg]), rfl, hrl9, rfl, rfl, ha9, hb9, hab9, (by rw [hbg]; exact (x_gm_e (fun i _ _ => (hf_18 i (by omega))) hG0)), hHiP, (fun i hi => (hf_18 i (by omega)))⟩⟩
    · skip
      refine (?_ : AJ G K Q 4 24 ex n 75 [some (.ref (q_h G + 0)), some (.int (nI (r1))), some (.int (nI (a1))), some (.int (nI (b1))), some (.int (q_b (s))), some (.ref (q_h G + (25 + 10 + 2 * r1)))] [] σ_43)
      have hc_44 : σ_43 0 = o10 G (z1) (z2) (z3) := (hf_39 _ (by omega)).trans hc_20
      have hc_45 : σ_43 25 = o0 G (25) (nI (g 0)) (nI (g 3)) (nI (g 4)) (nI (g 5)) (nI (g 6)) := (hf_39 _ (by omega)).trans hc_21
      have hc_46 : σ_43 26 = q_rn G 3 4 (fun j => some (25 + 10 + 2 * j)) := (hf_39 _ (by omega)).trans hc_22
      have hc_47 : σ_43 27 = o6 G (27) (nI (g 1)) (nI (g 2)) := (hf_39 _ (by omega)).trans hc_23
      have hc_48 : σ_43 (27 + 1) = q_an G 8 kd := (hf_39 _ (by omega)).trans hc_24
      have hc_49 : σ_43 (27 + 2) = q_an G 8 fi := (hf_39 _ (by omega)).trans hc_25
      have hc_50 : σ_43 (27 + 3) = q_an G 8 se := (hf_39 _ (by omega)).trans hc_26
      have hc_51 : σ_43 (27 + 4) = q_an G 8 tf := (hf_39 _ (by omega)).trans hc_27
      have hc_52 : σ_43 (27 + 5) = q_an G 8 ts := (hf_39 _ (by omega)).trans hc_28
      have hc_53 : σ_43 (25 + 8) = q_an G 10 ac := (hf_39 _ (by omega)).trans hc_29
      have hc_54 : σ_43 (25 + 9) = q_an G 100 tu := (hf_39 _ (by omega)).trans hc_30
      have hc_55 : ∀ j9 : Nat, j9 < 4 → j9 ≠ r1 → σ_43 (25 + 10 + 2 * j9) = o7 G (25 + 10 + 2 * j9) (lN (nm j9)) (lN (on j9)) (nI (sl j9)) (nI (mo j9)) (nI (nb j9)) := fun j9 hj0 hj1 => (hf_39 _ (by omega)).trans (hc_31 j9 (by omega) (by omega))
      have hc_56 : ∀ j9 : Nat, j9 < 4 → j9 ≠ r1 → σ_43 (25 + 10 + 2 * j9 + 1) = q_an G 5 (bm j9) := fun j9 hj0 hj1 => (hf_39 _ (by omega)).trans (hc_32 j9 (by omega) (by omega))
      have hc_57 : σ_43 79 = q_rn G 2 8 (fun j => some (80 + 18 * j)) := (hf_39 _ (by omega)).trans hc_33
      have hc_58 : σ_43 78 = o2 G (78) (nI ((nx + 1) % 8)) (nI (min (m + 1) 8)) := (hf_39 _ (by omega)).trans hc_17
      have hb4 : s_rule g r1 20 < 4 := by
        first
        | exact c41
        | exact absurd (hs19.symm.trans c22) (by decide)
        | exact absurd (hb19.symm.trans c32) (by decide)
      have hbg : s_barG g r1 s a1 b1 = s_addBr g r1 a1 b1 := by
        unfold s_barG
        rw [if_pos hs19, if_neg (by rw [hb19]; decide)]
      obtain ⟨his, his0⟩ := x_addBr_isA (k := a1) (l := b1) hb4
      have hw20 : s_rule (s_addBr g r1 a1 b1) r1 20 = s_rule g r1 20 + 1 := his.1
      have hwf := x_addBr_wf (r := r1) hb4 ha9 hb9 hu
      have hsm := x_addBr_sm (k := a1) (l := b1) hb4
      have hc_59 : ∀ j9 : Nat, j9 < 4 → σ_43 (25 + 10 + 2 * j9) = o7 G (25 + 10 + 2 * j9) (lN (nm j9)) (lN (on j9)) (nI (sl j9)) (nI (mo j9)) (nI (va_up nb r1 (s_rule g r1 20 + 1) j9)) := by
        intro j9 hj0
        by_cases ej : j9 = r1
        · rw [ej]; exact hc_37.trans (by rw [hrr.2.2.2.1, hrr.2.2.2.2.1, va_up_at])
        · exact (hc_55 j9 (by omega) ej).trans (by rw [va_up_off ej])
      have hc_60 : ∀ j9 : Nat, j9 < 4 → σ_43 (25 + 10 + 2 * j9 + 1) = q_an G 5 (x_pt bm r1 (va_up (bm r1) (s_rule g r1 20) (a1 * 41 + b1)) j9) := by
        intro j9 hj0
        by_cases ej : j9 = r1
        · rw [ej]; exact hc_38.trans (by rw [x_pt_at])
        · exact (hc_56 j9 (by omega) ej).trans (by rw [x_pt_ne ej])
      have hrx : x_rr (s_rule (s_addBr g r1 a1 b1) r1) (nm r1) (on r1) (sl r1) (mo r1) (va_up nb r1 (s_rule g r1 20 + 1) r1) (x_pt bm r1 (va_up (bm r1) (s_rule g r1 20) (a1 * 41 + b1)) r1) := by
        have h9 := x_rr_bar his0 his.2.1 hu (x_isA_bm his hrr.2.2.2.2.2.2) hrr
        rw [hw20] at h9
        rw [va_up_at, x_pt_at]
        exact h9
      refine A_aload hg dX10_bar_75 rfl ?_
      refine A_getf (v := .int (nI (va_up nb r1 (s_rule g r1 20 + 1) r1))) hg fl_RX10_218 dX10_bar_77 (hc_59 r1 (by omega)) (by omega) rfl ?_
      rw [hQ]
      exact A_ireturn hg (by decide) (by decide) rfl dX10_bar_80 ⟨rfl, ⟨r1, a1, b1, (by rw [hbg, hw20, va_up_at]), rfl, hrl9, rfl, rfl, ha9, hb9, hab9, (by rw [hbg]; exact x_gm_row hrl9 hsm hwf (fun q hq => ⟨rfl, rfl, rfl, rfl, va_up_off hq, x_pt_ne hq⟩) hrx hgr0 ⟨hc_45, hc_46, hc_47, hc_48, hc_49, hc_50, hc_51, hc_52, hc_53, hc_54, hc_59, hc_60⟩), (x_hi_e (fun i _ _ => (hf_39 i (by omega))) hHiP), (fun i hi => ((hf_39 i (by omega)).trans (hf_18 i (by omega))))⟩⟩
    · skip
      refine (?_ : AJ G K Q 4 24 ex n 75 [some (.ref (q_h G + 0)), some (.int (nI (r1))), some (.int (nI (a1))), some (.int (nI (b1))), some (.int (q_b (s))), some (.ref (q_h G + (25 + 10 + 2 * r1)))] [] σ_43)
      have hc_61 : σ_43 0 = o10 G (z1) (z2) (z3) := (hf_42 _ (by omega)).trans hc_20
      have hc_62 : σ_43 25 = o0 G (25) (nI (g 0)) (nI (g 3)) (nI (g 4)) (nI (g 5)) (nI (g 6)) := (hf_42 _ (by omega)).trans hc_21
      have hc_63 : σ_43 26 = q_rn G 3 4 (fun j => some (25 + 10 + 2 * j)) := (hf_42 _ (by omega)).trans hc_22
      have hc_64 : σ_43 27 = o6 G (27) (nI (g 1)) (nI (g 2)) := (hf_42 _ (by omega)).trans hc_23
      have hc_65 : σ_43 (27 + 1) = q_an G 8 kd := (hf_42 _ (by omega)).trans hc_24
      have hc_66 : σ_43 (27 + 2) = q_an G 8 fi := (hf_42 _ (by omega)).trans hc_25
      have hc_67 : σ_43 (27 + 3) = q_an G 8 se := (hf_42 _ (by omega)).trans hc_26
      have hc_68 : σ_43 (27 + 4) = q_an G 8 tf := (hf_42 _ (by omega)).trans hc_27
      have hc_69 : σ_43 (27 + 5) = q_an G 8 ts := (hf_42 _ (by omega)).trans hc_28
      have hc_70 : σ_43 (25 + 8) = q_an G 10 ac := (hf_42 _ (by omega)).trans hc_29
      have hc_71 : σ_43 (25 + 9) = q_an G 100 tu := (hf_42 _ (by omega)).trans hc_30
      have hc_72 : ∀ j9 : Nat, j9 < 4 → j9 ≠ r1 → σ_43 (25 + 10 + 2 * j9) = o7 G (25 + 10 + 2 * j9) (lN (nm j9)) (lN (on j9)) (nI (sl j9)) (nI (mo j9)) (nI (nb j9)) := fun j9 hj0 hj1 => (hf_42 _ (by omega)).trans (hc_31 j9 (by omega) (by omega))
      have hc_73 : ∀ j9 : Nat, j9 < 4 → j9 ≠ r1 → σ_43 (25 + 10 + 2 * j9 + 1) = q_an G 5 (bm j9) := fun j9 hj0 hj1 => (hf_42 _ (by omega)).trans (hc_32 j9 (by omega) (by omega))
      have hc_74 : σ_43 79 = q_rn G 2 8 (fun j => some (80 + 18 * j)) := (hf_42 _ (by omega)).trans hc_33
      have hc_75 : σ_43 78 = o2 G (78) (nI ((nx + 1) % 8)) (nI (min (m + 1) 8)) := (hf_42 _ (by omega)).trans hc_17
      obtain ⟨hi1, hi2, hi3⟩ := x_bar_at hb19
      have hu4 := hu.2.2.2.2.1
      have hbg : s_barG g r1 s a1 b1 = s_dropB g r1 (s_bar (s_rule g r1) a1 b1) := by
        unfold s_barG
        rw [if_neg (by rw [hs19]; decide), if_pos hb19]
      obtain ⟨his, his0⟩ := x_dropB_isD hu4 hi1
      have hw20 : s_rule (s_dropB g r1 (s_bar (s_rule g r1) a1 b1)) r1 20 = s_rule g r1 20 - 1 := by have := his.1; omega
      have hwf := x_dropB_wf hu hi1
      have hsm := x_dropB_sm (i := s_bar (s_rule g r1) a1 b1) hu4 (by omega)
      have hc_76 : ∀ j9 : Nat, j9 < 4 → σ_43 (25 + 10 + 2 * j9) = o7 G (25 + 10 + 2 * j9) (lN (nm j9)) (lN (on j9)) (nI (sl j9)) (nI (mo j9)) (nI (va_up nb r1 (s_rule g r1 20 - 1) j9)) := by
        intro j9 hj0
        by_cases ej : j9 = r1
        · rw [ej]; exact hc_40.trans (by rw [hrr.2.2.2.1, hrr.2.2.2.2.1, va_up_at])
        · exact (hc_72 j9 (by omega) ej).trans (by rw [va_up_off ej])
      have hc_77 : ∀ j9 : Nat, j9 < 4 → σ_43 (25 + 10 + 2 * j9 + 1) = q_an G 5 (x_pt bm r1 (x_shl (bm r1) (s_bar (s_rule g r1) a1 b1) (s_rule g r1 20 - 1)) j9) := by
        intro j9 hj0
        by_cases ej : j9 = r1
        · rw [ej]; exact hc_41.trans (by rw [x_pt_at])
        · exact (hc_73 j9 (by omega) ej).trans (by rw [x_pt_ne ej])
      have hrx : x_rr (s_rule (s_dropB g r1 (s_bar (s_rule g r1) a1 b1)) r1) (nm r1) (on r1) (sl r1) (mo r1) (va_up nb r1 (s_rule g r1 20 - 1) r1) (x_pt bm r1 (x_shl (bm r1) (s_bar (s_rule g r1) a1 b1) (s_rule g r1 20 - 1)) r1) := by
        have h9 := x_rr_bar his0 his.2.1 hu (x_isD_bm his hrr.2.2.2.2.2.2) hrr
        rw [hw20] at h9
        rw [va_up_at, x_pt_at]
        exact h9
      refine A_aload hg dX10_bar_75 rfl ?_
      refine A_getf (v := .int (nI (va_up nb r1 (s_rule g r1 20 - 1) r1))) hg fl_RX10_218 dX10_bar_77 (hc_76 r1 (by omega)) (by omega) rfl ?_
      rw [hQ]
      exact A_ireturn hg (by decide) (by decide) rfl dX10_bar_80 ⟨rfl, ⟨r1, a1, b1, (by rw [hbg, hw20, va_up_at]), rfl, hrl9, rfl, rfl, ha9, hb9, hab9, (by rw [hbg]; exact x_gm_row hrl9 hsm hwf (fun q hq => ⟨rfl, rfl, rfl, rfl, va_up_off hq, x_pt_ne hq⟩) hrx hgr0 ⟨hc_62, hc_63, hc_64, hc_65, hc_66, hc_67, hc_68, hc_69, hc_70, hc_71, hc_76, hc_77⟩), (x_hi_e (fun i _ _ => (hf_42 i (by omega))) hHiP), (fun i hi => ((hf_42 i (by omega)).trans (hf_18 i (by omega))))⟩⟩
  · skip
    refine A_aload hg dX10_bar_25 rfl ?_
    refine A_iload_n hg dX10_bar_27 rfl rfl ?_
    refine A_iload_n hg dX10_bar_28 rfl rfl ?_
    refine A_eV (kc2 := 4) (ks2 := 24) (As := [.int (nI (a1)), .int (nI (b1))]) (rest := []) hg lk_RX10_363 in_X7_isBarred se_X7_isBarred rfl dX10_bar_29 ⟨by decide, by decide⟩ rfl rfl ⟨by decide, by decide⟩ hb_13 (by omega) rfl rfl (Nat.le_of_ble_eq_true rfl) (c_X7_isBarred G ex n σ (25 + 10 + 2 * r1) (s_rule g r1) (nm r1) (on r1) (bm r1) a1 b1 hb_13 hb_15 (by omega) (x_w_of hu) hon hrr.2.2.2.2.2.2 (by omega) (by omega)) ?_
    refine A_if_neB (tgt := 55) hg dX10_bar_32 (by decide) (fun c32 => ?_) (fun c32 => ?_)
    · skip
      refine A_aload_n hg dX10_bar_55 rfl rfl ?_
      refine A_getf (v := .ref (q_h G + 78)) hg fl_RX10_54 dX10_bar_56 hc0 (by omega) rfl ?_
      refine A_aload_n hg dX10_bar_59 rfl rfl ?_
      refine A_getf (v := .ref (q_h G + 25)) hg fl_RX10_40 dX10_bar_60 hc0 (by omega) rfl ?_
      refine A_vV (kc2 := 4) (ks2 := 24) (As := [.ref (q_h G + 25)]) (rest := []) hg lk_RX10_389 in_X2_push se_X2_push rfl dX10_bar_63 ⟨by decide, by decide⟩ rfl rfl ⟨by decide, by decide⟩ hc78 (by omega) rfl rfl (Nat.le_of_ble_eq_true rfl) (c_X2_push G ex n σ nx m 25 g hc78 hc79 (by omega) (by omega) (by omega) rfl (hjs nx hnx) hG0) ?_
      rintro σ_80 ⟨hG9, hc_78, hf_79⟩
      have hc_81 : σ_80 0 = o10 G (z1) (z2) (z3) := (hf_79 _ (by omega)).trans hc0
      have hc_82 : σ_80 25 = o0 G (25) (nI (g 0)) (nI (g 3)) (nI (g 4)) (nI (g 5)) (nI (g 6)) := (hf_79 _ (by omega)).trans hg_1
      have hc_83 : σ_80 26 = q_rn G 3 4 (fun j => some (25 + 10 + 2 * j)) := (hf_79 _ (by omega)).trans hg_2
      have hc_84 : σ_80 27 = o6 G (27) (nI (g 1)) (nI (g 2)) := (hf_79 _ (by omega)).trans hg_3
      have hc_85 : σ_80 (27 + 1) = q_an G 8 kd := (hf_79 _ (by omega)).trans hg_4
      have hc_86 : σ_80 (27 + 2) = q_an G 8 fi := (hf_79 _ (by omega)).trans hg_5
      have hc_87 : σ_80 (27 + 3) = q_an G 8 se := (hf_79 _ (by omega)).trans hg_6
      have hc_88 : σ_80 (27 + 4) = q_an G 8 tf := (hf_79 _ (by omega)).trans hg_7
      have hc_89 : σ_80 (27 + 5) = q_an G 8 ts := (hf_79 _ (by omega)).trans hg_8
      have hc_90 : σ_80 (25 + 8) = q_an G 10 ac := (hf_79 _ (by omega)).trans hg_9
      have hc_91 : σ_80 (25 + 9) = q_an G 100 tu := (hf_79 _ (by omega)).trans hg_10
      have hc_92 : ∀ j9 : Nat, j9 < 4 → j9 ≠ r1 → σ_80 (25 + 10 + 2 * j9) = o7 G (25 + 10 + 2 * j9) (lN (nm j9)) (lN (on j9)) (nI (sl j9)) (nI (mo j9)) (nI (nb j9)) := fun j9 hj0 hj1 => (hf_79 _ (by omega)).trans (hc_14 j9 (by omega) (by omega))
      have hc_93 : ∀ j9 : Nat, j9 < 4 → j9 ≠ r1 → σ_80 (25 + 10 + 2 * j9 + 1) = q_an G 5 (bm j9) := fun j9 hj0 hj1 => (hf_79 _ (by omega)).trans (hc_16 j9 (by omega) (by omega))
      have hc_94 : σ_80 79 = q_rn G 2 8 (fun j => some (80 + 18 * j)) := (hf_79 _ (by omega)).trans hc79
      have hc_95 : σ_80 (25 + 10 + 2 * r1) = o7 G (25 + 10 + 2 * r1) (lN (nm r1)) (lN (on r1)) (nI (s_rule g r1 18)) (nI (s_rule g r1 19)) (nI (s_rule g r1 20)) := (hf_79 _ (by omega)).trans hb_13
      have hc_96 : σ_80 (25 + 10 + 2 * r1 + 1) = q_an G 5 (bm r1) := (hf_79 _ (by omega)).trans hb_15
      have hHiP := x_hi_push hHi0 hG9 hc_78 (fun i a b => hf_79 i (by omega))
      refine A_aload hg dX10_bar_66 rfl ?_
      refine A_iload_n hg dX10_bar_68 rfl rfl ?_
      refine A_iload_n hg dX10_bar_69 rfl rfl ?_
      refine A_iload hg dX10_bar_70 rfl ?_
      refine A_hV (kc2 := 4) (ks2 := 24) (As := [.int (nI (a1)), .int (nI (b1)), .int (q_b (s))]) (rest := []) hg lk_RX10_367 in_X7_setBarred se_X7_setBarred rfl dX10_bar_72 ⟨by decide, by decide⟩ rfl rfl ⟨by decide, by decide⟩ hc_95 (by omega) rfl rfl (Nat.le_of_ble_eq_true rfl) (c_X7_setBarred G ex n σ_80 (25 + 10 + 2 * r1) (s_rule g r1) (nm r1) (on r1) (bm r1) a1 b1 s hc_95 hc_96 (by omega) (x_w_of hu) hon hrr.2.2.2.2.2.2 (by omega) (by omega)) ?_
      rintro _ σ_104 (⟨rfl, hh9, he_97⟩ | ⟨rfl, hs19, hb19, h59, hc_98, hc_99, hf_100⟩ | ⟨rfl, hs19, hb19, hc_101, hc_102, hf_103⟩)
      · skip
        rw [he_97]
        refine (?_ : AJ G K Q 4 24 ex n 75 [some (.ref (q_h G + 0)), some (.int (nI (r1))), some (.int (nI (a1))), some (.int (nI (b1))), some (.int (q_b (s))), some (.ref (q_h G + (25 + 10 + 2 * r1)))] [] σ_80)
        have hbg : s_barG g r1 s a1 b1 = g := by
          unfold s_barG
          rcases hh9 with ⟨h1, h2 | h2⟩ | ⟨h1, h2⟩
          · rw [if_pos h1, if_pos h2]
          · exact absurd h2 (by have := hu.2.2.2.2.1; omega)
          · rw [if_neg (by rw [h1]; decide), if_neg (by rw [h2]; decide)]
        refine A_aload hg dX10_bar_75 rfl ?_
        refine A_getf (v := .int (nI (s_rule g r1 20))) hg fl_RX10_218 dX10_bar_77 hc_95 (by omega) rfl ?_
        rw [hQ]
        exact A_ireturn hg (by decide) (by decide) rfl dX10_bar_80 ⟨rfl, ⟨r1, a1, b1, (by rw [hbg]), rfl, hrl9, rfl, rfl, ha9, hb9, hab9, (by rw [hbg]; exact (x_gm_e (fun i _ _ => (hf_79 i (by omega))) hG0)), hHiP, (fun i hi => (hf_79 i (by omega)))⟩⟩
      · skip
        refine (?_ : AJ G K Q 4 24 ex n 75 [some (.ref (q_h G + 0)), some (.int (nI (r1))), some (.int (nI (a1))), some (.int (nI (b1))), some (.int (q_b (s))), some (.ref (q_h G + (25 + 10 + 2 * r1)))] [] σ_104)
        have hc_105 : σ_104 0 = o10 G (z1) (z2) (z3) := (hf_100 _ (by omega)).trans hc_81
        have hc_106 : σ_104 25 = o0 G (25) (nI (g 0)) (nI (g 3)) (nI (g 4)) (nI (g 5)) (nI (g 6)) := (hf_100 _ (by omega)).trans hc_82
        have hc_107 : σ_104 26 = q_rn G 3 4 (fun j => some (25 + 10 + 2 * j)) := (hf_100 _ (by omega)).trans hc_83
        have hc_108 : σ_104 27 = o6 G (27) (nI (g 1)) (nI (g 2)) := (hf_100 _ (by omega)).trans hc_84
        have hc_109 : σ_104 (27 + 1) = q_an G 8 kd := (hf_100 _ (by omega)).trans hc_85
        have hc_110 : σ_104 (27 + 2) = q_an G 8 fi := (hf_100 _ (by omega)).trans hc_86
        have hc_111 : σ_104 (27 + 3) = q_an G 8 se := (hf_100 _ (by omega)).trans hc_87
        have hc_112 : σ_104 (27 + 4) = q_an G 8 tf := (hf_100 _ (by omega)).trans hc_88
        have hc_113 : σ_104 (27 + 5) = q_an G 8 ts := (hf_100 _ (by omega)).trans hc_89
        have hc_114 : σ_104 (25 + 8) = q_an G 10 ac := (hf_100 _ (by omega)).trans hc_90
        have hc_115 : σ_104 (25 + 9) = q_an G 100 tu := (hf_100 _ (by omega)).trans hc_91
        have hc_116 : ∀ j9 : Nat, j9 < 4 → j9 ≠ r1 → σ_104 (25 + 10 + 2 * j9) = o7 G (25 + 10 + 2 * j9) (lN (nm j9)) (lN (on j9)) (nI (sl j9)) (nI (mo j9)) (nI (nb j9)) := fun j9 hj0 hj1 => (hf_100 _ (by omega)).trans (hc_92 j9 (by omega) (by omega))
        have hc_117 : ∀ j9 : Nat, j9 < 4 → j9 ≠ r1 → σ_104 (25 + 10 + 2 * j9 + 1) = q_an G 5 (bm j9) := fun j9 hj0 hj1 => (hf_100 _ (by omega)).trans (hc_93 j9 (by omega) (by omega))
        have hc_118 : σ_104 79 = q_rn G 2 8 (fun j => some (80 + 18 * j)) := (hf_100 _ (by omega)).trans hc_94
        have hc_119 : σ_104 78 = o2 G (78) (nI ((nx + 1) % 8)) (nI (min (m + 1) 8)) := (hf_100 _ (by omega)).trans hc_78
        have hb4 : s_rule g r1 20 < 4 := by
          first
          | exact c41
          | exact absurd (hs19.symm.trans c22) (by decide)
          | exact absurd (hb19.symm.trans c32) (by decide)
        have hbg : s_barG g r1 s a1 b1 = s_addBr g r1 a1 b1 := by
          unfold s_barG
          rw [if_pos hs19, if_neg (by rw [hb19]; decide)]
        obtain ⟨his, his0⟩ := x_addBr_isA (k := a1) (l := b1) hb4
        have hw20 : s_rule (s_addBr g r1 a1 b1) r1 20 = s_rule g r1 20 + 1 := his.1
        have hwf := x_addBr_wf (r := r1) hb4 ha9 hb9 hu
        have hsm := x_addBr_sm (k := a1) (l := b1) hb4
        have hc_120 : ∀ j9 : Nat, j9 < 4 → σ_104 (25 + 10 + 2 * j9) = o7 G (25 + 10 + 2 * j9) (lN (nm j9)) (lN (on j9)) (nI (sl j9)) (nI (mo j9)) (nI (va_up nb r1 (s_rule g r1 20 + 1) j9)) := by
          intro j9 hj0
          by_cases ej : j9 = r1
          · rw [ej]; exact hc_98.trans (by rw [hrr.2.2.2.1, hrr.2.2.2.2.1, va_up_at])
          · exact (hc_116 j9 (by omega) ej).trans (by rw [va_up_off ej])
        have hc_121 : ∀ j9 : Nat, j9 < 4 → σ_104 (25 + 10 + 2 * j9 + 1) = q_an G 5 (x_pt bm r1 (va_up (bm r1) (s_rule g r1 20) (a1 * 41 + b1)) j9) := by
          intro j9 hj0
          by_cases ej : j9 = r1
          · rw [ej]; exact hc_99.trans (by rw [x_pt_at])
          · exact (hc_117 j9 (by omega) ej).trans (by rw [x_pt_ne ej])
        have hrx : x_rr (s_rule (s_addBr g r1 a1 b1) r1) (nm r1) (on r1) (sl r1) (mo r1) (va_up nb r1 (s_rule g r1 20 + 1) r1) (x_pt bm r1 (va_up (bm r1) (s_rule g r1 20) (a1 * 41 + b1)) r1) := by
          have h9 := x_rr_bar his0 his.2.1 hu (x_isA_bm his hrr.2.2.2.2.2.2) hrr
          rw [hw20] at h9
          rw [va_up_at, x_pt_at]
          exact h9
        refine A_aload hg dX10_bar_75 rfl ?_
        refine A_getf (v := .int (nI (va_up nb r1 (s_rule g r1 20 + 1) r1))) hg fl_RX10_218 dX10_bar_77 (hc_120 r1 (by omega)) (by omega) rfl ?_
        rw [hQ]
        exact A_ireturn hg (by decide) (by decide) rfl dX10_bar_80 ⟨rfl, ⟨r1, a1, b1, (by rw [hbg, hw20, va_up_at]), rfl, hrl9, rfl, rfl, ha9, hb9, hab9, (by rw [hbg]; exact x_gm_row hrl9 hsm hwf (fun q hq => ⟨rfl, rfl, rfl, rfl, va_up_off hq, x_pt_ne hq⟩) hrx hgr0 ⟨hc_106, hc_107, hc_108, hc_109, hc_110, hc_111, hc_112, hc_113, hc_114, hc_115, hc_120, hc_121⟩), (x_hi_e (fun i _ _ => (hf_100 i (by omega))) hHiP), (fun i hi => ((hf_100 i (by omega)).trans (hf_79 i (by omega))))⟩⟩
      · skip
        refine (?_ : AJ G K Q 4 24 ex n 75 [some (.ref (q_h G + 0)), some (.int (nI (r1))), some (.int (nI (a1))), some (.int (nI (b1))), some (.int (q_b (s))), some (.ref (q_h G + (25 + 10 + 2 * r1)))] [] σ_104)
        have hc_122 : σ_104 0 = o10 G (z1) (z2) (z3) := (hf_103 _ (by omega)).trans hc_81
        have hc_123 : σ_104 25 = o0 G (25) (nI (g 0)) (nI (g 3)) (nI (g 4)) (nI (g 5)) (nI (g 6)) := (hf_103 _ (by omega)).trans hc_82
        have hc_124 : σ_104 26 = q_rn G 3 4 (fun j => some (25 + 10 + 2 * j)) := (hf_103 _ (by omega)).trans hc_83
        have hc_125 : σ_104 27 = o6 G (27) (nI (g 1)) (nI (g 2)) := (hf_103 _ (by omega)).trans hc_84
        have hc_126 : σ_104 (27 + 1) = q_an G 8 kd := (hf_103 _ (by omega)).trans hc_85
        have hc_127 : σ_104 (27 + 2) = q_an G 8 fi := (hf_103 _ (by omega)).trans hc_86
        have hc_128 : σ_104 (27 + 3) = q_an G 8 se := (hf_103 _ (by omega)).trans hc_87
        have hc_129 : σ_104 (27 + 4) = q_an G 8 tf := (hf_103 _ (by omega)).trans hc_88
        have hc_130 : σ_104 (27 + 5) = q_an G 8 ts := (hf_103 _ (by omega)).trans hc_89
        have hc_131 : σ_104 (25 + 8) = q_an G 10 ac := (hf_103 _ (by omega)).trans hc_90
        have hc_132 : σ_104 (25 + 9) = q_an G 100 tu := (hf_103 _ (by omega)).trans hc_91
        have hc_133 : ∀ j9 : Nat, j9 < 4 → j9 ≠ r1 → σ_104 (25 + 10 + 2 * j9) = o7 G (25 + 10 + 2 * j9) (lN (nm j9)) (lN (on j9)) (nI (sl j9)) (nI (mo j9)) (nI (nb j9)) := fun j9 hj0 hj1 => (hf_103 _ (by omega)).trans (hc_92 j9 (by omega) (by omega))
        have hc_134 : ∀ j9 : Nat, j9 < 4 → j9 ≠ r1 → σ_104 (25 + 10 + 2 * j9 + 1) = q_an G 5 (bm j9) := fun j9 hj0 hj1 => (hf_103 _ (by omega)).trans (hc_93 j9 (by omega) (by omega))
        have hc_135 : σ_104 79 = q_rn G 2 8 (fun j => some (80 + 18 * j)) := (hf_103 _ (by omega)).trans hc_94
        have hc_136 : σ_104 78 = o2 G (78) (nI ((nx + 1) % 8)) (nI (min (m + 1) 8)) := (hf_103 _ (by omega)).trans hc_78
        obtain ⟨hi1, hi2, hi3⟩ := x_bar_at hb19
        have hu4 := hu.2.2.2.2.1
        have hbg : s_barG g r1 s a1 b1 = s_dropB g r1 (s_bar (s_rule g r1) a1 b1) := by
          unfold s_barG
          rw [if_neg (by rw [hs19]; decide), if_pos hb19]
        obtain ⟨his, his0⟩ := x_dropB_isD hu4 hi1
        have hw20 : s_rule (s_dropB g r1 (s_bar (s_rule g r1) a1 b1)) r1 20 = s_rule g r1 20 - 1 := by have := his.1; omega
        have hwf := x_dropB_wf hu hi1
        have hsm := x_dropB_sm (i := s_bar (s_rule g r1) a1 b1) hu4 (by omega)
        have hc_137 : ∀ j9 : Nat, j9 < 4 → σ_104 (25 + 10 + 2 * j9) = o7 G (25 + 10 + 2 * j9) (lN (nm j9)) (lN (on j9)) (nI (sl j9)) (nI (mo j9)) (nI (va_up nb r1 (s_rule g r1 20 - 1) j9)) := by
          intro j9 hj0
          by_cases ej : j9 = r1
          · rw [ej]; exact hc_101.trans (by rw [hrr.2.2.2.1, hrr.2.2.2.2.1, va_up_at])
          · exact (hc_133 j9 (by omega) ej).trans (by rw [va_up_off ej])
        have hc_138 : ∀ j9 : Nat, j9 < 4 → σ_104 (25 + 10 + 2 * j9 + 1) = q_an G 5 (x_pt bm r1 (x_shl (bm r1) (s_bar (s_rule g r1) a1 b1) (s_rule g r1 20 - 1)) j9) := by
          intro j9 hj0
          by_cases ej : j9 = r1
          · rw [ej]; exact hc_102.trans (by rw [x_pt_at])
          · exact (hc_134 j9 (by omega) ej).trans (by rw [x_pt_ne ej])
        have hrx : x_rr (s_rule (s_dropB g r1 (s_bar (s_rule g r1) a1 b1)) r1) (nm r1) (on r1) (sl r1) (mo r1) (va_up nb r1 (s_rule g r1 20 - 1) r1) (x_pt bm r1 (x_shl (bm r1) (s_bar (s_rule g r1) a1 b1) (s_rule g r1 20 - 1)) r1) := by
          have h9 := x_rr_bar his0 his.2.1 hu (x_isD_bm his hrr.2.2.2.2.2.2) hrr
          rw [hw20] at h9
          rw [va_up_at, x_pt_at]
          exact h9
        refine A_aload hg dX10_bar_75 rfl ?_
        refine A_getf (v := .int (nI (va_up nb r1 (s_rule g r1 20 - 1) r1))) hg fl_RX10_218 dX10_bar_77 (hc_137 r1 (by omega)) (by omega) rfl ?_
        rw [hQ]
        exact A_ireturn hg (by decide) (by decide) rfl dX10_bar_80 ⟨rfl, ⟨r1, a1, b1, (by rw [hbg, hw20, va_up_at]), rfl, hrl9, rfl, rfl, ha9, hb9, hab9, (by rw [hbg]; exact x_gm_row hrl9 hsm hwf (fun q hq => ⟨rfl, rfl, rfl, rfl, va_up_off hq, x_pt_ne hq⟩) hrx hgr0 ⟨hc_123, hc_124, hc_125, hc_126, hc_127, hc_128, hc_129, hc_130, hc_131, hc_132, hc_137, hc_138⟩), (x_hi_e (fun i _ _ => (hf_103 i (by omega))) hHiP), (fun i hi => ((hf_103 i (by omega)).trans (hf_79 i (by omega))))⟩⟩
    · skip
      have hu4 := hu.2.2.2.2.1
      refine A_aload hg dX10_bar_35 rfl ?_
      refine A_getf (v := .int (nI (s_rule g r1 20))) hg fl_RX10_218 dX10_bar_37 hb_13 (by omega) rfl ?_
      refine A_iconst (v := (nI (4))) hg dX10_bar_40 (by decide) ?_
      refine A_icmp_ltN (tgt := 55) hg dX10_bar_41 (by omega) (by decide) (by decide) (fun c41 => ?_) (fun c41 => ?_)
      · skip
        refine A_aload_n hg dX10_bar_55 rfl rfl ?_
        refine A_getf (v := .ref (q_h G + 78)) hg fl_RX10_54 dX10_bar_56 hc0 (by omega) rfl ?_
        refine A_aload_n hg dX10_bar_59 rfl rfl ?_
        refine A_getf (v := .ref (q_h G + 25)) hg fl_RX10_40 dX10_bar_60 hc0 (by omega) rfl ?_
        refine A_vV (kc2 := 4) (ks2 := 24) (As := [.ref (q_h G + 25)]) (rest := []) hg lk_RX10_389 in_X2_push se_X2_push rfl dX10_bar_63 ⟨by decide, by decide⟩ rfl rfl ⟨by decide, by decide⟩ hc78 (by omega) rfl rfl (Nat.le_of_ble_eq_true rfl) (c_X2_push G ex n σ nx m 25 g hc78 hc79 (by omega) (by omega) (by omega) rfl (hjs nx hnx) hG0) ?_
        rintro σ_141 ⟨hG9, hc_139, hf_140⟩
        have hc_142 : σ_141 0 = o10 G (z1) (z2) (z3) := (hf_140 _ (by omega)).trans hc0
        have hc_143 : σ_141 25 = o0 G (25) (nI (g 0)) (nI (g 3)) (nI (g 4)) (nI (g 5)) (nI (g 6)) := (hf_140 _ (by omega)).trans hg_1
        have hc_144 : σ_141 26 = q_rn G 3 4 (fun j => some (25 + 10 + 2 * j)) := (hf_140 _ (by omega)).trans hg_2
        have hc_145 : σ_141 27 = o6 G (27) (nI (g 1)) (nI (g 2)) := (hf_140 _ (by omega)).trans hg_3
        have hc_146 : σ_141 (27 + 1) = q_an G 8 kd := (hf_140 _ (by omega)).trans hg_4
        have hc_147 : σ_141 (27 + 2) = q_an G 8 fi := (hf_140 _ (by omega)).trans hg_5
        have hc_148 : σ_141 (27 + 3) = q_an G 8 se := (hf_140 _ (by omega)).trans hg_6
        have hc_149 : σ_141 (27 + 4) = q_an G 8 tf := (hf_140 _ (by omega)).trans hg_7
        have hc_150 : σ_141 (27 + 5) = q_an G 8 ts := (hf_140 _ (by omega)).trans hg_8
        have hc_151 : σ_141 (25 + 8) = q_an G 10 ac := (hf_140 _ (by omega)).trans hg_9
        have hc_152 : σ_141 (25 + 9) = q_an G 100 tu := (hf_140 _ (by omega)).trans hg_10
        have hc_153 : ∀ j9 : Nat, j9 < 4 → j9 ≠ r1 → σ_141 (25 + 10 + 2 * j9) = o7 G (25 + 10 + 2 * j9) (lN (nm j9)) (lN (on j9)) (nI (sl j9)) (nI (mo j9)) (nI (nb j9)) := fun j9 hj0 hj1 => (hf_140 _ (by omega)).trans (hc_14 j9 (by omega) (by omega))
        have hc_154 : ∀ j9 : Nat, j9 < 4 → j9 ≠ r1 → σ_141 (25 + 10 + 2 * j9 + 1) = q_an G 5 (bm j9) := fun j9 hj0 hj1 => (hf_140 _ (by omega)).trans (hc_16 j9 (by omega) (by omega))
        have hc_155 : σ_141 79 = q_rn G 2 8 (fun j => some (80 + 18 * j)) := (hf_140 _ (by omega)).trans hc79
        have hc_156 : σ_141 (25 + 10 + 2 * r1) = o7 G (25 + 10 + 2 * r1) (lN (nm r1)) (lN (on r1)) (nI (s_rule g r1 18)) (nI (s_rule g r1 19)) (nI (s_rule g r1 20)) := (hf_140 _ (by omega)).trans hb_13
        have hc_157 : σ_141 (25 + 10 + 2 * r1 + 1) = q_an G 5 (bm r1) := (hf_140 _ (by omega)).trans hb_15
        have hHiP := x_hi_push hHi0 hG9 hc_139 (fun i a b => hf_140 i (by omega))
        refine A_aload hg dX10_bar_66 rfl ?_
        refine A_iload_n hg dX10_bar_68 rfl rfl ?_
        refine A_iload_n hg dX10_bar_69 rfl rfl ?_
        refine A_iload hg dX10_bar_70 rfl ?_
        refine A_hV (kc2 := 4) (ks2 := 24) (As := [.int (nI (a1)), .int (nI (b1)), .int (q_b (s))]) (rest := []) hg lk_RX10_367 in_X7_setBarred se_X7_setBarred rfl dX10_bar_72 ⟨by decide, by decide⟩ rfl rfl ⟨by decide, by decide⟩ hc_156 (by omega) rfl rfl (Nat.le_of_ble_eq_true rfl) (c_X7_setBarred G ex n σ_141 (25 + 10 + 2 * r1) (s_rule g r1) (nm r1) (on r1) (bm r1) a1 b1 s hc_156 hc_157 (by omega) (x_w_of hu) hon hrr.2.2.2.2.2.2 (by omega) (by omega)) ?_
        rintro _ σ_165 (⟨rfl, hh9, he_158⟩ | ⟨rfl, hs19, hb19, h59, hc_159, hc_160, hf_161⟩ | ⟨rfl, hs19, hb19, hc_162, hc_163, hf_164⟩)
        · skip
          rw [he_158]
          refine (?_ : AJ G K Q 4 24 ex n 75 [some (.ref (q_h G + 0)), some (.int (nI (r1))), some (.int (nI (a1))), some (.int (nI (b1))), some (.int (q_b (s))), some (.ref (q_h G + (25 + 10 + 2 * r1)))] [] σ_141)
          have hbg : s_barG g r1 s a1 b1 = g := by
            unfold s_barG
            rcases hh9 with ⟨h1, h2 | h2⟩ | ⟨h1, h2⟩
            · rw [if_pos h1, if_pos h2]
            · exact absurd h2 (by have := hu.2.2.2.2.1; omega)
            · rw [if_neg (by rw [h1]; decide), if_neg (by rw [h2]; decide)]
          refine A_aload hg dX10_bar_75 rfl ?_
          refine A_getf (v := .int (nI (s_rule g r1 20))) hg fl_RX10_218 dX10_bar_77 hc_156 (by omega) rfl ?_
          rw [hQ]
          exact A_ireturn hg (by decide) (by decide) rfl dX10_bar_80 ⟨rfl, ⟨r1, a1, b1, (by rw [hbg]), rfl, hrl9, rfl, rfl, ha9, hb9, hab9, (by rw [hbg]; exact (x_gm_e (fun i _ _ => (hf_140 i (by omega))) hG0)), hHiP, (fun i hi => (hf_140 i (by omega)))⟩⟩
        · skip
          refine (?_ : AJ G K Q 4 24 ex n 75 [some (.ref (q_h G + 0)), some (.int (nI (r1))), some (.int (nI (a1))), some (.int (nI (b1))), some (.int (q_b (s))), some (.ref (q_h G + (25 + 10 + 2 * r1)))] [] σ_165)
          have hc_166 : σ_165 0 = o10 G (z1) (z2) (z3) := (hf_161 _ (by omega)).trans hc_142
          have hc_167 : σ_165 25 = o0 G (25) (nI (g 0)) (nI (g 3)) (nI (g 4)) (nI (g 5)) (nI (g 6)) := (hf_161 _ (by omega)).trans hc_143
          have hc_168 : σ_165 26 = q_rn G 3 4 (fun j => some (25 + 10 + 2 * j)) := (hf_161 _ (by omega)).trans hc_144
          have hc_169 : σ_165 27 = o6 G (27) (nI (g 1)) (nI (g 2)) := (hf_161 _ (by omega)).trans hc_145
          have hc_170 : σ_165 (27 + 1) = q_an G 8 kd := (hf_161 _ (by omega)).trans hc_146
          have hc_171 : σ_165 (27 + 2) = q_an G 8 fi := (hf_161 _ (by omega)).trans hc_147
          have hc_172 : σ_165 (27 + 3) = q_an G 8 se := (hf_161 _ (by omega)).trans hc_148
          have hc_173 : σ_165 (27 + 4) = q_an G 8 tf := (hf_161 _ (by omega)).trans hc_149
          have hc_174 : σ_165 (27 + 5) = q_an G 8 ts := (hf_161 _ (by omega)).trans hc_150
          have hc_175 : σ_165 (25 + 8) = q_an G 10 ac := (hf_161 _ (by omega)).trans hc_151
          have hc_176 : σ_165 (25 + 9) = q_an G 100 tu := (hf_161 _ (by omega)).trans hc_152
          have hc_177 : ∀ j9 : Nat, j9 < 4 → j9 ≠ r1 → σ_165 (25 + 10 + 2 * j9) = o7 G (25 + 10 + 2 * j9) (lN (nm j9)) (lN (on j9)) (nI (sl j9)) (nI (mo j9)) (nI (nb j9)) := fun j9 hj0 hj1 => (hf_161 _ (by omega)).trans (hc_153 j9 (by omega) (by omega))
          have hc_178 : ∀ j9 : Nat, j9 < 4 → j9 ≠ r1 → σ_165 (25 + 10 + 2 * j9 + 1) = q_an G 5 (bm j9) := fun j9 hj0 hj1 => (hf_161 _ (by omega)).trans (hc_154 j9 (by omega) (by omega))
          have hc_179 : σ_165 79 = q_rn G 2 8 (fun j => some (80 + 18 * j)) := (hf_161 _ (by omega)).trans hc_155
          have hc_180 : σ_165 78 = o2 G (78) (nI ((nx + 1) % 8)) (nI (min (m + 1) 8)) := (hf_161 _ (by omega)).trans hc_139
          have hb4 : s_rule g r1 20 < 4 := by
            first
            | exact c41
            | exact absurd (hs19.symm.trans c22) (by decide)
            | exact absurd (hb19.symm.trans c32) (by decide)
          have hbg : s_barG g r1 s a1 b1 = s_addBr g r1 a1 b1 := by
            unfold s_barG
            rw [if_pos hs19, if_neg (by rw [hb19]; decide)]
          obtain ⟨his, his0⟩ := x_addBr_isA (k := a1) (l := b1) hb4
          have hw20 : s_rule (s_addBr g r1 a1 b1) r1 20 = s_rule g r1 20 + 1 := his.1
          have hwf := x_addBr_wf (r := r1) hb4 ha9 hb9 hu
          have hsm := x_addBr_sm (k := a1) (l := b1) hb4
          have hc_181 : ∀ j9 : Nat, j9 < 4 → σ_165 (25 + 10 + 2 * j9) = o7 G (25 + 10 + 2 * j9) (lN (nm j9)) (lN (on j9)) (nI (sl j9)) (nI (mo j9)) (nI (va_up nb r1 (s_rule g r1 20 + 1) j9)) := by
            intro j9 hj0
            by_cases ej : j9 = r1
            · rw [ej]; exact hc_159.trans (by rw [hrr.2.2.2.1, hrr.2.2.2.2.1, va_up_at])
            · exact (hc_177 j9 (by omega) ej).trans (by rw [va_up_off ej])
          have hc_182 : ∀ j9 : Nat, j9 < 4 → σ_165 (25 + 10 + 2 * j9 + 1) = q_an G 5 (x_pt bm r1 (va_up (bm r1) (s_rule g r1 20) (a1 * 41 + b1)) j9) := by
            intro j9 hj0
            by_cases ej : j9 = r1
            · rw [ej]; exact hc_160.trans (by rw [x_pt_at])
            · exact (hc_178 j9 (by omega) ej).trans (by rw [x_pt_ne ej])
          have hrx : x_rr (s_rule (s_addBr g r1 a1 b1) r1) (nm r1) (on r1) (sl r1) (mo r1) (va_up nb r1 (s_rule g r1 20 + 1) r1) (x_pt bm r1 (va_up (bm r1) (s_rule g r1 20) (a1 * 41 + b1)) r1) := by
            have h9 := x_rr_bar his0 his.2.1 hu (x_isA_bm his hrr.2.2.2.2.2.2) hrr
            rw [hw20] at h9
            rw [va_up_at, x_pt_at]
            exact h9
          refine A_aload hg dX10_bar_75 rfl ?_
          refine A_getf (v := .int (nI (va_up nb r1 (s_rule g r1 20 + 1) r1))) hg fl_RX10_218 dX10_bar_77 (hc_181 r1 (by omega)) (by omega) rfl ?_
          rw [hQ]
          exact A_ireturn hg (by decide) (by decide) rfl dX10_bar_80 ⟨rfl, ⟨r1, a1, b1, (by rw [hbg, hw20, va_up_at]), rfl, hrl9, rfl, rfl, ha9, hb9, hab9, (by rw [hbg]; exact x_gm_row hrl9 hsm hwf (fun q hq => ⟨rfl, rfl, rfl, rfl, va_up_off hq, x_pt_ne hq⟩) hrx hgr0 ⟨hc_167, hc_168, hc_169, hc_170, hc_171, hc_172, hc_173, hc_174, hc_175, hc_176, hc_181, hc_182⟩), (x_hi_e (fun i _ _ => (hf_161 i (by omega))) hHiP), (fun i hi => ((hf_161 i (by omega)).trans (hf_140 i (by omega))))⟩⟩
        · skip
          refine (?_ : AJ G K Q 4 24 ex n 75 [some (.ref (q_h G + 0)), some (.int (nI (r1))), some (.int (nI (a1))), some (.int (nI (b1))), some (.int (q_b (s))), some (.ref (q_h G + (25 + 10 + 2 * r1)))] [] σ_165)
          have hc_183 : σ_165 0 = o10 G (z1) (z2) (z3) := (hf_164 _ (by omega)).trans hc_142
          have hc_184 : σ_165 25 = o0 G (25) (nI (g 0)) (nI (g 3)) (nI (g 4)) (nI (g 5)) (nI (g 6)) := (hf_164 _ (by omega)).trans hc_143
          have hc_185 : σ_165 26 = q_rn G 3 4 (fun j => some (25 + 10 + 2 * j)) := (hf_164 _ (by omega)).trans hc_144
          have hc_186 : σ_165 27 = o6 G (27) (nI (g 1)) (nI (g 2)) := (hf_164 _ (by omega)).trans hc_145
          have hc_187 : σ_165 (27 + 1) = q_an G 8 kd := (hf_164 _ (by omega)).trans hc_146
          have hc_188 : σ_165 (27 + 2) = q_an G 8 fi := (hf_164 _ (by omega)).trans hc_147
          have hc_189 : σ_165 (27 + 3) = q_an G 8 se := (hf_164 _ (by omega)).trans hc_148
          have hc_190 : σ_165 (27 + 4) = q_an G 8 tf := (hf_164 _ (by omega)).trans hc_149
          have hc_191 : σ_165 (27 + 5) = q_an G 8 ts := (hf_164 _ (by omega)).trans hc_150
          have hc_192 : σ_165 (25 + 8) = q_an G 10 ac := (hf_164 _ (by omega)).trans hc_151
          have hc_193 : σ_165 (25 + 9) = q_an G 100 tu := (hf_164 _ (by omega)).trans hc_152
          have hc_194 : ∀ j9 : Nat, j9 < 4 → j9 ≠ r1 → σ_165 (25 + 10 + 2 * j9) = o7 G (25 + 10 + 2 * j9) (lN (nm j9)) (lN (on j9)) (nI (sl j9)) (nI (mo j9)) (nI (nb j9)) := fun j9 hj0 hj1 => (hf_164 _ (by omega)).trans (hc_153 j9 (by omega) (by omega))
          have hc_195 : ∀ j9 : Nat, j9 < 4 → j9 ≠ r1 → σ_165 (25 + 10 + 2 * j9 + 1) = q_an G 5 (bm j9) := fun j9 hj0 hj1 => (hf_164 _ (by omega)).trans (hc_154 j9 (by omega) (by omega))
          have hc_196 : σ_165 79 = q_rn G 2 8 (fun j => some (80 + 18 * j)) := (hf_164 _ (by omega)).trans hc_155
          have hc_197 : σ_165 78 = o2 G (78) (nI ((nx + 1) % 8)) (nI (min (m + 1) 8)) := (hf_164 _ (by omega)).trans hc_139
          obtain ⟨hi1, hi2, hi3⟩ := x_bar_at hb19
          have hu4 := hu.2.2.2.2.1
          have hbg : s_barG g r1 s a1 b1 = s_dropB g r1 (s_bar (s_rule g r1) a1 b1) := by
            unfold s_barG
            rw [if_neg (by rw [hs19]; decide), if_pos hb19]
          obtain ⟨his, his0⟩ := x_dropB_isD hu4 hi1
          have hw20 : s_rule (s_dropB g r1 (s_bar (s_rule g r1) a1 b1)) r1 20 = s_rule g r1 20 - 1 := by have := his.1; omega
          have hwf := x_dropB_wf hu hi1
          have hsm := x_dropB_sm (i := s_bar (s_rule g r1) a1 b1) hu4 (by omega)
          have hc_198 : ∀ j9 : Nat, j9 < 4 → σ_165 (25 + 10 + 2 * j9) = o7 G (25 + 10 + 2 * j9) (lN (nm j9)) (lN (on j9)) (nI (sl j9)) (nI (mo j9)) (nI (va_up nb r1 (s_rule g r1 20 - 1) j9)) := by
            intro j9 hj0
            by_cases ej : j9 = r1
            · rw [ej]; exact hc_162.trans (by rw [hrr.2.2.2.1, hrr.2.2.2.2.1, va_up_at])
            · exact (hc_194 j9 (by omega) ej).trans (by rw [va_up_off ej])
          have hc_199 : ∀ j9 : Nat, j9 < 4 → σ_165 (25 + 10 + 2 * j9 + 1) = q_an G 5 (x_pt bm r1 (x_shl (bm r1) (s_bar (s_rule g r1) a1 b1) (s_rule g r1 20 - 1)) j9) := by
            intro j9 hj0
            by_cases ej : j9 = r1
            · rw [ej]; exact hc_163.trans (by rw [x_pt_at])
            · exact (hc_195 j9 (by omega) ej).trans (by rw [x_pt_ne ej])
          have hrx : x_rr (s_rule (s_dropB g r1 (s_bar (s_rule g r1) a1 b1)) r1) (nm r1) (on r1) (sl r1) (mo r1) (va_up nb r1 (s_rule g r1 20 - 1) r1) (x_pt bm r1 (x_shl (bm r1) (s_bar (s_rule g r1) a1 b1) (s_rule g r1 20 - 1)) r1) := by
            have h9 := x_rr_bar his0 his.2.1 hu (x_isD_bm his hrr.2.2.2.2.2.2) hrr
            rw [hw20] at h9
            rw [va_up_at, x_pt_at]
            exact h9
          refine A_aload hg dX10_bar_75 rfl ?_
          refine A_getf (v := .int (nI (va_up nb r1 (s_rule g r1 20 - 1) r1))) hg fl_RX10_218 dX10_bar_77 (hc_198 r1 (by omega)) (by omega) rfl ?_
          rw [hQ]
          exact A_ireturn hg (by decide) (by decide) rfl dX10_bar_80 ⟨rfl, ⟨r1, a1, b1, (by rw [hbg, hw20, va_up_at]), rfl, hrl9, rfl, rfl, ha9, hb9, hab9, (by rw [hbg]; exact x_gm_row hrl9 hsm hwf (fun q hq => ⟨rfl, rfl, rfl, rfl, va_up_off hq, x_pt_ne hq⟩) hrx hgr0 ⟨hc_184, hc_185, hc_186, hc_187, hc_188, hc_189, hc_190, hc_191, hc_192, hc_193, hc_198, hc_199⟩), (x_hi_e (fun i _ _ => (hf_164 i (by omega))) hHiP), (fun i hi => ((hf_164 i (by omega)).trans (hf_140 i (by omega))))⟩⟩
      · skip
        rw [hQ]
        exact A_throwSW (text := "the rule bars as many moves as it can") (names := ["java/lang/RuntimeException", "java/lang/Exception"]) hg (by decide +kernel) (by decide +kernel) tw_IllegalStateException.2.2.1 tw_IllegalStateException.2.2.2 (q_mt 1303 (by decide +kernel)) tw_IllegalStateException.1 tw_IllegalStateException.2.1 dX10_bar_44 dX10_bar_47 dX10_bar_48 dX10_bar_51 dX10_bar_54 ⟨by decide, by decide, by decide, by decide⟩ (by decide) (by decide) ⟨rfl, Or.inr (Or.inr (⟨rfl, r1, a1, b1, rfl, hrl9, rfl, rfl, ha9, hb9, hab9, c22, c32, (by have := hu.2.2.2.2.1; omega)⟩))⟩
end
