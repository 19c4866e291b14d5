section
set_option maxRecDepth 100000 in
set_option maxHeartbeats 4000000 in
theorem c_J13_bitCount_95d88 (G : GL) (ex : Bool) (n : Nat) (σ : Nat → va_E) (a : Nat)  (ha : a < 2 ^ 41) : Ct G yJ13_bitCount_95d88 cJ13_bitCount_95d88 2 (some .int) ⟨0, 0, 0, 0⟩ [.long (lN (a))] ex n σ (fun v9 σ2 => σ2 = σ ∧ v9 = some (.int (nI (x_b6 (x_b5 (x_b4 (x_b3 (x_b2 (x_b1 a))))) % 128)))) := by
  refine q_enter [some (.long (lN (a))), none] (by decide) (Nat.le_of_ble_eq_true rfl) rfl ?_
  intro K hg
  obtain ⟨Q, hQ⟩ : ∃ Q, Q = q_Q G K ex n 0 0 (fun v9 n' σ' => n' = n ∧ (fun v9 σ2 => σ2 = σ ∧ v9 = some (.int (nI (x_b6 (x_b5 (x_b4 (x_b3 (x_b2 (x_b1 a))))) % 128)))) v9 σ') q_noX := ⟨_, rfl⟩
  refine (?_ : AJ G K (q_Q G K ex n 0 0 _ _) 0 0 ex n 0 _ _ σ)
  rw [← hQ]
  have h1 : x_b1 a < 2 ^ 48 := Nat.lt_of_le_of_lt (x_b1_le a) (by omega)
  have h2 := x_b2_lt h1
  have h3 := x_b3_lt h2
  have h4 := x_b4_lt h3
  have h5 := x_b5_lt h4
  refine A_lload_n hg dJ13_bitCount_95d88_0 rfl rfl ?_
  refine A_lload_n hg dJ13_bitCount_95d88_1 rfl rfl ?_
  refine A_iconst (v := (nI (1))) hg dJ13_bitCount_95d88_2 (by decide) ?_
  refine A_lushrP hg dJ13_bitCount_95d88_3 (by omega) (by omega) ?_
  refine A_ldc2 (v := (lN (6148914691236517205))) hg dJ13_bitCount_95d88_4 (q_mt 983 (by decide +kernel)) ?_
  refine A_landP hg dJ13_bitCount_95d88_7 ?_
  refine A_lsubP hg dJ13_bitCount_95d88_8 (x_b1_s a) ?_
  refine A_top (w := .long (lN (x_b1 a))) rfl ?_
  refine A_lstore_n hg dJ13_bitCount_95d88_9 rfl (by decide) (q_c1d rfl) (by simp) ?_
  refine A_eq (ls2 := [some (.long (lN (x_b1 a))), none]) (st2 := []) (pc2 := 0) rfl rfl ?_
  refine A_lload_n hg dJ13_bitCount_95d88_10 rfl rfl ?_
  refine A_ldc2 (v := (lN (3689348814741910323))) hg dJ13_bitCount_95d88_11 (q_mt 984 (by decide +kernel)) ?_
  refine A_landP hg dJ13_bitCount_95d88_14 ?_
  refine A_lload_n hg dJ13_bitCount_95d88_15 rfl rfl ?_
  refine A_iconst (v := (nI (2))) hg dJ13_bitCount_95d88_16 (by decide) ?_
  refine A_lushrP hg dJ13_bitCount_95d88_17 (by omega) (by omega) ?_
  refine A_ldc2 (v := (lN (3689348814741910323))) hg dJ13_bitCount_95d88_18 (q_mt 984 (by decide +kernel)) ?_
  refine A_landP hg dJ13_bitCount_95d88_21 ?_
  refine A_laddP hg dJ13_bitCount_95d88_22 ?_
  refine A_top (w := .long (lN (x_b2 (x_b1 a)))) rfl ?_
  refine A_lstore_n hg dJ13_bitCount_95d88_23 rfl (by decide) (q_c1d rfl) (by simp) ?_
  refine A_eq (ls2 := [some (.long (lN (x_b2 (x_b1 a)))), none]) (st2 := []) (pc2 := 0) rfl rfl ?_
  refine A_lload_n hg dJ13_bitCount_95d88_24 rfl rfl ?_
  refine A_lload_n hg dJ13_bitCount_95d88_25 rfl rfl ?_
  refine A_iconst (v := (nI (4))) hg dJ13_bitCount_95d88_26 (by decide) ?_
  refine A_lushrP hg dJ13_bitCount_95d88_27 (by omega) (by omega) ?_
  refine A_laddP hg dJ13_bitCount_95d88_28 ?_
  refine A_ldc2 (v := (lN (1085102592571150095))) hg dJ13_bitCount_95d88_29 (q_mt 985 (by decide +kernel)) ?_
  refine A_landP hg dJ13_bitCount_95d88_32 ?_
  refine A_top (w := .long (lN (x_b3 (x_b2 (x_b1 a))))) rfl ?_
  refine A_lstore_n hg dJ13_bitCount_95d88_33 rfl (by decide) (q_c1d rfl) (by simp) ?_
  refine A_eq (ls2 := [some (.long (lN (x_b3 (x_b2 (x_b1 a))))), none]) (st2 := []) (pc2 := 0) rfl rfl ?_
  refine A_lload_n hg dJ13_bitCount_95d88_34 rfl rfl ?_
  refine A_lload_n hg dJ13_bitCount_95d88_35 rfl rfl ?_
  refine A_bipush (v := (nI (8))) hg dJ13_bitCount_95d88_36 (by decide) ?_
  refine A_lushrP hg dJ13_bitCount_95d88_38 (by omega) (by omega) ?_
  refine A_laddP hg dJ13_bitCount_95d88_39 ?_
  refine A_top (w := .long (lN (x_b4 (x_b3 (x_b2 (x_b1 a)))))) rfl ?_
  refine A_lstore_n hg dJ13_bitCount_95d88_40 rfl (by decide) (q_c1d rfl) (by simp) ?_
  refine A_eq (ls2 := [some (.long (lN (x_b4 (x_b3 (x_b2 (x_b1 a)))))), none]) (st2 := []) (pc2 := 0) rfl rfl ?_
  refine A_lload_n hg dJ13_bitCount_95d88_41 rfl rfl ?_
  refine A_lload_n hg dJ13_bitCount_95d88_42 rfl rfl ?_
  refine A_bipush (v := (nI (16))) hg dJ13_bitCount_95d88_43 (by decide) ?_
  refine A_lushrP hg dJ13_bitCount_95d88_45 (by omega) (by omega) ?_
  refine A_laddP hg dJ13_bitCount_95d88_46 ?_
  refine A_top (w := .long (lN (x_b5 (x_b4 (x_b3 (x_b2 (x_b1 a))))))) rfl ?_
  refine A_lstore_n hg dJ13_bitCount_95d88_47 rfl (by decide) (q_c1d rfl) (by simp) ?_
  refine A_eq (ls2 := [some (.long (lN (x_b5 (x_b4 (x_b3 (x_b2 (x_b1 a))))))), none]) (st2 := []) (pc2 := 0) rfl rfl ?_
  refine A_lload_n hg dJ13_bitCount_95d88_48 rfl rfl ?_
  refine A_lload_n hg dJ13_bitCount_95d88_49 rfl rfl ?_
  refine A_bipush (v := (nI (32))) hg dJ13_bitCount_95d88_50 (by decide) ?_
  refine A_lushrP hg dJ13_bitCount_95d88_52 (by omega) (by omega) ?_
  refine A_laddP hg dJ13_bitCount_95d88_53 ?_
  refine A_top (w := .long (lN (x_b6 (x_b5 (x_b4 (x_b3 (x_b2 (x_b1 a)))))))) rfl ?_
  refine A_lstore_n hg dJ13_bitCount_95d88_54 rfl (by decide) (q_c1d rfl) (by simp) ?_
  refine A_eq (ls2 := [some (.long (lN (x_b6 (x_b5 (x_b4 (x_b3 (x_b2 (x_b1 a)))))))), none]) (st2 := []) (pc2 := 0) rfl rfl ?_
  refine A_lload_n hg dJ13_bitCount_95d88_55 rfl rfl ?_
  refine A_l2iP hg dJ13_bitCount_95d88_56 ?_
  refine A_bipush (v := (nI (127))) hg dJ13_bitCount_95d88_57 (by decide) ?_
  refine A_iand hg dJ13_bitCount_95d88_59 ?_
  refine A_top (w := .int (nI (x_b6 (x_b5 (x_b4 (x_b3 (x_b2 (x_b1 a))))) % 128))) (congrArg Value.int (q_and127 _)) ?_
  rw [hQ]
  exact A_ireturn hg (by decide) (by decide) rfl dJ13_bitCount_95d88_60 ⟨rfl, ⟨rfl, rfl⟩⟩
set_option maxRecDepth 100000 in
set_option maxHeartbeats 4000000 in
theorem c_X10_value (G : GL) (ex : Bool) (n : Nat) (σ : Nat → va_E) (z1 : Int32) (z2 : Int32) (z3 : Int32) (g : Nat → Nat) (r : Int32) (k : Int32) (l : Int32) (hc0 : σ 0 = o10 G (z1) (z2) (z3)) (hn9 : 279 ≤ n) (hG : x_gm G σ 25 g) (hM : x_mx G σ) : CtX G yX10_value cX10_value 4 (some .int) ⟨8, 3, 18, 133⟩ [.ref (q_h G + 0), .int (r), .int (k), .int (l)] ex n σ (fun v9 σ2 => ∃ (r1 : Nat), ∃ (a1 : Nat), ∃ (b1 : Nat), v9 = some (.int (nI (s_V (s_rule g r1) (41 * a1 + b1)))) ∧ (r = nI r1) ∧ (r1 < g 0) ∧ (k = nI a1) ∧ (l = nI b1) ∧ (a1 ≤ 40) ∧ (b1 ≤ 40) ∧ (x_mx G σ2) ∧ (∀ i : Nat, i < 43 ∨ 77 < i → σ2 i = σ i)) (fun E σ2 => σ2 = σ ∧ ((E = "java/lang/IndexOutOfBoundsException" ∧ (∀ j : Nat, j < g 0 → r = nI j → False)) ∨ (E = "java/lang/IllegalArgumentException" ∧ (∃ r1 : Nat, r = nI r1 ∧ r1 < g 0 ∧ (∀ a b : Nat, a ≤ 40 → b ≤ 40 → k = nI a → l = nI b → False))))) := by
  refine q_enter [some (.ref (q_h G + 0)), some (.int (r)), some (.int (k)), some (.int (l))] (by decide) (Nat.le_of_ble_eq_true rfl) rfl ?_
  intro K hg
  obtain ⟨Q, hQ⟩ : ∃ Q, Q = q_Q G K ex n 3 18 (fun v9 n' σ' => n' = n ∧ (fun v9 σ2 => ∃ (r1 : Nat), ∃ (a1 : Nat), ∃ (b1 : Nat), v9 = some (.int (nI (s_V (s_rule g r1) (41 * a1 + b1)))) ∧ (r = nI r1) ∧ (r1 < g 0) ∧ (k = nI a1) ∧ (l = nI b1) ∧ (a1 ≤ 40) ∧ (b1 ≤ 40) ∧ (x_mx G σ2) ∧ (∀ i : Nat, i < 43 ∨ 77 < i → σ2 i = σ i)) v9 σ') (fun E σ2 => σ2 = σ ∧ ((E = "java/lang/IndexOutOfBoundsException" ∧ (∀ j : Nat, j < g 0 → r = nI j → False)) ∨ (E = "java/lang/IllegalArgumentException" ∧ (∃ r1 : Nat, r = nI r1 ∧ r1 < g 0 ∧ (∀ a b : Nat, a ≤ 40 → b ≤ 40 → k = nI a → l = nI b → False))))) := ⟨_, rfl⟩
  refine (?_ : AJ G K (q_Q G K ex n 3 18 _ _) 0 0 ex n 0 _ _ σ)
  rw [← hQ]
  obtain ⟨kd, fi, se, tf, ts, ac, tu, nm, on, sl, mo, nb, bm, ⟨hg_1, hg_2, hg_3, hg_4, hg_5, hg_6, hg_7, hg_8, hg_9, hg_10, hg_11, hg_12⟩, hgr⟩ := hG
  obtain ⟨hgw, hxp, htp, hrl, hac, htu⟩ := hgr
  have hrs := x_rl_rs hrl
  have hg0 := hgw.1
  have hg1 := hgw.2.1
  have hg2 := hgw.2.2.1
  have hg3 := hgw.2.2.2.1
  have hg6 := hgw.2.2.2.2.1
  have hnp : s_np g = g 1 + g 2 := rfl
  have hc_13 : ∀ j9 : Nat, j9 < g 0 → σ (25 + 10 + 2 * j9) = o7 G (25 + 10 + 2 * j9) (lN (nm j9)) (lN (on j9)) (nI (s_rule g j9 18)) (nI (s_rule g j9 19)) (nI (s_rule g j9 20)) := fun j9 hj => (hg_11 j9 (by omega)).trans (by rw [(hrl j9 hj).2.2.2.1, (hrl j9 hj).2.2.2.2.1, (hrl j9 hj).2.2.2.2.2.1])
  have hc_14 : ∀ j9 : Nat, j9 < g 0 → σ (25 + 10 + 2 * j9 + 1) = q_an G 5 (bm j9) := fun j9 hj => hg_12 j9 (by omega)
  obtain ⟨h0, h1, h2, h3, h4, flA, n0A, gvA, gsA, lmA, vsA, nmA, onA, slA, moA, nbA, bmA, skA, s2A, vaA, spA, rfA, hm_15, hm_16, hm_17, hm_18, hm_19, hm_20, hm_21, hm_22, hm_23, hm_24, hm_25, hTI⟩ := hM
  refine A_aload_n hg dX10_value_0 rfl rfl ?_
  refine A_iload_n hg dX10_value_1 rfl rfl ?_
  refine A_pVX (kc2 := 1) (ks2 := 6) (As := [.int (r)]) (rest := []) hg lk_RX10_195 in_X10_needRule se_X10_needRule rfl dX10_value_2 ⟨by decide, by decide⟩ rfl rfl ⟨by decide, by decide⟩ hc0 (by omega) rfl rfl (Nat.le_of_ble_eq_true rfl) (c_X10_needRule G ex n σ z1 z2 z3 (g 0) (g 3) (g 4) (g 5) (g 6) r hc0 hg_1 (by omega) (by omega)) (fun E σx hx => by rw [hQ]; exact A_out hg (by decide) (by decide) (by obtain ⟨hs, hE, hx⟩ := hx; exact ⟨hs, Or.inl (⟨hE, hx⟩)⟩)) ?_
  rintro _ ⟨r1, rfl, hre, hrl9⟩
  refine (?_ : AJ G K Q 1 6 ex n 5 [some (.ref (q_h G + 0)), some (.int (r)), some (.int (k)), some (.int (l))] [] σ)
  subst hre
  have hu := hgw.2.2.2.2.2.1 r1 hrl9
  have hrr := hrl r1 hrl9
  have hon := hrr.2.1
  refine A_iload_n hg dX10_value_5 rfl rfl ?_
  refine A_iload_n hg dX10_value_6 rfl rfl ?_
  refine A_pSX (kc2 := 3) (ks2 := 18) (As := [.int (k), .int (l)]) (rest := []) hg lk_RX10_292 st_X10_needHeaps dX10_value_7 ⟨by decide, by decide⟩ rfl rfl ⟨by decide, by decide⟩ rfl rfl (Nat.le_of_ble_eq_true rfl) (c_X10_needHeaps G ex n σ k l) (fun E σx hx => by rw [hQ]; exact A_out hg (by decide) (by decide) (by obtain ⟨hs, hE, hx⟩ := hx; exact ⟨hs, Or.inr ((⟨hE, r1, rfl, hrl9, hx⟩))⟩)) ?_
  rintro _ ⟨a1, b1, rfl, hke, hle, ha9, hb9⟩
  refine (?_ : AJ G K Q 3 18 ex n 10 [some (.ref (q_h G + 0)), some (.int (nI (r1))), some (.int (k)), some (.int (l))] [] σ)
  subst hke
  subst hle
  refine A_aload_n hg dX10_value_10 rfl rfl ?_
  refine A_iload_n hg dX10_value_11 rfl rfl ?_
  refine A_hV (kc2 := 3) (ks2 := 18) (As := [.int (nI (r1))]) (rest := []) hg lk_RX10_225 in_X10_fittedTable se_X10_fittedTable rfl dX10_value_12 ⟨by decide, by decide⟩ rfl rfl ⟨by decide, by decide⟩ hc0 (by omega) rfl rfl (Nat.le_of_ble_eq_true rfl) (c_X10_fittedTable G ex n σ z1 z2 z3 g nm on bm flA n0A gvA gsA lmA vsA nmA onA slA moA nbA bmA skA s2A vaA spA rfA r1 hc0 hm_15 hm_16 hg_1 hg_2 hc_13 hc_14 hm_18 hm_19 hm_20 hm_21 hm_22 hm_23 hm_24 hm_25 (by omega) hgw hrs hTI hrl9) ?_
  rintro _ σ_52 ⟨flB_26, n0B_27, gvB_28, gsB_29, lmB_30, vsB_31, nmB_32, onB_33, slB_34, moB_35, nbB_36, bmB_37, skB_38, s2B_39, vaB_40, spB_41, rfB_42, rfl, hTI2, htz2, hc_43, hc_44, hc_45, hc_46, hc_47, hc_48, hc_49, hc_50, hf_51⟩
  refine (?_ : AJ G K Q 3 18 ex n 15 [some (.ref (q_h G + 0)), some (.int (nI (r1))), some (.int (nI (a1))), some (.int (nI (b1)))] [.ref (q_h G + (46 + 8 * r1))] σ_52)
  have hc_53 : σ_52 0 = o10 G (z1) (z2) (z3) := (hf_51 _ (by omega)).trans hc0
  have hc_54 : σ_52 25 = o0 G (25) (nI (g 0)) (nI (g 3)) (nI (g 4)) (nI (g 5)) (nI (g 6)) := (hf_51 _ (by omega)).trans hg_1
  have hc_55 : σ_52 26 = q_rn G 3 4 (fun j => some (25 + 10 + 2 * j)) := (hf_51 _ (by omega)).trans hg_2
  have hc_56 : σ_52 27 = o6 G (27) (nI (g 1)) (nI (g 2)) := (hf_51 _ (by omega)).trans hg_3
  have hc_57 : σ_52 (27 + 1) = q_an G 8 kd := (hf_51 _ (by omega)).trans hg_4
  have hc_58 : σ_52 (27 + 2) = q_an G 8 fi := (hf_51 _ (by omega)).trans hg_5
  have hc_59 : σ_52 (27 + 3) = q_an G 8 se := (hf_51 _ (by omega)).trans hg_6
  have hc_60 : σ_52 (27 + 4) = q_an G 8 tf := (hf_51 _ (by omega)).trans hg_7
  have hc_61 : σ_52 (27 + 5) = q_an G 8 ts := (hf_51 _ (by omega)).trans hg_8
  have hc_62 : σ_52 (25 + 8) = q_an G 10 ac := (hf_51 _ (by omega)).trans hg_9
  have hc_63 : σ_52 (25 + 9) = q_an G 100 tu := (hf_51 _ (by omega)).trans hg_10
  have hc_64 : ∀ j9 : Nat, j9 < g 0 → σ_52 (25 + 10 + 2 * j9) = o7 G (25 + 10 + 2 * j9) (lN (nm j9)) (lN (on j9)) (nI (s_rule g j9 18)) (nI (s_rule g j9 19)) (nI (s_rule g j9 20)) := fun j9 hj0 => (hf_51 _ (by omega)).trans (hc_13 j9 (by omega))
  have hc_65 : ∀ j9 : Nat, j9 < g 0 → σ_52 (25 + 10 + 2 * j9 + 1) = q_an G 5 (bm j9) := fun j9 hj0 => (hf_51 _ (by omega)).trans (hc_14 j9 (by omega))
  have hc_66 : σ_52 43 = o4 G (43)  := (hf_51 _ (by omega)).trans hm_15
  have hc_67 : σ_52 44 = q_rn G 4 4 (fun j => some (46 + 8 * j)) := (hf_51 _ (by omega)).trans hm_16
  have hc_68 : σ_52 45 = o1 G (h0) (h1) (h2) (h3) (h4) := (hf_51 _ (by omega)).trans hm_17
  obtain ⟨ho9, hsl9, hmo9, hnb9, hbm9, hn09, hst9, hva9, hgv9, hgs9, hlm9, hvs9⟩ := htz2
  refine A_iload_n hg dX10_value_15 rfl rfl ?_
  refine A_iload_n hg dX10_value_16 rfl rfl ?_
  refine A_eV (kc2 := 3) (ks2 := 18) (As := [.int (nI (a1)), .int (nI (b1))]) (rest := []) hg lk_RX10_303 in_X8_valueAt se_X8_valueAt rfl dX10_value_17 ⟨by decide, by decide⟩ rfl rfl ⟨by decide, by decide⟩ (hc_43 r1 (by omega)) (by omega) rfl rfl (Nat.le_of_ble_eq_true rfl) (c_X8_valueAt G ex n σ_52 (46 + 8 * r1) (flB_26 r1) (n0B_27 r1) (gvB_28 r1) (gsB_29 r1) (lmB_30 r1) (vsB_31 r1) (vaB_40 r1) a1 b1 (hc_43 r1 (by omega)) (hc_48 r1 (by omega)) (by omega) (by omega) (by omega)) ?_
  rw [hQ]
  exact A_ireturn hg (by decide) (by decide) rfl dX10_value_20 ⟨rfl, ⟨r1, a1, b1, (by rw [(hva9 (a1 * 41 + b1) (by omega)).1, show a1 * 41 + b1 = 41 * a1 + b1 by omega]; rfl), rfl, hrl9, rfl, rfl, ha9, hb9, ⟨(h0), (h1), (h2), (h3), (h4), flB_26, n0B_27, gvB_28, gsB_29, lmB_30, vsB_31, nmB_32, onB_33, slB_34, moB_35, nbB_36, bmB_37, skB_38, s2B_39, vaB_40, spB_41, rfB_42, hc_66, hc_67, hc_68, hc_43, hc_44, hc_45, hc_46, hc_47, hc_48, hc_49, hc_50, hTI2⟩, (fun i hi => (hf_51 i (by omega)))⟩⟩
set_option maxRecDepth 100000 in
set_option maxHeartbeats 4000000 in
theorem c_X10_span (G : GL) (ex : Bool) (n : Nat) (σ : Nat → va_E) (z1 : Int32) (z2 : Int32) (z3 : Int32) (g : Nat → Nat) (r : Int32) (k : Int32) (l : Int32) (hc0 : σ 0 = o10 G (z1) (z2) (z3)) (hn9 : 279 ≤ n) (hG : x_gm G σ 25 g) (hM : x_mx G σ) : CtX G yX10_span cX10_span 4 (some .int) ⟨8, 3, 18, 133⟩ [.ref (q_h G + 0), .int (r), .int (k), .int (l)] ex n σ (fun v9 σ2 => ∃ (r1 : Nat), ∃ (a1 : Nat), ∃ (b1 : Nat), v9 = some (.int (nI (s_S (s_rule g r1) (41 * a1 + b1)))) ∧ (r = nI r1) ∧ (r1 < g 0) ∧ (k = nI a1) ∧ (l = nI b1) ∧ (a1 ≤ 40) ∧ (b1 ≤ 40) ∧ (x_mx G σ2) ∧ (∀ i : Nat, i < 43 ∨ 77 < i → σ2 i = σ i)) (fun E σ2 => σ2 = σ ∧ ((E = "java/lang/IndexOutOfBoundsException" ∧ (∀ j : Nat, j < g 0 → r = nI j → False)) ∨ (E = "java/lang/IllegalArgumentException" ∧ (∃ r1 : Nat, r = nI r1 ∧ r1 < g 0 ∧ (∀ a b : Nat, a ≤ 40 → b ≤ 40 → k = nI a → l = nI b → False))))) := by
  refine q_enter [some (.ref (q_h G + 0)), some (.int (r)), some (.int (k)), some (.int (l))] (by decide) (Nat.le_of_ble_eq_true rfl) rfl ?_
  intro K hg
  obtain ⟨Q, hQ⟩ : ∃ Q, Q = q_Q G K ex n 3 18 (fun v9 n' σ' => n' = n ∧ (fun v9 σ2 => ∃ (r1 : Nat), ∃ (a1 : Nat), ∃ (b1 : Nat), v9 = some (.int (nI (s_S (s_rule g r1) (41 * a1 + b1)))) ∧ (r = nI r1) ∧ (r1 < g 0) ∧ (k = nI a1) ∧ (l = nI b1) ∧ (a1 ≤ 40) ∧ (b1 ≤ 40) ∧ (x_mx G σ2) ∧ (∀ i : Nat, i < 43 ∨ 77 < i → σ2 i = σ i)) v9 σ') (fun E σ2 => σ2 = σ ∧ ((E = "java/lang/IndexOutOfBoundsException" ∧ (∀ j : Nat, j < g 0 → r = nI j → False)) ∨ (E = "java/lang/IllegalArgumentException" ∧ (∃ r1 : Nat, r = nI r1 ∧ r1 < g 0 ∧ (∀ a b : Nat, a ≤ 40 → b ≤ 40 → k = nI a → l = nI b → False))))) := ⟨_, rfl⟩
  refine (?_ : AJ G K (q_Q G K ex n 3 18 _ _) 0 0 ex n 0 _ _ σ)
  rw [← hQ]
  obtain ⟨kd, fi, se, tf, ts, ac, tu, nm, on, sl, mo, nb, bm, ⟨hg_1, hg_2, hg_3, hg_4, hg_5, hg_6, hg_7, hg_8, hg_9, hg_10, hg_11, hg_12⟩, hgr⟩ := hG
  obtain ⟨hgw, hxp, htp, hrl, hac, htu⟩ := hgr
  have hrs := x_rl_rs hrl
  have hg0 := hgw.1
  have hg1 := hgw.2.1
  have hg2 := hgw.2.2.1
  have hg3 := hgw.2.2.2.1
  have hg6 := hgw.2.2.2.2.1
  have hnp : s_np g = g 1 + g 2 := rfl
  have hc_13 : ∀ j9 : Nat, j9 < g 0 → σ (25 + 10 + 2 * j9) = o7 G (25 + 10 + 2 * j9) (lN (nm j9)) (lN (on j9)) (nI (s_rule g j9 18)) (nI (s_rule g j9 19)) (nI (s_rule g j9 20)) := fun j9 hj => (hg_11 j9 (by omega)).trans (by rw [(hrl j9 hj).2.2.2.1, (hrl j9 hj).2.2.2.2.1, (hrl j9 hj).2.2.2.2.2.1])
  have hc_14 : ∀ j9 : Nat, j9 < g 0 → σ (25 + 10 + 2 * j9 + 1) = q_an G 5 (bm j9) := fun j9 hj => hg_12 j9 (by omega)
  obtain ⟨h0, h1, h2, h3, h4, flA, n0A, gvA, gsA, lmA, vsA, nmA, onA, slA, moA, nbA, bmA, skA, s2A, vaA, spA, rfA, hm_15, hm_16, hm_17, hm_18, hm_19, hm_20, hm_21, hm_22, hm_23, hm_24, hm_25, hTI⟩ := hM
  refine A_aload_n hg dX10_span_0 rfl rfl ?_
  refine A_iload_n hg dX10_span_1 rfl rfl ?_
  refine A_pVX (kc2 := 1) (ks2 := 6) (As := [.int (r)]) (rest := []) hg lk_RX10_195 in_X10_needRule se_X10_needRule rfl dX10_span_2 ⟨by decide, by decide⟩ rfl rfl ⟨by decide, by decide⟩ hc0 (by omega) rfl rfl (Nat.le_of_ble_eq_true rfl) (c_X10_needRule G ex n σ z1 z2 z3 (g 0) (g 3) (g 4) (g 5) (g 6) r hc0 hg_1 (by omega) (by omega)) (fun E σx hx => by rw [hQ]; exact A_out hg (by decide) (by decide) (by obtain ⟨hs, hE, hx⟩ := hx; exact ⟨hs, Or.inl (⟨hE, hx⟩)⟩)) ?_
  rintro _ ⟨r1, rfl, hre, hrl9⟩
  refine (?_ : AJ G K Q 1 6 ex n 5 [some (.ref (q_h G + 0)), some (.int (r)), some (.int (k)), some (.int (l))] [] σ)
  subst hre
  have hu := hgw.2.2.2.2.2.1 r1 hrl9
  have hrr := hrl r1 hrl9
  have hon := hrr.2.1
  refine A_iload_n hg dX10_span_5 rfl rfl ?_
  refine A_iload_n hg dX10_span_6 rfl rfl ?_
  refine A_pSX (kc2 := 3) (ks2 := 18) (As := [.int (k), .int (l)]) (rest := []) hg lk_RX10_292 st_X10_needHeaps dX10_span_7 ⟨by decide, by decide⟩ rfl rfl ⟨by decide, by decide⟩ rfl rfl (Nat.le_of_ble_eq_true rfl) (c_X10_needHeaps G ex n σ k l) (fun E σx hx => by rw [hQ]; exact A_out hg (by decide) (by decide) (by obtain ⟨hs, hE, hx⟩ := hx; exact ⟨hs, Or.inr ((⟨hE, r1, rfl, hrl9, hx⟩))⟩)) ?_
  rintro _ ⟨a1, b1, rfl, hke, hle, ha9, hb9⟩
  refine (?_ : AJ G K Q 3 18 ex n 10 [some (.ref (q_h G + 0)), some (.int (nI (r1))), some (.int (k)), some (.int (l))] [] σ)
  subst hke
  subst hle
  refine A_aload_n hg dX10_span_10 rfl rfl ?_
  refine A_iload_n hg dX10_span_11 rfl rfl ?_
  refine A_hV (kc2 := 3) (ks2 := 18) (As := [.int (nI (r1))]) (rest := []) hg lk_RX10_225 in_X10_fittedTable se_X10_fittedTable rfl dX10_span_12 ⟨by decide, by decide⟩ rfl rfl ⟨by decide, by decide⟩ hc0 (by omega) rfl rfl (Nat.le_of_ble_eq_true rfl) (c_X10_fittedTable G ex n σ z1 z2 z3 g nm on bm flA n0A gvA gsA lmA vsA nmA onA slA moA nbA bmA skA s2A vaA spA rfA r1 hc0 hm_15 hm_16 hg_1 hg_2 hc_13 hc_14 hm_18 hm_19 hm_20 hm_21 hm_22 hm_23 hm_24 hm_25 (by omega) hgw hrs hTI hrl9) ?_
  rintro _ σ_52 ⟨flB_26, n0B_27, gvB_28, gsB_29, lmB_30, vsB_31, nmB_32, onB_33, slB_34, moB_35, nbB_36, bmB_37, skB_38, s2B_39, vaB_40, spB_41, rfB_42, rfl, hTI2, htz2, hc_43, hc_44, hc_45, hc_46, hc_47, hc_48, hc_49, hc_50, hf_51⟩
  refine (?_ : AJ G K Q 3 18 ex n 15 [some (.ref (q_h G + 0)), some (.int (nI (r1))), some (.int (nI (a1))), some (.int (nI (b1)))] [.ref (q_h G + (46 + 8 * r1))] σ_52)
  have hc_53 : σ_52 0 = o10 G (z1) (z2) (z3) := (hf_51 _ (by omega)).trans hc0
  have hc_54 : σ_52 25 = o0 G (25) (nI (g 0)) (nI (g 3)) (nI (g 4)) (nI (g 5)) (nI (g 6)) := (hf_51 _ (by omega)).trans hg_1
  have hc_55 : σ_52 26 = q_rn G 3 4 (fun j => some (25 + 10 + 2 * j)) := (hf_51 _ (by omega)).trans hg_2
  have hc_56 : σ_52 27 = o6 G (27) (nI (g 1)) (nI (g 2)) := (hf_51 _ (by omega)).trans hg_3
  have hc_57 : σ_52 (27 + 1) = q_an G 8 kd := (hf_51 _ (by omega)).trans hg_4
  have hc_58 : σ_52 (27 + 2) = q_an G 8 fi := (hf_51 _ (by omega)).trans hg_5
  have hc_59 : σ_52 (27 + 3) = q_an G 8 se := (hf_51 _ (by omega)).trans hg_6
  have hc_60 : σ_52 (27 + 4) = q_an G 8 tf := (hf_51 _ (by omega)).trans hg_7
  have hc_61 : σ_52 (27 + 5) = q_an G 8 ts := (hf_51 _ (by omega)).trans hg_8
  have hc_62 : σ_52 (25 + 8) = q_an G 10 ac := (hf_51 _ (by omega)).trans hg_9
  have hc_63 : σ_52 (25 + 9) = q_an G 100 tu := (hf_51 _ (by omega)).trans hg_10
  have hc_64 : ∀ j9 : Nat, j9 < g 0 → σ_52 (25 + 10 + 2 * j9) = o7 G (25 + 10 + 2 * j9) (lN (nm j9)) (lN (on j9)) (nI (s_rule g j9 18)) (nI (s_rule g j9 19)) (nI (s_rule g j9 20)) := fun j9 hj0 => (hf_51 _ (by omega)).trans (hc_13 j9 (by omega))
  have hc_65 : ∀ j9 : Nat, j9 < g 0 → σ_52 (25 + 10 + 2 * j9 + 1) = q_an G 5 (bm j9) := fun j9 hj0 => (hf_51 _ (by omega)).trans (hc_14 j9 (by omega))
  have hc_66 : σ_52 43 = o4 G (43)  := (hf_51 _ (by omega)).trans hm_15
  have hc_67 : σ_52 44 = q_rn G 4 4 (fun j => some (46 + 8 * j)) := (hf_51 _ (by omega)).trans hm_16
  have hc_68 : σ_52 45 = o1 G (h0) (h1) (h2) (h3) (h4) := (hf_51 _ (by omega)).trans hm_17
  obtain ⟨ho9, hsl9, hmo9, hnb9, hbm9, hn09, hst9, hva9, hgv9, hgs9, hlm9, hvs9⟩ := htz2
  refine A_iload_n hg dX10_span_15 rfl rfl ?_
  refine A_iload_n hg dX10_span_16 rfl rfl ?_
  refine A_eV (kc2 := 3) (ks2 := 18) (As := [.int (nI (a1)), .int (nI (b1))]) (rest := []) hg lk_RX10_306 in_X8_spanAt se_X8_spanAt rfl dX10_span_17 ⟨by decide, by decide⟩ rfl rfl ⟨by decide, by decide⟩ (hc_43 r1 (by omega)) (by omega) rfl rfl (Nat.le_of_ble_eq_true rfl) (c_X8_spanAt G ex n σ_52 (46 + 8 * r1) (flB_26 r1) (n0B_27 r1) (gvB_28 r1) (gsB_29 r1) (lmB_30 r1) (vsB_31 r1) (spB_41 r1) a1 b1 (hc_43 r1 (by omega)) (hc_49 r1 (by omega)) (by omega) (by omega) (by omega)) ?_
  rw [hQ]
  exact A_ireturn hg (by decide) (by decide) rfl dX10_span_20 ⟨rfl, ⟨r1, a1, b1, (by rw [(hva9 (a1 * 41 + b1) (by omega)).2, show a1 * 41 + b1 = 41 * a1 + b1 by omega]; rfl), rfl, hrl9, rfl, rfl, ha9, hb9, ⟨(h0), (h1), (h2), (h3), (h4), flB_26, n0B_27, gvB_28, gsB_29, lmB_30, vsB_31, nmB_32, onB_33, slB_34, moB_35, nbB_36, bmB_37, skB_38, s2B_39, vaB_40, spB_41, rfB_42, hc_66, hc_67, hc_68, hc_43, hc_44, hc_45, hc_46, hc_47, hc_48, hc_49, hc_50, hTI2⟩, (fun i hi => (hf_51 i (by omega)))⟩⟩
theorem x_swN {x : Int32} {k : Nat} (hk : k < 2 ^ 31) (h : x.toInt = (k : Int)) : x = nI k := Int32.toInt_inj.mp (h.trans (nI_toInt hk).symm)
theorem x_swD {x : Int32} {hi : Nat} (hb : hi < 2 ^ 31) (h : x.toInt < 0 ∨ (hi : Int) < x.toInt) : ∀ j : Nat, 0 ≤ j → j ≤ hi → x = nI j → False := by
  intro j _ hj e
  rw [e, nI_toInt (by omega)] at h
  omega
set_option maxRecDepth 100000 in
set_option maxHeartbeats 4000000 in
theorem c_X10_losing (G : GL) (ex : Bool) (n : Nat) (σ : Nat → va_E) (z1 : Int32) (z2 : Int32) (z3 : Int32) (g : Nat → Nat) (r : Int32) (x : Int32) (s : Bool) (hc0 : σ 0 = o10 G (z1) (z2) (z3)) (hn9 : 279 ≤ n) (hG : x_gm G σ 25 g) (hM : x_mx G σ) : CtX G yX10_losing cX10_losing 5 (some .int) ⟨7, 1, 6, 119⟩ [.ref (q_h G + 0), .int (r), .int (x), .int (q_b (s))] ex n σ (fun v9 σ2 => (∃ (r1 : Nat), ∃ (i1 : Nat), v9 = some (.int (nI (if s = true then s_lzn (s_rule g r1) i1 % 41 else s_lzn (s_rule g r1) i1 / 41))) ∧ (r = nI r1) ∧ (r1 < g 0) ∧ (x = nI i1) ∧ (i1 < s_lzc (s_rule g r1) 1681) ∧ (x_mx G σ2) ∧ (∀ i : Nat, i < 43 ∨ 77 < i → σ2 i = σ i)) ∨ (∃ (r1 : Nat), v9 = some (.int (q_d (0))) ∧ (r = nI r1) ∧ (r1 < g 0) ∧ (∀ j : Nat, j < s_lzc (s_rule g r1) 1681 → x = nI j → False) ∧ (x_mx G σ2) ∧ (∀ i : Nat, i < 43 ∨ 77 < i → σ2 i = σ i))) (fun E σ2 => σ2 = σ ∧ ((E = "java/lang/IndexOutOfBoundsException" ∧ (∀ j : Nat, j < g 0 → r = nI j → False)))) := by
  refine q_enter [some (.ref (q_h G + 0)), some (.int (r)), some (.int (x)), some (.int (q_b (s))), none] (by decide) (Nat.le_of_ble_eq_true rfl) rfl ?_
  intro K hg
  obtain ⟨Q, hQ⟩ : ∃ Q, Q = q_Q G K ex n 1 6 (fun v9 n' σ' => n' = n ∧ (fun v9 σ2 => (∃ (r1 : Nat), ∃ (i1 : Nat), v9 = some (.int (nI (if s = true then s_lzn (s_rule g r1) i1 % 41 else s_lzn (s_rule g r1) i1 / 41))) ∧ (r = nI r1) ∧ (r1 < g 0) ∧ (x = nI i1) ∧ (i1 < s_lzc (s_rule g r1) 1681) ∧ (x_mx G σ2) ∧ (∀ i : Nat, i < 43 ∨ 77 < i → σ2 i = σ i)) ∨ (∃ (r1 : Nat), v9 = some (.int (q_d (0))) ∧ (r = nI r1) ∧ (r1 < g 0) ∧ (∀ j : Nat, j < s_lzc (s_rule g r1) 1681 → x = nI j → False) ∧ (x_mx G σ2) ∧ (∀ i : Nat, i < 43 ∨ 77 < i → σ2 i = σ i))) v9 σ') (fun E σ2 => σ2 = σ ∧ ((E = "java/lang/IndexOutOfBoundsException" ∧ (∀ j : Nat, j < g 0 → r = nI j → False)))) := ⟨_, rfl⟩
  refine (?_ : AJ G K (q_Q G K ex n 1 6 _ _) 0 0 ex n 0 _ _ σ)
  rw [← hQ]
  obtain ⟨kd, fi, se, tf, ts, ac, tu, nm, on, sl, mo, nb, bm, ⟨hg_1, hg_2, hg_3, hg_4, hg_5, hg_6, hg_7, hg_8, hg_9, hg_10, hg_11, hg_12⟩, hgr⟩ := hG
  obtain ⟨hgw, hxp, htp, hrl, hac, htu⟩ := hgr
  have hrs := x_rl_rs hrl
  have hg0 := hgw.1
  have hg1 := hgw.2.1
  have hg2 := hgw.2.2.1
  have hg3 := hgw.2.2.2.1
  have hg6 := hgw.2.2.2.2.1
  have hnp : s_np g = g 1 + g 2 := rfl
  have hc_13 : ∀ j9 : Nat, j9 < g 0 → σ (25 + 10 + 2 * j9) = o7 G (25 + 10 + 2 * j9) (lN (nm j9)) (lN (on j9)) (nI (s_rule g j9 18)) (nI (s_rule g j9 19)) (nI (s_rule g j9 20)) := fun j9 hj => (hg_11 j9 (by omega)).trans (by rw [(hrl j9 hj).2.2.2.1, (hrl j9 hj).2.2.2.2.1, (hrl j9 hj).2.2.2.2.2.1])
  have hc_14 : ∀ j9 : Nat, j9 < g 0 → σ (25 + 10 + 2 * j9 + 1) = q_an G 5 (bm j9) := fun j9 hj => hg_12 j9 (by omega)
  obtain ⟨h0, h1, h2, h3, h4, flA, n0A, gvA, gsA, lmA, vsA, nmA, onA, slA, moA, nbA, bmA, skA, s2A, vaA, spA, rfA, hm_15, hm_16, hm_17, hm_18, hm_19, hm_20, hm_21, hm_22, hm_23, hm_24, hm_25, hTI⟩ := hM
  refine A_aload_n hg dX10_losing_0 rfl rfl ?_
  refine A_iload_n hg dX10_losing_1 rfl rfl ?_
  refine A_pVX (kc2 := 1) (ks2 := 6) (As := [.int (r)]) (rest := []) hg lk_RX10_195 in_X10_needRule se_X10_needRule rfl dX10_losing_2 ⟨by decide, by decide⟩ rfl rfl ⟨by decide, by decide⟩ hc0 (by omega) rfl rfl (Nat.le_of_ble_eq_true rfl) (c_X10_needRule G ex n σ z1 z2 z3 (g 0) (g 3) (g 4) (g 5) (g 6) r hc0 hg_1 (by omega) (by omega)) (fun E σx hx => by rw [hQ]; exact A_out hg (by decide) (by decide) (by obtain ⟨hs, hE, hx⟩ := hx; exact ⟨hs, ⟨hE, hx⟩⟩)) ?_
  rintro _ ⟨r1, rfl, hre, hrl9⟩
  refine (?_ : AJ G K Q 1 6 ex n 5 [some (.ref (q_h G + 0)), some (.int (r)), some (.int (x)), some (.int (q_b (s))), none] [] σ)
  subst hre
  have hu := hgw.2.2.2.2.2.1 r1 hrl9
  have hrr := hrl r1 hrl9
  have hon := hrr.2.1
  refine A_aload_n hg dX10_losing_5 rfl rfl ?_
  refine A_iload_n hg dX10_losing_6 rfl rfl ?_
  refine A_hV (kc2 := 1) (ks2 := 6) (As := [.int (nI (r1))]) (rest := []) hg lk_RX10_225 in_X10_fittedTable se_X10_fittedTable rfl dX10_losing_7 ⟨by decide, by decide⟩ rfl rfl ⟨by decide, by decide⟩ hc0 (by omega) rfl rfl (Nat.le_of_ble_eq_true rfl) (c_X10_fittedTable G ex n σ z1 z2 z3 g nm on bm flA n0A gvA gsA lmA vsA nmA onA slA moA nbA bmA skA s2A vaA spA rfA r1 hc0 hm_15 hm_16 hg_1 hg_2 hc_13 hc_14 hm_18 hm_19 hm_20 hm_21 hm_22 hm_23 hm_24 hm_25 (by omega) hgw hrs hTI hrl9) ?_
  rintro _ σ_52 ⟨flB_26, n0B_27, gvB_28, gsB_29, lmB_30, vsB_31, nmB_32, onB_33, slB_34, moB_35, nbB_36, bmB_37, skB_38, s2B_39, vaB_40, spB_41, rfB_42, rfl, hTI2, htz2, hc_43, hc_44, hc_45, hc_46, hc_47, hc_48, hc_49, hc_50, hf_51⟩
  refine (?_ : AJ G K Q 1 6 ex n 10 [some (.ref (q_h G + 0)), some (.int (nI (r1))), some (.int (x)), some (.int (q_b (s))), none] [.ref (q_h G + (46 + 8 * r1))] σ_52)
  have hc_53 : σ_52 0 = o10 G (z1) (z2) (z3) := (hf_51 _ (by omega)).trans hc0
  have hc_54 : σ_52 25 = o0 G (25) (nI (g 0)) (nI (g 3)) (nI (g 4)) (nI (g 5)) (nI (g 6)) := (hf_51 _ (by omega)).trans hg_1
  have hc_55 : σ_52 26 = q_rn G 3 4 (fun j => some (25 + 10 + 2 * j)) := (hf_51 _ (by omega)).trans hg_2
  have hc_56 : σ_52 27 = o6 G (27) (nI (g 1)) (nI (g 2)) := (hf_51 _ (by omega)).trans hg_3
  have hc_57 : σ_52 (27 + 1) = q_an G 8 kd := (hf_51 _ (by omega)).trans hg_4
  have hc_58 : σ_52 (27 + 2) = q_an G 8 fi := (hf_51 _ (by omega)).trans hg_5
  have hc_59 : σ_52 (27 + 3) = q_an G 8 se := (hf_51 _ (by omega)).trans hg_6
  have hc_60 : σ_52 (27 + 4) = q_an G 8 tf := (hf_51 _ (by omega)).trans hg_7
  have hc_61 : σ_52 (27 + 5) = q_an G 8 ts := (hf_51 _ (by omega)).trans hg_8
  have hc_62 : σ_52 (25 + 8) = q_an G 10 ac := (hf_51 _ (by omega)).trans hg_9
  have hc_63 : σ_52 (25 + 9) = q_an G 100 tu := (hf_51 _ (by omega)).trans hg_10
  have hc_64 : ∀ j9 : Nat, j9 < g 0 → σ_52 (25 + 10 + 2 * j9) = o7 G (25 + 10 + 2 * j9) (lN (nm j9)) (lN (on j9)) (nI (s_rule g j9 18)) (nI (s_rule g j9 19)) (nI (s_rule g j9 20)) := fun j9 hj0 => (hf_51 _ (by omega)).trans (hc_13 j9 (by omega))
  have hc_65 : ∀ j9 : Nat, j9 < g 0 → σ_52 (25 + 10 + 2 * j9 + 1) = q_an G 5 (bm j9) := fun j9 hj0 => (hf_51 _ (by omega)).trans (hc_14 j9 (by omega))
  have hc_66 : σ_52 43 = o4 G (43)  := (hf_51 _ (by omega)).trans hm_15
  have hc_67 : σ_52 44 = q_rn G 4 4 (fun j => some (46 + 8 * j)) := (hf_51 _ (by omega)).trans hm_16
  have hc_68 : σ_52 45 = o1 G (h0) (h1) (h2) (h3) (h4) := (hf_51 _ (by omega)).trans hm_17
  obtain ⟨ho9, hsl9, hmo9, hnb9, hbm9, hn09, hst9, hva9, hgv9, hgs9, hlm9, hvs9⟩ := htz2
  refine A_iload_n hg dX10_losing_10 rfl rfl ?_
  refine A_hV (kc2 := 1) (ks2 := 6) (As := [.int (x)]) (rest := []) hg lk_RX10_309 in_X8_losingPlace se_X8_losingPlace rfl dX10_losing_11 ⟨by decide, by decide⟩ rfl rfl ⟨by decide, by decide⟩ (hc_43 r1 (by omega)) (by omega) rfl rfl (Nat.le_of_ble_eq_true rfl) (c_X8_losingPlace G ex n σ_52 (46 + 8 * r1) (flB_26 r1) (n0B_27 r1) (gvB_28 r1) (gsB_29 r1) (lmB_30 r1) (vsB_31 r1) (vaB_40 r1) x (hc_43 r1 (by omega)) (hc_48 r1 (by omega)) (by omega) (fun j hj => by have h1 := (hva9 j hj).1; have h2 := s_V_le (s_rule g r1) hj; unfold s_V at h2; omega)) ?_
  rintro _ σ_71 (⟨j9, rfl, hj9, hvj9, hix9, he_69⟩ | ⟨rfl, hno9, he_70⟩)
  · skip
    rw [he_69]
    refine (?_ : AJ G K Q 1 6 ex n 14 [some (.ref (q_h G + 0)), some (.int (nI (r1))), some (.int (x)), some (.int (q_b (s))), none] [.int (nI (j9))] σ_52)
    have hce := (show s_cnt (fun q => vaB_40 r1 q == 0) j9 = s_lzc (s_rule g r1) j9 from s_cnt_congr (fun q hq => by rw [(hva9 q (by omega)).1]; rfl))
    have hvz : s_V (s_rule g r1) j9 = 0 := by have := (hva9 j9 hj9).1; unfold s_V; omega
    refine A_istore hg dX10_losing_14 (by decide) (q_c1d rfl) ?_
    refine A_eq (ls2 := [some (.ref (q_h G + 0)), some (.int (nI (r1))), some (.int (x)), some (.int (q_b (s))), some (.int (nI (j9)))]) (st2 := []) (pc2 := 0) rfl rfl ?_
    refine A_iload hg dX10_losing_16 rfl ?_
    refine A_if_geN (tgt := 23) hg dX10_losing_18 (by omega) (by decide) ?_
    refine A_iload_n hg dX10_losing_23 rfl rfl ?_
    refine A_if_eqB (tgt := 35) hg dX10_losing_24 (by decide) (fun c24 => ?_) (fun c24 => ?_)
    · skip
      refine A_iload hg dX10_losing_35 rfl ?_
      refine A_bipush (v := (nI (41))) hg dX10_losing_37 (by decide) ?_
      refine A_idivN hg dX10_losing_39 (by omega) (by decide) (by decide) ?_
      rw [hQ]
      exact A_ireturn hg (by decide) (by decide) rfl dX10_losing_40 ⟨rfl, Or.inl (⟨r1, (s_lzc (s_rule g r1) j9), (by rw [s_lzn_eq hj9 hvz, c24]; rfl), rfl, hrl9, (hix9.trans (congrArg nI hce)), (s_lzc_lt hj9 hvz), ⟨(h0), (h1), (h2), (h3), (h4), flB_26, n0B_27, gvB_28, gsB_29, lmB_30, vsB_31, nmB_32, onB_33, slB_34, moB_35, nbB_36, bmB_37, skB_38, s2B_39, vaB_40, spB_41, rfB_42, hc_66, hc_67, hc_68, hc_43, hc_44, hc_45, hc_46, hc_47, hc_48, hc_49, hc_50, hTI2⟩, (fun i hi => (hf_51 i (by omega)))⟩)⟩
    · skip
      refine A_iload hg dX10_losing_27 rfl ?_
      refine A_bipush (v := (nI (41))) hg dX10_losing_29 (by decide) ?_
      refine A_iremN hg dX10_losing_31 (by omega) (by decide) (by decide) ?_
      refine A_goto (tgt := 40) hg dX10_losing_32 (by decide) ?_
      rw [hQ]
      exact A_ireturn hg (by decide) (by decide) rfl dX10_losing_40 ⟨rfl, Or.inl (⟨r1, (s_lzc (s_rule g r1) j9), (by rw [s_lzn_eq hj9 hvz, c24]; rfl), rfl, hrl9, (hix9.trans (congrArg nI hce)), (s_lzc_lt hj9 hvz), ⟨(h0), (h1), (h2), (h3), (h4), flB_26, n0B_27, gvB_28, gsB_29, lmB_30, vsB_31, nmB_32, onB_33, slB_34, moB_35, nbB_36, bmB_37, skB_38, s2B_39, vaB_40, spB_41, rfB_42, hc_66, hc_67, hc_68, hc_43, hc_44, hc_45, hc_46, hc_47, hc_48, hc_49, hc_50, hTI2⟩, (fun i hi => (hf_51 i (by omega)))⟩)⟩
  · skip
    rw [he_70]
    refine (?_ : AJ G K Q 1 6 ex n 14 [some (.ref (q_h G + 0)), some (.int (nI (r1))), some (.int (x)), some (.int (q_b (s))), none] [.int (q_d (0))] σ_52)
    have hce := (show s_cnt (fun q => vaB_40 r1 q == 0) 1681 = s_lzc (s_rule g r1) 1681 from s_cnt_congr (fun q hq => by rw [(hva9 q (by omega)).1]; rfl))
    refine A_istore hg dX10_losing_14 (by decide) (q_c1d rfl) ?_
    refine A_eq (ls2 := [some (.ref (q_h G + 0)), some (.int (nI (r1))), some (.int (x)), some (.int (q_b (s))), some (.int (q_d (0)))]) (st2 := []) (pc2 := 0) rfl rfl ?_
    refine A_iload hg dX10_losing_16 rfl ?_
    refine A_if_geM (tgt := 23) hg dX10_losing_18 (by decide) (by decide) (fun c18 => absurd c18 (by decide)) (fun c18 => ?_)
    refine A_iconst (v := (q_d (0))) hg dX10_losing_21 (by decide) ?_
    rw [hQ]
    exact A_ireturn hg (by decide) (by decide) rfl dX10_losing_22 ⟨rfl, Or.inr ((⟨r1, rfl, rfl, hrl9, (fun j hj e => hno9 j (by rw [hce]; exact hj) e), ⟨(h0), (h1), (h2), (h3), (h4), flB_26, n0B_27, gvB_28, gsB_29, lmB_30, vsB_31, nmB_32, onB_33, slB_34, moB_35, nbB_36, bmB_37, skB_38, s2B_39, vaB_40, spB_41, rfB_42, hc_66, hc_67, hc_68, hc_43, hc_44, hc_45, hc_46, hc_47, hc_48, hc_49, hc_50, hTI2⟩, (fun i hi => (hf_51 i (by omega)))⟩))⟩
set_option maxRecDepth 100000 in
set_option maxHeartbeats 4000000 in
theorem c_X10_partner (G : GL) (ex : Bool) (n : Nat) (σ : Nat → va_E) (z1 : Int32) (z2 : Int32) (z3 : Int32) (g : Nat → Nat) (r : Int32) (k : Int32) (hc0 : σ 0 = o10 G (z1) (z2) (z3)) (hn9 : 279 ≤ n) (hG : x_gm G σ 25 g) (hM : x_mx G σ) : CtX G yX10_partner cX10_partner 5 (some .int) ⟨7, 2, 12, 119⟩ [.ref (q_h G + 0), .int (r), .int (k)] ex n σ (fun v9 σ2 => (∃ (r1 : Nat), ∃ (a1 : Nat), v9 = some (.int (nI (s_ptn (s_rule g r1) a1))) ∧ (r = nI r1) ∧ (r1 < g 0) ∧ (k = nI a1) ∧ (a1 ≤ 40) ∧ (s_pta (s_rule g r1) a1 = true) ∧ (x_mx G σ2) ∧ (∀ i : Nat, i < 43 ∨ 77 < i → σ2 i = σ i)) ∨ (∃ (r1 : Nat), ∃ (a1 : Nat), v9 = some (.int (q_d (0))) ∧ (r = nI r1) ∧ (r1 < g 0) ∧ (k = nI a1) ∧ (a1 ≤ 40) ∧ (s_pta (s_rule g r1) a1 = false) ∧ (x_mx G σ2) ∧ (∀ i : Nat, i < 43 ∨ 77 < i → σ2 i = σ i))) (fun E σ2 => σ2 = σ ∧ ((E = "java/lang/IndexOutOfBoundsException" ∧ (∀ j : Nat, j < g 0 → r = nI j → False)) ∨ (E = "java/lang/IllegalArgumentException" ∧ (∃ r1 : Nat, r = nI r1 ∧ r1 < g 0 ∧ ∀ a : Nat, 0 ≤ a → a ≤ 40 → k = nI a → False)))) := by
  refine q_enter [some (.ref (q_h G + 0)), some (.int (r)), some (.int (k)), none, none] (by decide) (Nat.le_of_ble_eq_true rfl) rfl ?_
  intro K hg
  obtain ⟨Q, hQ⟩ : ∃ Q, Q = q_Q G K ex n 2 12 (fun v9 n' σ' => n' = n ∧ (fun v9 σ2 => (∃ (r1 : Nat), ∃ (a1 : Nat), v9 = some (.int (nI (s_ptn (s_rule g r1) a1))) ∧ (r = nI r1) ∧ (r1 < g 0) ∧ (k = nI a1) ∧ (a1 ≤ 40) ∧ (s_pta (s_rule g r1) a1 = true) ∧ (x_mx G σ2) ∧ (∀ i : Nat, i < 43 ∨ 77 < i → σ2 i = σ i)) ∨ (∃ (r1 : Nat), ∃ (a1 : Nat), v9 = some (.int (q_d (0))) ∧ (r = nI r1) ∧ (r1 < g 0) ∧ (k = nI a1) ∧ (a1 ≤ 40) ∧ (s_pta (s_rule g r1) a1 = false) ∧ (x_mx G σ2) ∧ (∀ i : Nat, i < 43 ∨ 77 < i → σ2 i = σ i))) v9 σ') (fun E σ2 => σ2 = σ ∧ ((E = "java/lang/IndexOutOfBoundsException" ∧ (∀ j : Nat, j < g 0 → r = nI j → False)) ∨ (E = "java/lang/IllegalArgumentException" ∧ (∃ r1 : Nat, r = nI r1 ∧ r1 < g 0 ∧ ∀ a : Nat, 0 ≤ a → a ≤ 40 → k = nI a → False)))) := ⟨_, rfl⟩
  refine (?_ : AJ G K (q_Q G K ex n 2 12 _ _) 0 0 ex n 0 _ _ σ)
  rw [← hQ]
  obtain ⟨kd, fi, se, tf, ts, ac, tu, nm, on, sl, mo, nb, bm, ⟨hg_1, hg_2, hg_3, hg_4, hg_5, hg_6, hg_7, hg_8, hg_9, hg_10, hg_11, hg_12⟩, hgr⟩ := hG
  obtain ⟨hgw, hxp, htp, hrl, hac, htu⟩ := hgr
  have hrs := x_rl_rs hrl
  have hg0 := hgw.1
  have hg1 := hgw.2.1
  have hg2 := hgw.2.2.1
  have hg3 := hgw.2.2.2.1
  have hg6 := hgw.2.2.2.2.1
  have hnp : s_np g = g 1 + g 2 := rfl
  have hc_13 : ∀ j9 : Nat, j9 < g 0 → σ (25 + 10 + 2 * j9) = o7 G (25 + 10 + 2 * j9) (lN (nm j9)) (lN (on j9)) (nI (s_rule g j9 18)) (nI (s_rule g j9 19)) (nI (s_rule g j9 20)) := fun j9 hj => (hg_11 j9 (by omega)).trans (by rw [(hrl j9 hj).2.2.2.1, (hrl j9 hj).2.2.2.2.1, (hrl j9 hj).2.2.2.2.2.1])
  have hc_14 : ∀ j9 : Nat, j9 < g 0 → σ (25 + 10 + 2 * j9 + 1) = q_an G 5 (bm j9) := fun j9 hj => hg_12 j9 (by omega)
  obtain ⟨h0, h1, h2, h3, h4, flA, n0A, gvA, gsA, lmA, vsA, nmA, onA, slA, moA, nbA, bmA, skA, s2A, vaA, spA, rfA, hm_15, hm_16, hm_17, hm_18, hm_19, hm_20, hm_21, hm_22, hm_23, hm_24, hm_25, hTI⟩ := hM
  refine A_aload_n hg dX10_partner_0 rfl rfl ?_
  refine A_iload_n hg dX10_partner_1 rfl rfl ?_
  refine A_pVX (kc2 := 1) (ks2 := 6) (As := [.int (r)]) (rest := []) hg lk_RX10_195 in_X10_needRule se_X10_needRule rfl dX10_partner_2 ⟨by decide, by decide⟩ rfl rfl ⟨by decide, by decide⟩ hc0 (by omega) rfl rfl (Nat.le_of_ble_eq_true rfl) (c_X10_needRule G ex n σ z1 z2 z3 (g 0) (g 3) (g 4) (g 5) (g 6) r hc0 hg_1 (by omega) (by omega)) (fun E σx hx => by rw [hQ]; exact A_out hg (by decide) (by decide) (by obtain ⟨hs, hE, hx⟩ := hx; exact ⟨hs, Or.inl (⟨hE, hx⟩)⟩)) ?_
  rintro _ ⟨r1, rfl, hre, hrl9⟩
  refine (?_ : AJ G K Q 1 6 ex n 5 [some (.ref (q_h G + 0)), some (.int (r)), some (.int (k)), none, none] [] σ)
  subst hre
  have hu := hgw.2.2.2.2.2.1 r1 hrl9
  have hrr := hrl r1 hrl9
  have hon := hrr.2.1
  refine A_iload_n hg dX10_partner_5 rfl rfl ?_
  refine A_iconst (v := (nI (0))) hg dX10_partner_6 (by decide) ?_
  refine A_bipush (v := (nI (40))) hg dX10_partner_7 (by decide) ?_
  refine A_pSX (kc2 := 2) (ks2 := 12) (As := [.int (k), .int (nI (0)), .int (nI (40))]) (rest := []) hg lk_RX10_179 st_X10_needRange dX10_partner_9 ⟨by decide, by decide⟩ rfl rfl ⟨by decide, by decide⟩ rfl rfl (Nat.le_of_ble_eq_true rfl) (c_X10_needRange G ex n σ k 0 40 (by omega) (by omega)) (fun E σx hx => by rw [hQ]; exact A_out hg (by decide) (by decide) (by obtain ⟨hs, hE, hx⟩ := hx; exact ⟨hs, Or.inr ((⟨hE, r1, rfl, hrl9, hx⟩))⟩)) ?_
  rintro _ ⟨a1, rfl, hke, ha0, ha4⟩
  refine (?_ : AJ G K Q 2 12 ex n 12 [some (.ref (q_h G + 0)), some (.int (nI (r1))), some (.int (k)), none, none] [] σ)
  subst hke
  refine A_aload_n hg dX10_partner_12 rfl rfl ?_
  refine A_iload_n hg dX10_partner_13 rfl rfl ?_
  refine A_hV (kc2 := 2) (ks2 := 12) (As := [.int (nI (r1))]) (rest := []) hg lk_RX10_225 in_X10_fittedTable se_X10_fittedTable rfl dX10_partner_14 ⟨by decide, by decide⟩ rfl rfl ⟨by decide, by decide⟩ hc0 (by omega) rfl rfl (Nat.le_of_ble_eq_true rfl) (c_X10_fittedTable G ex n σ z1 z2 z3 g nm on bm flA n0A gvA gsA lmA vsA nmA onA slA moA nbA bmA skA s2A vaA spA rfA r1 hc0 hm_15 hm_16 hg_1 hg_2 hc_13 hc_14 hm_18 hm_19 hm_20 hm_21 hm_22 hm_23 hm_24 hm_25 (by omega) hgw hrs hTI hrl9) ?_
  rintro _ σ_52 ⟨flB_26, n0B_27, gvB_28, gsB_29, lmB_30, vsB_31, nmB_32, onB_33, slB_34, moB_35, nbB_36, bmB_37, skB_38, s2B_39, vaB_40, spB_41, rfB_42, rfl, hTI2, htz2, hc_43, hc_44, hc_45, hc_46, hc_47, hc_48, hc_49, hc_50, hf_51⟩
  refine (?_ : AJ G K Q 2 12 ex n 17 [some (.ref (q_h G + 0)), some (.int (nI (r1))), some (.int (nI (a1))), none, none] [.ref (q_h G + (46 + 8 * r1))] σ_52)
  have hc_53 : σ_52 0 = o10 G (z1) (z2) (z3) := (hf_51 _ (by omega)).trans hc0
  have hc_54 : σ_52 25 = o0 G (25) (nI (g 0)) (nI (g 3)) (nI (g 4)) (nI (g 5)) (nI (g 6)) := (hf_51 _ (by omega)).trans hg_1
  have hc_55 : σ_52 26 = q_rn G 3 4 (fun j => some (25 + 10 + 2 * j)) := (hf_51 _ (by omega)).trans hg_2
  have hc_56 : σ_52 27 = o6 G (27) (nI (g 1)) (nI (g 2)) := (hf_51 _ (by omega)).trans hg_3
  have hc_57 : σ_52 (27 + 1) = q_an G 8 kd := (hf_51 _ (by omega)).trans hg_4
  have hc_58 : σ_52 (27 + 2) = q_an G 8 fi := (hf_51 _ (by omega)).trans hg_5
  have hc_59 : σ_52 (27 + 3) = q_an G 8 se := (hf_51 _ (by omega)).trans hg_6
  have hc_60 : σ_52 (27 + 4) = q_an G 8 tf := (hf_51 _ (by omega)).trans hg_7
  have hc_61 : σ_52 (27 + 5) = q_an G 8 ts := (hf_51 _ (by omega)).trans hg_8
  have hc_62 : σ_52 (25 + 8) = q_an G 10 ac := (hf_51 _ (by omega)).trans hg_9
  have hc_63 : σ_52 (25 + 9) = q_an G 100 tu := (hf_51 _ (by omega)).trans hg_10
  have hc_64 : ∀ j9 : Nat, j9 < g 0 → σ_52 (25 + 10 + 2 * j9) = o7 G (25 + 10 + 2 * j9) (lN (nm j9)) (lN (on j9)) (nI (s_rule g j9 18)) (nI (s_rule g j9 19)) (nI (s_rule g j9 20)) := fun j9 hj0 => (hf_51 _ (by omega)).trans (hc_13 j9 (by omega))
  have hc_65 : ∀ j9 : Nat, j9 < g 0 → σ_52 (25 + 10 + 2 * j9 + 1) = q_an G 5 (bm j9) := fun j9 hj0 => (hf_51 _ (by omega)).trans (hc_14 j9 (by omega))
  have hc_66 : σ_52 43 = o4 G (43)  := (hf_51 _ (by omega)).trans hm_15
  have hc_67 : σ_52 44 = q_rn G 4 4 (fun j => some (46 + 8 * j)) := (hf_51 _ (by omega)).trans hm_16
  have hc_68 : σ_52 45 = o1 G (h0) (h1) (h2) (h3) (h4) := (hf_51 _ (by omega)).trans hm_17
  obtain ⟨ho9, hsl9, hmo9, hnb9, hbm9, hn09, hst9, hva9, hgv9, hgs9, hlm9, hvs9⟩ := htz2
  refine A_astore_n hg dX10_partner_17 rfl (by decide) (q_c1d rfl) ?_
  refine A_eq (ls2 := [some (.ref (q_h G + 0)), some (.int (nI (r1))), some (.int (nI (a1))), some (.ref (q_h G + (46 + 8 * r1))), none]) (st2 := []) (pc2 := 0) rfl rfl ?_
  refine A_iconst (v := (nI (0))) hg dX10_partner_18 (by decide) ?_
  refine A_istore hg dX10_partner_19 (by decide) (q_c1d rfl) ?_
  refine A_eq (ls2 := [some (.ref (q_h G + 0)), some (.int (nI (r1))), some (.int (nI (a1))), some (.ref (q_h G + (46 + 8 * r1))), some (.int (nI (0)))]) (st2 := []) (pc2 := 0) rfl rfl ?_
  have hL21 : ∀ (fu : Nat) (y : Nat), (y ≤ 41) → (∀ j : Nat, j < y → ¬ s_V (s_rule g r1) (41 * a1 + j) = 0) → (41 - y) < fu → AJ G K Q 2 12 ex n 21 [some (.ref (q_h G + 0)), some (.int (nI (r1))), some (.int (nI (a1))), some (.ref (q_h G + (46 + 8 * r1))), some (.int (nI (y)))] [] σ_52 := by
    intro fu
    induction fu with
    | zero => intro y hy hno hm; exact absurd hm (Nat.not_lt_zero _)
    | succ fu ih21 =>
      intro y hy hno hm21
      refine A_iload hg dX10_partner_21 rfl ?_
      refine A_bipush (v := (nI (40))) hg dX10_partner_23 (by decide) ?_
      refine A_icmp_gtN (tgt := 47) hg dX10_partner_25 (by omega) (by decide) (by decide) (fun c25 => ?_) (fun c25 => ?_)
      · skip
        refine A_iconst (v := (q_d (0))) hg dX10_partner_47 (by decide) ?_
        rw [hQ]
        exact A_ireturn hg (by decide) (by decide) rfl dX10_partner_48 ⟨rfl, Or.inr ((⟨r1, a1, rfl, rfl, hrl9, rfl, ha4, (s_pta_f (fun j hj => hno j (by omega))), ⟨(h0), (h1), (h2), (h3), (h4), flB_26, n0B_27, gvB_28, gsB_29, lmB_30, vsB_31, nmB_32, onB_33, slB_34, moB_35, nbB_36, bmB_37, skB_38, s2B_39, vaB_40, spB_41, rfB_42, hc_66, hc_67, hc_68, hc_43, hc_44, hc_45, hc_46, hc_47, hc_48, hc_49, hc_50, hTI2⟩, (fun i hi => (hf_51 i (by omega)))⟩))⟩
      · skip
        refine A_aload_n hg dX10_partner_28 rfl rfl ?_
        refine A_iload_n hg dX10_partner_29 rfl rfl ?_
        refine A_iload hg dX10_partner_30 rfl ?_
        refine A_eV (kc2 := 2) (ks2 := 12) (As := [.int (nI (a1)), .int (nI (y))]) (rest := []) hg lk_RX10_303 in_X8_valueAt se_X8_valueAt rfl dX10_partner_32 ⟨by decide, by decide⟩ rfl rfl ⟨by decide, by decide⟩ (hc_43 r1 (by omega)) (by omega) rfl rfl (Nat.le_of_ble_eq_true rfl) (c_X8_valueAt G ex n σ_52 (46 + 8 * r1) (flB_26 r1) (n0B_27 r1) (gvB_28 r1) (gsB_29 r1) (lmB_30 r1) (vsB_31 r1) (vaB_40 r1) a1 y (hc_43 r1 (by omega)) (hc_48 r1 (by omega)) (by omega) (by omega) (by omega)) ?_
        have hvp : (vaB_40 r1) (a1 * 41 + y) = s_V (s_rule g r1) (41 * a1 + y) := by
          rw [(hva9 (a1 * 41 + y) (by omega)).1, show a1 * 41 + y = 41 * a1 + y by omega]; rfl
        have hvl := s_V_le (s_rule g r1) (p := 41 * a1 + y) (by omega)
        refine A_if_neN (tgt := 41) hg dX10_partner_35 (by omega) (by decide) (fun c35 => ?_) (fun c35 => ?_)
        · skip
          refine A_iincN (k' := 1) hg dX10_partner_41 (by decide) rfl (by decide) (q_c1d rfl) ?_
          refine A_eq (ls2 := [some (.ref (q_h G + 0)), some (.int (nI (r1))), some (.int (nI (a1))), some (.ref (q_h G + (46 + 8 * r1))), some (.int (nI (y + 1)))]) (st2 := []) (pc2 := 0) rfl rfl ?_
          refine A_goto (tgt := 21) hg dX10_partner_44 (by decide) ?_
          exact ih21 (y + 1) (by omega) (lt_s hno (fun e => c35 (hvp.trans e))) (by omega)
        · skip
          refine A_iload hg dX10_partner_38 rfl ?_
          rw [hQ]
          exact A_ireturn hg (by decide) (by decide) rfl dX10_partner_40 ⟨rfl, Or.inl (⟨r1, a1, (by rw [s_ptn_eq (show y < 41 by omega) (hvp.symm.trans c35) hno]), rfl, hrl9, rfl, ha4, (s_pta_t (show y < 41 by omega) (hvp.symm.trans c35)), ⟨(h0), (h1), (h2), (h3), (h4), flB_26, n0B_27, gvB_28, gsB_29, lmB_30, vsB_31, nmB_32, onB_33, slB_34, moB_35, nbB_36, bmB_37, skB_38, s2B_39, vaB_40, spB_41, rfB_42, hc_66, hc_67, hc_68, hc_43, hc_44, hc_45, hc_46, hc_47, hc_48, hc_49, hc_50, hTI2⟩, (fun i hi => (hf_51 i (by omega)))⟩)⟩
  exact hL21 _ 0 (by omega) (fun j h => absurd h (Nat.not_lt_zero j)) (Nat.lt_succ_self _)
end
