section
def x_oj (G : GL) (σ : Nat → va_E) : Prop := ∃ (nmO : Nat), ∃ (onO : Nat), ∃ (slO : Nat), ∃ (moO : Nat), ∃ (nbO : Nat), ∃ (bmO : Nat → Nat), ∃ (flP : Nat), ∃ (n0P : Nat), ∃ (gvP : Nat), ∃ (gsP : Nat), ∃ (lmP : Nat), ∃ (vsP : Nat), ∃ (skfP : Nat → Nat), ∃ (slfP : Nat → Nat), ∃ (vaP : Nat → Nat), ∃ (spP : Nat → Nat), ∃ (rfP : Nat → Nat), ∃ (nmP : Nat), ∃ (onP : Nat), ∃ (slP : Nat), ∃ (moP : Nat), ∃ (nbP : Nat), ∃ (bmP : Nat → Nat), σ 226 = o7 G (226) (lN (nmO)) (lN (onO)) (nI (slO)) (nI (moO)) (nI (nbO)) ∧ σ (226 + 1) = q_an G 5 bmO ∧ σ 228 = o8 G (228) (nI (flP)) (nI (n0P)) (nI (gvP)) (nI (gsP)) (nI (lmP)) (nI (vsP)) ∧ σ 231 = q_an G 1681 skfP ∧ σ 232 = q_an G 1681 slfP ∧ σ 233 = q_an G 1681 vaP ∧ σ 234 = q_an G 1681 spP ∧ σ 235 = q_an G 1681 rfP ∧ σ 229 = o7 G (229) (lN (nmP)) (lN (onP)) (nI (slP)) (nI (moP)) (nI (nbP)) ∧ σ 230 = q_an G 5 bmP ∧ ∀ j : Nat, j < 1681 → spP j < 1681
theorem x_oj_e {G : GL} {σ σ2 : Nat → va_E} (e : ∀ i : Nat, 226 ≤ i → i ≤ 235 → σ2 i = σ i) (h : x_oj G σ) : x_oj G σ2 := by
  obtain ⟨nmO, onO, slO, moO, nbO, bmO, flP, n0P, gvP, gsP, lmP, vsP, skfP, slfP, vaP, spP, rfP, nmP, onP, slP, moP, nbP, bmP, h0, h1, h2, h3, h4, h5, h6, h7, h8, h9, hs⟩ := h
  exact ⟨nmO, onO, slO, moO, nbO, bmO, flP, n0P, gvP, gsP, lmP, vsP, skfP, slfP, vaP, spP, rfP, nmP, onP, slP, moP, nbP, bmP, (e _ (by omega) (by omega)).trans h0, (e _ (by omega) (by omega)).trans h1, (e _ (by omega) (by omega)).trans h2, (e _ (by omega) (by omega)).trans h3, (e _ (by omega) (by omega)).trans h4, (e _ (by omega) (by omega)).trans h5, (e _ (by omega) (by omega)).trans h6, (e _ (by omega) (by omega)).trans h7, (e _ (by omega) (by omega)).trans h8, (e _ (by omega) (by omega)).trans h9, hs⟩
set_option maxRecDepth 100000 in
set_option maxHeartbeats 4000000 in
theorem c_X10_losingWith (G : GL) (ex : Bool) (n : Nat) (σ : Nat → va_E) (z1 : Int32) (z2 : Int32) (z3 : Int32) (g : Nat → Nat) (r : Int32) (x : Int32) (hc0 : σ 0 = o10 G (z1) (z2) (z3)) (hn9 : 279 ≤ n) (hG : x_gm G σ 25 g) (hO : x_oj G σ) : CtX G yX10_losingWith cX10_losingWith 3 (some .int) ⟨7, 2, 12, 112⟩ [.ref (q_h G + 0), .int (r), .int (x)] ex n σ (fun v9 σ2 => ∃ (r1 : Nat), ∃ (x1 : Nat), v9 = some (.int (nI (s_cnt (fun p => s_V (s_rule (s_rset g r1 18 x1) r1) p == 0) 1681))) ∧ (r = nI r1) ∧ (r1 < g 0) ∧ (x = nI x1) ∧ (x1 ≤ 5) ∧ (x_oj G σ2) ∧ (∀ i : Nat, i < 226 ∨ 235 < i → σ2 i = σ i)) (fun E σ2 => σ2 = σ ∧ ((E = "java/lang/IndexOutOfBoundsException" ∧ (∀ j : Nat, j < g 0 → r = nI j → False)) ∨ (E = "java/lang/IllegalArgumentException" ∧ (∃ r1 : Nat, r = nI r1 ∧ r1 < g 0 ∧ (∀ j : Nat, 0 ≤ j → j ≤ 5 → x = nI j → False))))) := by
  refine q_enter [some (.ref (q_h G + 0)), some (.int (r)), some (.int (x))] (by decide) (Nat.le_of_ble_eq_true rfl) rfl ?_
  intro K hg
  obtain ⟨Q, hQ⟩ : ∃ Q, Q = q_Q G K ex n 2 12 (fun v9 n' σ' => n' = n ∧ (fun v9 σ2 => ∃ (r1 : Nat), ∃ (x1 : Nat), v9 = some (.int (nI (s_cnt (fun p => s_V (s_rule (s_rset g r1 18 x1) r1) p == 0) 1681))) ∧ (r = nI r1) ∧ (r1 < g 0) ∧ (x = nI x1) ∧ (x1 ≤ 5) ∧ (x_oj G σ2) ∧ (∀ i : Nat, i < 226 ∨ 235 < i → σ2 i = σ i)) v9 σ') (fun E σ2 => σ2 = σ ∧ ((E = "java/lang/IndexOutOfBoundsException" ∧ (∀ j : Nat, j < g 0 → r = nI j → False)) ∨ (E = "java/lang/IllegalArgumentException" ∧ (∃ r1 : Nat, r = nI r1 ∧ r1 < g 0 ∧ (∀ j : Nat, 0 ≤ j → j ≤ 5 → x = nI j → False))))) := ⟨_, rfl⟩
  refine (?_ : AJ G K (q_Q G K ex n 2 12 _ _) 0 0 ex n 0 _ _ σ)
  rw [← hQ]
  obtain ⟨kd, fi, se, tf, ts, ac, tu, nm, on, sl, mo, nb, bm, ⟨hg_1, hg_2, hg_3, hg_4, hg_5, hg_6, hg_7, hg_8, hg_9, hg_10, hg_11, hg_12⟩, hgr⟩ := hG
  obtain ⟨hgw, hxp, htp, hrl, hac, htu⟩ := hgr
  have hrs := x_rl_rs hrl
  have hg0 := hgw.1
  have hg1 := hgw.2.1
  have hg2 := hgw.2.2.1
  have hg3 := hgw.2.2.2.1
  have hg6 := hgw.2.2.2.2.1
  have hnp : s_np g = g 1 + g 2 := rfl
  have hc_13 : ∀ j9 : Nat, j9 < g 0 → σ (25 + 10 + 2 * j9) = o7 G (25 + 10 + 2 * j9) (lN (nm j9)) (lN (on j9)) (nI (s_rule g j9 18)) (nI (s_rule g j9 19)) (nI (s_rule g j9 20)) := fun j9 hj => (hg_11 j9 (by omega)).trans (by rw [(hrl j9 hj).2.2.2.1, (hrl j9 hj).2.2.2.2.1, (hrl j9 hj).2.2.2.2.2.1])
  have hc_14 : ∀ j9 : Nat, j9 < g 0 → σ (25 + 10 + 2 * j9 + 1) = q_an G 5 (bm j9) := fun j9 hj => hg_12 j9 (by omega)
  obtain ⟨nmO, onO, slO, moO, nbO, bmO, flP, n0P, gvP, gsP, lmP, vsP, skfP, slfP, vaP, spP, rfP, nmP, onP, slP, moP, nbP, bmP, ho_15, ho_16, ho_17, ho_18, ho_19, ho_20, ho_21, ho_22, ho_23, ho_24, hsO⟩ := hO
  refine A_aload_n hg dX10_losingWith_0 rfl rfl ?_
  refine A_iload_n hg dX10_losingWith_1 rfl rfl ?_
  refine A_pVX (kc2 := 1) (ks2 := 6) (As := [.int (r)]) (rest := []) hg lk_RX10_195 in_X10_needRule se_X10_needRule rfl dX10_losingWith_2 ⟨by decide, by decide⟩ rfl rfl ⟨by decide, by decide⟩ hc0 (by omega) rfl rfl (Nat.le_of_ble_eq_true rfl) (c_X10_needRule G ex n σ z1 z2 z3 (g 0) (g 3) (g 4) (g 5) (g 6) r hc0 hg_1 (by omega) (by omega)) (fun E σx hx => by rw [hQ]; exact A_out hg (by decide) (by decide) (by obtain ⟨hs, hE, hx⟩ := hx; exact ⟨hs, Or.inl (⟨hE, hx⟩)⟩)) ?_
  rintro _ ⟨r1, rfl, hre, hrl9⟩
  refine (?_ : AJ G K Q 1 6 ex n 5 [some (.ref (q_h G + 0)), some (.int (r)), some (.int (x))] [] σ)
  subst hre
  have hu := hgw.2.2.2.2.2.1 r1 hrl9
  have hrr := hrl r1 hrl9
  have hon := hrr.2.1
  refine A_iload_n hg dX10_losingWith_5 rfl rfl ?_
  refine A_iconst (v := (nI (0))) hg dX10_losingWith_6 (by decide) ?_
  refine A_iconst (v := (nI (5))) hg dX10_losingWith_7 (by decide) ?_
  refine A_pSX (kc2 := 2) (ks2 := 12) (As := [.int (x), .int (nI (0)), .int (nI (5))]) (rest := []) hg lk_RX10_179 st_X10_needRange dX10_losingWith_8 ⟨by decide, by decide⟩ rfl rfl ⟨by decide, by decide⟩ rfl rfl (Nat.le_of_ble_eq_true rfl) (c_X10_needRange G ex n σ x 0 5 (by omega) (by omega)) (fun E σx hx => by rw [hQ]; exact A_out hg (by decide) (by decide) (by obtain ⟨hs, hE, hx⟩ := hx; exact ⟨hs, Or.inr ((⟨hE, r1, rfl, hrl9, hx⟩))⟩)) ?_
  rintro _ ⟨x1, rfl, hxe, hx0, hxl9⟩
  refine (?_ : AJ G K Q 2 12 ex n 11 [some (.ref (q_h G + 0)), some (.int (nI (r1))), some (.int (x))] [] σ)
  subst hxe
  refine A_aload_n hg dX10_losingWith_11 rfl rfl ?_
  refine A_getf (v := .ref (q_h G + 226)) hg fl_RX10_69 dX10_losingWith_12 hc0 (by omega) rfl ?_
  refine A_aload_n hg dX10_losingWith_15 rfl rfl ?_
  refine A_getf (v := .ref (q_h G + 25)) hg fl_RX10_40 dX10_losingWith_16 hc0 (by omega) rfl ?_
  refine A_iload_n hg dX10_losingWith_19 rfl rfl ?_
  refine A_eV (kc2 := 2) (ks2 := 12) (As := [.int (nI (r1))]) (rest := [.ref (q_h G + 226)]) hg lk_RX10_198 in_X0_ruleAt se_X0_ruleAt rfl dX10_losingWith_20 ⟨by decide, by decide⟩ rfl rfl ⟨by decide, by decide⟩ hg_1 (by omega) rfl rfl (Nat.le_of_ble_eq_true rfl) (c_X0_ruleAt G ex n σ 25 (g 0) (g 3) (g 4) (g 5) (g 6) r1 hg_1 hg_2 (by omega) (by omega)) ?_
  refine A_vV (kc2 := 2) (ks2 := 12) (As := [.ref (q_h G + (25 + 10 + 2 * r1))]) (rest := []) hg lk_RX10_360 in_X7_copyFrom se_X7_copyFrom rfl dX10_losingWith_23 ⟨by decide, by decide⟩ rfl rfl ⟨by decide, by decide⟩ ho_15 (by omega) rfl rfl (Nat.le_of_ble_eq_true rfl) (c_X7_copyFrom G ex n σ 226 nmO onO slO moO nbO bmO (25 + 10 + 2 * r1) (nm r1) (on r1) (s_rule g r1 18) (s_rule g r1 19) (s_rule g r1 20) (bm r1) ho_15 ho_16 (hc_13 r1 (by omega)) (hc_14 r1 (by omega)) (by omega) (by omega) (by omega)) ?_
  rintro σ_28 ⟨hc_25, hc_26, hf_27⟩
  have hc_29 : σ_28 0 = o10 G (z1) (z2) (z3) := (hf_27 _ (by omega)).trans hc0
  have hc_30 : σ_28 25 = o0 G (25) (nI (g 0)) (nI (g 3)) (nI (g 4)) (nI (g 5)) (nI (g 6)) := (hf_27 _ (by omega)).trans hg_1
  have hc_31 : σ_28 26 = q_rn G 3 4 (fun j => some (25 + 10 + 2 * j)) := (hf_27 _ (by omega)).trans hg_2
  have hc_32 : σ_28 27 = o6 G (27) (nI (g 1)) (nI (g 2)) := (hf_27 _ (by omega)).trans hg_3
  have hc_33 : σ_28 (27 + 1) = q_an G 8 kd := (hf_27 _ (by omega)).trans hg_4
  have hc_34 : σ_28 (27 + 2) = q_an G 8 fi := (hf_27 _ (by omega)).trans hg_5
  have hc_35 : σ_28 (27 + 3) = q_an G 8 se := (hf_27 _ (by omega)).trans hg_6
  have hc_36 : σ_28 (27 + 4) = q_an G 8 tf := (hf_27 _ (by omega)).trans hg_7
  have hc_37 : σ_28 (27 + 5) = q_an G 8 ts := (hf_27 _ (by omega)).trans hg_8
  have hc_38 : σ_28 (25 + 8) = q_an G 10 ac := (hf_27 _ (by omega)).trans hg_9
  have hc_39 : σ_28 (25 + 9) = q_an G 100 tu := (hf_27 _ (by omega)).trans hg_10
  have hc_40 : ∀ j9 : Nat, j9 < g 0 → σ_28 (25 + 10 + 2 * j9) = o7 G (25 + 10 + 2 * j9) (lN (nm j9)) (lN (on j9)) (nI (s_rule g j9 18)) (nI (s_rule g j9 19)) (nI (s_rule g j9 20)) := fun j9 hj0 => (hf_27 _ (by omega)).trans (hc_13 j9 (by omega))
  have hc_41 : ∀ j9 : Nat, j9 < g 0 → σ_28 (25 + 10 + 2 * j9 + 1) = q_an G 5 (bm j9) := fun j9 hj0 => (hf_27 _ (by omega)).trans (hc_14 j9 (by omega))
  have hc_42 : σ_28 228 = o8 G (228) (nI (flP)) (nI (n0P)) (nI (gvP)) (nI (gsP)) (nI (lmP)) (nI (vsP)) := (hf_27 _ (by omega)).trans ho_17
  have hc_43 : σ_28 231 = q_an G 1681 skfP := (hf_27 _ (by omega)).trans ho_18
  have hc_44 : σ_28 232 = q_an G 1681 slfP := (hf_27 _ (by omega)).trans ho_19
  have hc_45 : σ_28 233 = q_an G 1681 vaP := (hf_27 _ (by omega)).trans ho_20
  have hc_46 : σ_28 234 = q_an G 1681 spP := (hf_27 _ (by omega)).trans ho_21
  have hc_47 : σ_28 235 = q_an G 1681 rfP := (hf_27 _ (by omega)).trans ho_22
  have hc_48 : σ_28 229 = o7 G (229) (lN (nmP)) (lN (onP)) (nI (slP)) (nI (moP)) (nI (nbP)) := (hf_27 _ (by omega)).trans ho_23
  have hc_49 : σ_28 230 = q_an G 5 bmP := (hf_27 _ (by omega)).trans ho_24
  refine A_aload_n hg dX10_losingWith_26 rfl rfl ?_
  refine A_getf (v := .ref (q_h G + 226)) hg fl_RX10_69 dX10_losingWith_27 hc_29 (by omega) rfl ?_
  refine A_iload_n hg dX10_losingWith_30 rfl rfl ?_
  refine A_putf hg fl_RX10_202 dX10_losingWith_31 hc_25 (by omega) (Nat.le_of_ble_eq_true rfl) rfl rfl rfl (fun σ_50 hc_51 hf_52 => ?_)
  have hc_51 : σ_50 226 = o7 G (226) (lN (nm r1)) (lN (on r1)) (nI (x1)) (nI (s_rule g r1 19)) (nI (s_rule g r1 20)) := hc_51
  have hc_53 : σ_50 0 = o10 G (z1) (z2) (z3) := (hf_52 _ (by omega)).trans hc_29
  have hc_54 : σ_50 25 = o0 G (25) (nI (g 0)) (nI (g 3)) (nI (g 4)) (nI (g 5)) (nI (g 6)) := (hf_52 _ (by omega)).trans hc_30
  have hc_55 : σ_50 26 = q_rn G 3 4 (fun j => some (25 + 10 + 2 * j)) := (hf_52 _ (by omega)).trans hc_31
  have hc_56 : σ_50 27 = o6 G (27) (nI (g 1)) (nI (g 2)) := (hf_52 _ (by omega)).trans hc_32
  have hc_57 : σ_50 (27 + 1) = q_an G 8 kd := (hf_52 _ (by omega)).trans hc_33
  have hc_58 : σ_50 (27 + 2) = q_an G 8 fi := (hf_52 _ (by omega)).trans hc_34
  have hc_59 : σ_50 (27 + 3) = q_an G 8 se := (hf_52 _ (by omega)).trans hc_35
  have hc_60 : σ_50 (27 + 4) = q_an G 8 tf := (hf_52 _ (by omega)).trans hc_36
  have hc_61 : σ_50 (27 + 5) = q_an G 8 ts := (hf_52 _ (by omega)).trans hc_37
  have hc_62 : σ_50 (25 + 8) = q_an G 10 ac := (hf_52 _ (by omega)).trans hc_38
  have hc_63 : σ_50 (25 + 9) = q_an G 100 tu := (hf_52 _ (by omega)).trans hc_39
  have hc_64 : ∀ j9 : Nat, j9 < g 0 → σ_50 (25 + 10 + 2 * j9) = o7 G (25 + 10 + 2 * j9) (lN (nm j9)) (lN (on j9)) (nI (s_rule g j9 18)) (nI (s_rule g j9 19)) (nI (s_rule g j9 20)) := fun j9 hj0 => (hf_52 _ (by omega)).trans (hc_40 j9 (by omega))
  have hc_65 : ∀ j9 : Nat, j9 < g 0 → σ_50 (25 + 10 + 2 * j9 + 1) = q_an G 5 (bm j9) := fun j9 hj0 => (hf_52 _ (by omega)).trans (hc_41 j9 (by omega))
  have hc_66 : σ_50 228 = o8 G (228) (nI (flP)) (nI (n0P)) (nI (gvP)) (nI (gsP)) (nI (lmP)) (nI (vsP)) := (hf_52 _ (by omega)).trans hc_42
  have hc_67 : σ_50 231 = q_an G 1681 skfP := (hf_52 _ (by omega)).trans hc_43
  have hc_68 : σ_50 232 = q_an G 1681 slfP := (hf_52 _ (by omega)).trans hc_44
  have hc_69 : σ_50 233 = q_an G 1681 vaP := (hf_52 _ (by omega)).trans hc_45
  have hc_70 : σ_50 234 = q_an G 1681 spP := (hf_52 _ (by omega)).trans hc_46
  have hc_71 : σ_50 235 = q_an G 1681 rfP := (hf_52 _ (by omega)).trans hc_47
  have hc_72 : σ_50 229 = o7 G (229) (lN (nmP)) (lN (onP)) (nI (slP)) (nI (moP)) (nI (nbP)) := (hf_52 _ (by omega)).trans hc_48
  have hc_73 : σ_50 230 = q_an G 5 bmP := (hf_52 _ (by omega)).trans hc_49
  have hc_74 : σ_50 (226 + 1) = q_an G 5 (bm r1) := (hf_52 _ (by omega)).trans hc_26
  have hou := s_rwf_18 (r := r1) (v := x1) hu hxl9
  have hon9 : x_on (s_rule (s_rset g r1 18 x1) r1) (on r1) := x_on_congr (fun j h1 h2 => by rw [s_rset_at, if_neg (by omega)]) hu.2.1 hon
  have hbm9 : x_bm (s_rule (s_rset g r1 18 x1) r1) (bm r1) := fun i hi => by
    rw [s_rset_at, if_neg (by omega)] at hi
    rw [s_rset_at, s_rset_at, if_neg (by omega), if_neg (by omega)]
    exact hrr.2.2.2.2.2.2 i hi
  have hc_75 : σ_50 226 = o7 G (226) (lN (nm r1)) (lN (on r1)) (nI (s_rule (s_rset g r1 18 x1) r1 18)) (nI (s_rule (s_rset g r1 18 x1) r1 19)) (nI (s_rule (s_rset g r1 18 x1) r1 20)) := hc_51.trans (by rw [s_rset_at, s_rset_at, s_rset_at]; rfl)
  refine A_aload_n hg dX10_losingWith_34 rfl rfl ?_
  refine A_getf (v := .ref (q_h G + 228)) hg fl_RX10_76 dX10_losingWith_35 hc_53 (by omega) rfl ?_
  refine A_aload_n hg dX10_losingWith_38 rfl rfl ?_
  refine A_getf (v := .ref (q_h G + 226)) hg fl_RX10_69 dX10_losingWith_39 hc_53 (by omega) rfl ?_
  refine A_vV (kc2 := 2) (ks2 := 12) (As := [.ref (q_h G + 226)]) (rest := []) hg lk_RX10_371 in_X8_fitLosing se_X8_fitLosing rfl dX10_losingWith_42 ⟨by decide, by decide⟩ rfl rfl ⟨by decide, by decide⟩ hc_66 (by omega) rfl rfl (Nat.le_of_ble_eq_true rfl) (c_X8_fitLosing G ex n σ_50 228 flP n0P gvP gsP lmP vsP 226 (s_rule (s_rset g r1 18 x1) r1) (nm r1) (on r1) (bm r1) nmP onP slP moP nbP bmP skfP slfP vaP spP rfP hc_66 hc_67 hc_68 hc_69 hc_70 hc_71 hc_72 hc_73 hc_75 hc_74 (by omega) (by omega) (by omega) (x_w_of hou) hon9 hbm9 hsO) ?_
  rintro σ_90 ⟨kf_76, lf_77, va3_78, gv3_79, gs3_80, vs3_81, hlw_82, hc_83, hc_84, hc_85, hc_86, hc_87, hc_88, hf_89⟩
  have hc_91 : σ_90 0 = o10 G (z1) (z2) (z3) := (hf_89 _ (by omega)).trans hc_53
  have hc_92 : σ_90 25 = o0 G (25) (nI (g 0)) (nI (g 3)) (nI (g 4)) (nI (g 5)) (nI (g 6)) := (hf_89 _ (by omega)).trans hc_54
  have hc_93 : σ_90 26 = q_rn G 3 4 (fun j => some (25 + 10 + 2 * j)) := (hf_89 _ (by omega)).trans hc_55
  have hc_94 : σ_90 27 = o6 G (27) (nI (g 1)) (nI (g 2)) := (hf_89 _ (by omega)).trans hc_56
  have hc_95 : σ_90 (27 + 1) = q_an G 8 kd := (hf_89 _ (by omega)).trans hc_57
  have hc_96 : σ_90 (27 + 2) = q_an G 8 fi := (hf_89 _ (by omega)).trans hc_58
  have hc_97 : σ_90 (27 + 3) = q_an G 8 se := (hf_89 _ (by omega)).trans hc_59
  have hc_98 : σ_90 (27 + 4) = q_an G 8 tf := (hf_89 _ (by omega)).trans hc_60
  have hc_99 : σ_90 (27 + 5) = q_an G 8 ts := (hf_89 _ (by omega)).trans hc_61
  have hc_100 : σ_90 (25 + 8) = q_an G 10 ac := (hf_89 _ (by omega)).trans hc_62
  have hc_101 : σ_90 (25 + 9) = q_an G 100 tu := (hf_89 _ (by omega)).trans hc_63
  have hc_102 : ∀ j9 : Nat, j9 < g 0 → σ_90 (25 + 10 + 2 * j9) = o7 G (25 + 10 + 2 * j9) (lN (nm j9)) (lN (on j9)) (nI (s_rule g j9 18)) (nI (s_rule g j9 19)) (nI (s_rule g j9 20)) := fun j9 hj0 => (hf_89 _ (by omega)).trans (hc_64 j9 (by omega))
  have hc_103 : ∀ j9 : Nat, j9 < g 0 → σ_90 (25 + 10 + 2 * j9 + 1) = q_an G 5 (bm j9) := fun j9 hj0 => (hf_89 _ (by omega)).trans (hc_65 j9 (by omega))
  have hc_104 : σ_90 234 = q_an G 1681 spP := (hf_89 _ (by omega)).trans hc_70
  have hc_105 : σ_90 235 = q_an G 1681 rfP := (hf_89 _ (by omega)).trans hc_71
  have hc_106 : σ_90 (226 + 1) = q_an G 5 (bm r1) := (hf_89 _ (by omega)).trans hc_74
  have hc_107 : σ_90 226 = o7 G (226) (lN (nm r1)) (lN (on r1)) (nI (s_rule (s_rset g r1 18 x1) r1 18)) (nI (s_rule (s_rset g r1 18 x1) r1 19)) (nI (s_rule (s_rset g r1 18 x1) r1 20)) := (hf_89 _ (by omega)).trans hc_75
  refine A_aload_n hg dX10_losingWith_45 rfl rfl ?_
  refine A_getf (v := .ref (q_h G + 228)) hg fl_RX10_76 dX10_losingWith_46 hc_91 (by omega) rfl ?_
  refine A_getf (v := .int (nI (s_cnt (fun q => s_val (s_A (s_rule (s_rset g r1 18 x1) r1)) q == 0) 1681))) hg fl_RX10_232 dX10_losingWith_49 hc_83 (by omega) rfl ?_
  rw [hQ]
  exact A_ireturn hg (by decide) (by decide) rfl dX10_losingWith_52 ⟨rfl, ⟨r1, x1, (by rfl), rfl, hrl9, rfl, hxl9, ⟨_, _, _, _, _, _, _, _, _, _, _, _, _, _, _, _, _, _, _, _, _, _, _, hc_107, hc_106, hc_83, hc_84, hc_85, hc_86, hc_104, hc_105, hc_87, hc_88, hsO⟩, (fun i hi => ((hf_89 i (by omega)).trans ((hf_52 i (by omega)).trans (hf_27 i (by omega)))))⟩⟩
end
