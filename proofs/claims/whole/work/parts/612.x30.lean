section
def x_oj (G : GL) (σ : Nat → va_E) : Prop := ∃ (nmO : Nat), ∃ (onO : Nat), ∃ (slO : Nat), ∃ (moO : Nat), ∃ (nbO : Nat), ∃ (bmO : Nat → Nat), ∃ (flP : Nat), ∃ (n0P : Nat), ∃ (gvP : Nat), ∃ (gsP : Nat), ∃ (lmP : Nat), ∃ (vsP : Nat), ∃ (skfP : Nat → Nat), ∃ (slfP : Nat → Nat), ∃ (vaP : Nat → Nat), ∃ (spP : Nat → Nat), ∃ (rfP : Nat → Nat), ∃ (nmP : Nat), ∃ (onP : Nat), ∃ (slP : Nat), ∃ (moP : Nat), ∃ (nbP : Nat), ∃ (bmP : Nat → Nat), σ 226 = o7 G (226) (lN (nmO)) (lN (onO)) (nI (slO)) (nI (moO)) (nI (nbO)) ∧ σ (226 + 1) = q_an G 5 bmO ∧ σ 228 = o8 G (228) (nI (flP)) (nI (n0P)) (nI (gvP)) (nI (gsP)) (nI (lmP)) (nI (vsP)) ∧ σ 231 = q_an G 1681 skfP ∧ σ 232 = q_an G 1681 slfP ∧ σ 233 = q_an G 1681 vaP ∧ σ 234 = q_an G 1681 spP ∧ σ 235 = q_an G 1681 rfP ∧ σ 229 = o7 G (229) (lN (nmP)) (lN (onP)) (nI (slP)) (nI (moP)) (nI (nbP)) ∧ σ 230 = q_an G 5 bmP ∧ ∀ j : Nat, j < 1681 → spP j < 1681
theorem x_oj_e {G : GL} {σ σ2 : Nat → va_E} (e : ∀ i : Nat, 226 ≤ i → i ≤ 235 → σ2 i = σ i) (h : x_oj G σ) : x_oj G σ2 := by
  obtain ⟨nmO, onO, slO, moO, nbO, bmO, flP, n0P, gvP, gsP, lmP, vsP, skfP, slfP, vaP, spP, rfP, nmP, onP, slP, moP, nbP, bmP, h0, h1, h2, h3, h4, h5, h6, h7, h8, h9, hs⟩ := h
  exact ⟨nmO, onO, slO, moO, nbO, bmO, flP, n0P, gvP, gsP, lmP, vsP, skfP, slfP, vaP, spP, rfP, nmP, onP, slP, moP, nbP, bmP, (e _ (by omega) (by omega)).trans h0, (e _ (by omega) (by omega)).trans h1, (e _ (by omega) (by omega)).trans h2, (e _ (by omega) (by omega)).trans h3, (e _ (by omega) (by omega)).trans h4, (e _ (by omega) (by omega)).trans h5, (e _ (by omega) (by omega)).trans h6, (e _ (by omega) (by omega)).trans h7, (e _ (by omega) (by omega)).trans h8, (e _ (by omega) (by omega)).trans h9, hs⟩
set_option maxRecDepth 100000 in
set_option maxHeartbeats 4000000 in
theorem c_X10_losingWith (G : GL) (ex : Bool) (n : Nat) (σ : Nat → va_E) (z1 : Int32) (z2 : Int32) (z3 : Int32) (g : Nat → Nat) (r : Int32) (x : Int32) (hc0 : σ 0 = o10 G (z1) (z2) (z3)) (hn9 : 279 ≤ n) (hG : x_gm G σ 25 g) (hO : x_oj G σ) : CtX G yX10_losingWith cX10_losingWith 3 (some .int) ⟨7, 2, 12, 112⟩ [.ref (q_h G + 0), .int (r), .int (x)] ex n σ (fun v9 σ2 => ∃ (r1 : Nat), ∃ (x1 : Nat), v9 = some (.int (nI (s_cnt (fun p => s_V (s_rule (s_rset g r1 18 x1) r1) p == 0) 1681))) ∧ (r = nI r1) ∧ (r1 < g 0) ∧ (x = nI x1) ∧ (x1 ≤ 5) ∧ (x_oj G σ2) ∧ (∀ i : Nat, i < 226 ∨ 235 < i → σ2 i = σ i)) (fun E σ2 => σ2 = σ ∧ ((E = "java/lang/IndexOutOfBoundsException" ∧ (∀ j : Nat, j < g 0 → r = nI j → False)) ∨ (E = "java/lang/IllegalArgumentException" ∧ (∃ r1 : Nat, r = nI r1 ∧ r1 < g 0 ∧ (∀ j : Nat, 0 ≤ j → j ≤ 5 → x = nI j → False))))) := by
  refine q_enter [some (.ref (q_h G + 0)), some (.int (r)), some (.int (x))] (by decide) (Nat.le_of_ble_eq_true rfl) rfl ?_
  intro K hg
  obtain ⟨Q, hQ⟩ : ∃ Q, Q = q_Q G K ex n 2 12 (fun v9 n' σ' => n' = n ∧ (fun v9 σ2 => ∃ (r1 : Nat), ∃ (x1 : Nat), v9 = some (.int (nI (s_cnt (fun p => s_V (s_rule (s_rset g r1 18 x1) r1) p == 0) 1681))) ∧ (r = nI r1) ∧ (r1 < g 0) ∧ (x = nI x1) ∧ (x1 ≤ 5) ∧ (x_oj G σ2) ∧ (∀ i : Nat, i < 226 ∨ 235 < i → σ2 i = σ i)) v9 σ') (fun E σ2 => σ2 = σ ∧ ((E = "java/lang/IndexOutOfBoundsException" ∧ (∀ j : Nat, j < g 0 → r = nI j → False)) ∨ (E = "java/lang/IllegalArgumentException" ∧ (∃ r1 : Nat, r = nI r1 ∧ r1 < g 0 ∧ (∀ j : Nat, 0 ≤ j → j ≤ 5 → x = nI j → False))))) := ⟨_, rfl⟩
  refine (?_ : AJ G K (q_Q G K ex n 2 12 _ _) 0 0 ex n 0 _ _ σ)
  rw [← hQ]
  obtain ⟨kd, fi, se, tf, ts, ac, tu, nm, on, sl, mo, nb, bm, ⟨hg_1, hg_2, hg_3, hg_4, hg_5, hg_6, hg_7, hg_8, hg_9, hg_10, hg_11, hg_12⟩, hgr⟩ := hG
  obtain ⟨hgw, hxp, htp, hrl, hac, htu⟩ := hgr
  have hrs := x_rl_rs hrl
  have hg0 := hgw.1
  have hg1 := hgw.2.1
  have hg2 := hgw.2.2.1
  have hg3 := hgw.2.2.2.1
  have hg6 := hgw.2.2.2.2.1
  have hnp : s_np g = g 1 + g 2 := rfl
  have hc_13 : ∀ j9 : Nat, j9 < g 0 → σ (25 + 10 + 2 * j9) = o7 G (25 + 10 + 2 * j9) (lN (nm j9)) (lN (on j9)) (nI (s_rule g j9 18)) (nI (s_rule g j9 19)) (nI (s_rule g j9 20)) := fun j9 hj => (hg_11 j9 (by omega)).trans (by rw [(hrl j9 hj).2.2.2.1, (hrl j9 hj).2.2.2.2.1, (hrl j9 hj).2.2.2.2.2.1])
  have hc_14 : ∀ j9 : Nat, j9 < g 0 → σ (25 + 10 + 2 * j9 + 1) = q_an G 5 (bm j9) := fun j9 hj => hg_12 j9 (by omega)
  obtain ⟨nmO, onO, slO, moO, nbO, bmO, flP, n0P, gvP, gsP, lmP, vsP, skfP, slfP, vaP, spP, rfP, nmP, onP, slP, moP, nbP, bmP, ho_15, ho_16, ho_17, ho_18, ho_19, ho_20, ho_21, ho_22, ho_23, ho_24, hsO⟩ := hO
  refine A_aload_n hg dX10_losingWith_0 rfl rfl ?_
  refine A_iload_n hg dX10_losingWith_1 rfl rfl ?_
  refine A_pVX (kc2 := 1) (ks2 := 6) (As := [.int (r)]) (rest := []) hg lk_RX10_195 in_X10_needRule se_X10_needRule rfl dX10_losingWith_2 ⟨by decide, by decide⟩ rfl rfl ⟨by decide, by decide⟩ hc0 (by omega) rfl rfl (Nat.le_of_ble_eq_true rfl) (c_X10_needRule G ex n σ z1 z2 z3 (g 0) (g 3) (g 4) (g 5) (g 6) r hc0 hg_1 (by omega) (by omega)) (fun E σx hx => by rw [hQ]; exact A_out hg (by decide) (by decide) (by obtain ⟨hs, hE, hx⟩ := hx; exact ⟨hs, Or.inl (⟨hE, hx⟩)⟩)) ?_
  rintro _ ⟨r1, rfl, hre, hrl9⟩
  refine (?_ : AJ G K Q 1 6 ex n 5 [some (.ref (q_h G + 0)), some (.int (r)), some (.int (x))] [] σ)
  subst hre
  have hu := hgw.2.2.2.2.2.1 r1 hrl9
  have hrr := hrl r1 hrl9
  have hon := hrr.2.1
  refine A_iload_n hg dX10_losingWith_5 rfl rfl ?_
  refine A_iconst (v := (nI (0))) hg dX10_losingWith_6 (by decide) ?_
  refine A_iconst (v := (nI (5))) hg dX10_losingWith_7 (by decide) ?_
  refine A_pSX (kc2 := 2) (ks2 := 12) (As := [.int (x), .int (nI (0)), .int (nI (5))]) (rest := []) hg lk_RX10_179 st_X10_needRange dX10_losingWith_8 ⟨by decide, by decide⟩ rfl rfl ⟨by decide, by decide⟩ rfl rfl (Nat.le_of_ble_eq_true rfl) (c_X10_needRange G ex n σ x 0 5 (by omega) (by omega)) (fun E σx hx => by rw [hQ]; exact A_out hg (by decide) (by decide) (by obtain ⟨hs, hE, hx⟩ := hx; exact ⟨hs, Or.inr ((⟨hE, r1, rfl, hrl9, hx⟩))⟩)) ?_
  rintro _ ⟨x1, rfl, hxe, hx0, hxl9⟩
  refine (?_ : AJ G K Q 2 12 ex n 11 [some (.ref (q_h G + 0)), some (.int (nI (r1))), some (.int (x))] [] σ)
  subst hxe
  refine A_aload_n hg dX10_losingWith_11 rfl rfl ?_
  refine A_getf (v := .ref (q_h G + 226)) hg fl_RX10_69 dX10_losingWith_12 hc0 (by omega) rfl ?_
  refine A_aload_n hg dX10_losingWith_15 rfl rfl ?_
  refine A_getf (v := .ref (q_h G + 25)) hg fl_RX10_40 dX10_losingWith_16 hc0 (by omega) rfl ?_
  refine A_iload_n hg dX10_losingWith_19 rfl rfl ?_
  refine A_eV (kc2 := 2) (ks2 := 12) (As := [.int (nI (r1))]) (rest := [.ref (q_h G + 226)]) hg lk_RX10_198 in_X0_ruleAt se_X0_ruleAt rfl dX10_losingWith_20 ⟨by decide, by decide⟩ rfl rfl ⟨by decide, by decide⟩ hg_1 (by omega) rfl rfl (Nat.le_of_ble_eq_true rfl) (c_X0_ruleAt G ex n σ 25 (g 0) (g 3) (g 4) (g 5) (g 6) r1 hg_1 hg_2 (by omega) (by omega)) ?_
  refine A_vV (kc2 := 2) (ks2 := 12) (As := [.ref (q_h G + (25 + 10 + 2 * r1))]) (rest := []) hg lk_RX10_360 in_X7_copyFrom se_X7_copyFrom rfl dX10_losingWith_23 ⟨by decide, by decide⟩ rfl rfl ⟨by decide, by decide⟩ ho_15 (by omega) rfl rfl (Nat.le_of_ble_eq_true rfl) (c_X7_copyFrom G ex n σ 226 nmO onO slO moO nbO bmO (25 + 10 + 2 * r1) (nm r1) (on r1) (s_rule g r1 18) (s_rule g r1 19) (s_rule g r1 20) (bm r1) ho_15 ho_16 (hc_13 r1 (by omega)) (hc_14 r1 (by omega)) (by omega) (by omega) (by omega)) ?_
  rintro σ_28 ⟨hc_25, hc_26, hf_27⟩
  have hc_29 : σ_28 0 = o10 G (z1) (z2) (z3) := (hf_27 _ (by omega)).trans hc0
  have hc_30 : σ_28 25 = o0 G (25) (nI (g 0)) (nI (g 3)) (nI (g 4)) (nI (g 5)) (nI (g 6)) := (hf_27 _ (by omega)).trans hg_1
  have hc_31 : σ_28 26 = q_rn G 3 4 (fun j => some (25 + 10 + 2 * j)) := (hf_27 _ (by omega)).trans hg_2
  have hc_32 : σ_28 27 = o6 G (27) (nI (g 1)) (nI (g 2)) := (hf_27 _ (by omega)).trans hg_3
  have hc_33 : σ_28 (27 + 1) = q_an G 8 kd := (hf_27 _ (by omega)).trans hg_4
  have hc_34 : σ_28 (27 + 2) = q_an G 8 fi := (hf_27 _ (by omega)).trans hg_5
  have hc_35 : σ_28 (27 + 3) = q_an G 8 se := (hf_27 _ (by omega)).trans hg_6
  have hc_36 : σ_28 (27 + 4) = q_an G 8 tf := (hf_27 _ (by omega)).trans hg_7
  have hc_37 : σ_28 (27 + 5) = q_an G 8 ts := (hf_27 _ (by omega)).trans hg_8
  have hc_38 : σ_28 (25 + 8) = q_an G 10 ac := (hf_27 _ (by omega)).trans hg_9
  have hc_39 : σ_28 (25 + 9) = q_an G 100 tu := (hf_27 _ (by omega)).trans hg_10
  have hc_40 : ∀ j9 : Nat, j9 < g 0 → σ_28 (25 + 10 + 2 * j9) = o7 G (25 + 10 + 2 * j9) (lN (nm j9)) (lN (on j9)) (nI (s_rule g j9 18)) (nI (s_rule g j9 19)) (nI (s_rule g j9 20)) := fun j9 hj0 => (hf_27 _ (by omega)).trans (hc_13 j9 (by omega))
  have hc_41 : ∀ j9 : Nat, j9 < g 0 → σ_28 (25 + 10 + 2 * j9 + 1) = q_an G 5 (bm j9) := fun j9 hj0 => (hf_27 _ (by omega)).trans (hc_14 j9 (by omega))
  have hc_42 : σ_28 228 = o8 G (228) (nI (flP)) (nI (n0P)) (nI (gvP)) (nI (gsP)) (nI (lmP)) (nI (vsP)) := (hf_27 _ (by omega)).trans ho_17
  have hc_43 : σ_28 231 = q_an G 1681 skfP := (hf_27 _ (by omega)).trans ho_18
  have hc_44 : σ_28 232 = q_an G 1681 slfP := (hf_27 _ (by omega)).trans ho_19
  have hc_45 : σ_28 233 = q_an G 1681 vaP := (hf_27 _ (by omega)).trans ho_20
  have hc_46 : σ_28 234 = q_an G 1681 spP := (hf_27 _ (by omega)).trans ho_21
  have hc_47 : σ_28 235 = q_an G 1681 rfP := (hf_27 _ (by omega)).trans ho_22
  have hc_48 : σ_28 229 = o7 G (229) (lN (nmP)) (lN (onP)) (nI (slP)) (nI (moP)) (nI (nbP)) := (hf_27 _ (by omega)).trans ho_23
  have hc_49 : σ_28 230 = q_an G 5 bmP := (hf_27 _ (by omega)).trans ho_24
  refine A_aload_n hg dX10_losingWith_26 rfl rfl ?_
  refine A_getf (v := .ref (q_h G + 226)) hg fl_RX10_69 dX10_losingWith_27 hc_29 (by omega) rfl ?_
  refine A_iload_n hg dX10_losingWith_30 rfl rfl ?_
  refine A_putf hg fl_RX10_202 dX10_losingWith_31 hc_25 (by omega) (Nat.le_of_ble_eq_true rfl) rfl rfl rfl (fun σ_50 hc_51 hf_52 => ?_)
  have hc_51 : σ_50 226 = o7 G (226) (lN (nm r1)) (lN (on r1)) (nI (x1)) (nI (s_rule g r1 19)) (nI (s_rule g r1 20)) := hc_51
  have hc_53 : σ_50 0 = o10 G (z1) (z2) (z3) := (hf_52 _ (by omega)).trans hc_29
  have hc_54 : σ_50 25 = o0 G (25) (nI (g 0)) (nI (g 3)) (nI (g 4)) (nI (g 5)) (nI (g 6)) := (hf_52 _ (by omega)).trans hc_30
  have hc_55 : σ_50 26 = q_rn G 3 4 (fun j => some (25 + 10 + 2 * j)) := (hf_52 _ (by omega)).trans hc_31
  have hc_56 : σ_50 27 = o6 G (27) (nI (g 1)) (nI (g 2)) := (hf_52 _ (by omega)).trans hc_32
  have hc_57 : σ_50 (27 + 1) = q_an G 8 kd := (hf_52 _ (by omega)).trans hc_33
  have hc_58 : σ_50 (27 + 2) = q_an G 8 fi := (hf_52 _ (by omega)).trans hc_34
  have hc_59 : σ_50 (27 + 3) = q_an G 8 se := (hf_52 _ (by omega)).trans hc_35
  have hc_60 : σ_50 (27 + 4) = q_an G 8 tf := (hf_52 _ (by omega)).trans hc_36
  have hc_61 : σ_50 (27 + 5) = q_an G 8 ts := (hf_52 _ (by omega)).trans hc_37
  have hc_62 : σ_50 (25 + 8) = q_an G 10 ac := (hf_52 _ (by omega)).trans hc_38
  have hc_63 : σ_50 (25 + 9) = q_an G 100 tu := (hf_52 _ (by omega)).trans hc_39
  have hc_64 : ∀ j9 : Nat, j9 < g 0 → σ_50 (25 + 10 + 2 * j9) = o7 G (25 + 10 + 2 * j9) (lN (nm j9)) (lN (on j9)) (nI (s_rule g j9 18)) (nI (s_rule g j9 19)) (nI (s_rule g j9 20)) := fun j9 hj0 => (hf_52 _ (by omega)).trans (hc_40 j9 (by omega))
  have hc_65 : ∀ j9 : Nat, j9 < g 0 → σ_50 (25 + 10 + 2 * j9 + 1) = q_an G 5 (bm j9) := fun j9 hj0 => (hf_52 _ (by omega)).trans (hc_41 j9 (by omega))
  have hc_66 : σ_50 228 = o8 G (228) (nI (flP)) (nI (n0P)) (nI (gvP)) (nI (gsP)) (nI (lmP)) (nI (vsP)) := (hf_52 _ (by omega)).trans hc_42
  have hc_67 : σ_50 231 = q_an G 1681 skfP := (hf_52 _ (by omega)).trans hc_43
  have hc_68 : σ_50 232 = q_an G 1681 slfP := (hf_52 _ (by omega)).trans hc_44
  have hc_69 : σ_50 233 = q_an G 1681 vaP := (hf_52 _ (by omega)).trans hc_45
  have hc_70 : σ_50 234 = q_an G 1681 spP := (hf_52 _ (by omega)).trans hc_46
  have hc_71 : σ_50 235 = q_an G 1681 rfP := (hf_52 _ (by omega)).trans hc_47
  have hc_72 : σ_50 229 = o7 G (229) (lN (nmP)) (lN (onP)) (nI (slP)) (nI (moP)) (nI (nbP)) := (hf_52 _ (by omega)).trans hc_48
  have hc_73 : σ_50 230 = q_an G 5 bmP := (hf_52 _ (by omega)).trans hc_49
  have hc_74 : σ_50 (226 + 1) = q_an G 5 (bm r1) := (hf_52 _ (by omega)).trans hc_26
  have hou := s_rwf_18 (r := r1) (v := x1) hu hxl9
  have hon9 : x_on (s_rule (s_rset g r1 18 x1) r1) (on r1) := x_on_congr (fun j h1 h2 => by rw [s_rset_at, if_neg (by omega)]) hu.2.1 hon
  have hbm9 : x_bm (s_rule (s_rset g r1 18 x1) r1) (bm r1) := fun i hi => by
    rw [s_rset_at, if_neg (by omega)] at hi
    rw [s_rset_at, s_rset_at, if_neg (by omega), if_neg (by omega)]
    exact hrr.2.2.2.2.2.2 i hi
  have hc_75 : σ_50 226 = o7 G (226) (lN (nm r1)) (lN (on r1)) (nI (s_rule (s_rset g r1 18 x1) r1 18)) (nI (s_rule (s_rset g r1 18 x1) r1 19)) (nI (s_rule (s_rset g r1 18 x1) r1 20)) := hc_51.trans (by rw [s_rset_at, s_rset_at, s_rset_at]; rfl)
  refine A_aload_n hg dX10_losingWith_34 rfl rfl ?_
  refine A_getf (v := .ref (q_h G + 228)) hg fl_RX10_76 dX10_losingWith_35 hc_53 (by omega) rfl ?_
  refine A_aload_n hg dX10_losingWith_38 rfl rfl ?_
  refine A_getf (v := .ref (q_h G + 226)) hg fl_RX10_69 dX10_losingWith_39 hc_53 (by omega) rfl ?_
  refine A_vV (kc2 := 2) (ks2 := 12) (As := [.ref (q_h G + 226)]) (rest := []) hg lk_RX10_371 in_X8_fitLosing se_X8_fitLosing rfl dX10_losingWith_42 ⟨by decide, by decide⟩ rfl rfl ⟨by decide, by decide⟩ hc_66 (by omega) rfl rfl (Nat.le_of_ble_eq_true rfl) (c_X8_fitLosing G ex n σ_50 228 flP n0P gvP gsP lmP vsP 226 (s_rule (s_rset g r1 18 x1) r1) (nm r1) (on r1) (bm r1) nmP onP slP moP nbP bmP skfP slfP vaP spP rfP hc_66 hc_67 hc_68 hc_69 hc_70 hc_71 hc_72 hc_73 hc_75 hc_74 (by omega) (by omega) (by omega) (x_w_of hou) hon9 hbm9 hsO) ?_
  rintro σ_90 ⟨kf_76, lf_77, va3_78, gv3_79, gs3_80, vs3_81, hlw_82, hc_83, hc_84, hc_85, hc_86, hc_87, hc_88, hf_89⟩
  have hc_91 : σ_90 0 = o10 G (z1) (z2) (z3) := (hf_89 _ (by omega)).trans hc_53
  have hc_92 : σ_90 25 = o0 G (25) (nI (g 0)) (nI (g 3)) (nI (g 4)) (nI (g 5)) (nI (g 6)) := (hf_89 _ (by omega)).trans hc_54
  have hc_93 : σ_90 26 = q_rn G 3 4 (fun j => some (25 + 10 + 2 * j)) := (hf_89 _ (by omega)).trans hc_55
  have hc_94 : σ_90 27 = o6 G (27) (nI (g 1)) (nI (g 2)) := (hf_89 _ (by omega)).trans hc_56
  have hc_95 : σ_90 (27 + 1) = q_an G 8 kd := (hf_89 _ (by omega)).trans hc_57
  have hc_96 : σ_90 (27 + 2) = q_an G 8 fi := (hf_89 _ (by omega)).trans hc_58
  have hc_97 : σ_90 (27 + 3) = q_an G 8 se := (hf_89 _ (by omega)).trans hc_59
  have hc_98 : σ_90 (27 + 4) = q_an G 8 tf := (hf_89 _ (by omega)).trans hc_60
  have hc_99 : σ_90 (27 + 5) = q_an G 8 ts := (hf_89 _ (by omega)).trans hc_61
  have hc_100 : σ_90 (25 + 8) = q_an G 10 ac := (hf_89 _ (by omega)).trans hc_62
  have hc_101 : σ_90 (25 + 9) = q_an G 100 tu := (hf_89 _ (by omega)).trans hc_63
  have hc_102 : ∀ j9 : Nat, j9 < g 0 → σ_90 (25 + 10 + 2 * j9) = o7 G (25 + 10 + 2 * j9) (lN (nm j9)) (lN (on j9)) (nI (s_rule g j9 18)) (nI (s_rule g j9 19)) (nI (s_rule g j9 20)) := fun j9 hj0 => (hf_89 _ (by omega)).trans (hc_64 j9 (by omega))
  have hc_103 : ∀ j9 : Nat, j9 < g 0 → σ_90 (25 + 10 + 2 * j9 + 1) = q_an G 5 (bm j9) := fun j9 hj0 => (hf_89 _ (by omega)).trans (hc_65 j9 (by omega))
  have hc_104 : σ_90 234 = q_an G 1681 spP := (hf_89 _ (by omega)).trans hc_70
  have hc_105 : σ_90 235 = q_an G 1681 rfP := (hf_89 _ (by omega)).trans hc_71
  have hc_106 : σ_90 (226 + 1) = q_an G 5 (bm r1) := (hf_89 _ (by omega)).trans hc_74
  have hc_107 : σ_90 226 = o7 G (226) (lN (nm r1)) (lN (on r1)) (nI (s_rule (s_rset g r1 18 x1) r1 18)) (nI (s_rule (s_rset g r1 18 x1) r1 19)) (nI (s_rule (s_rset g r1 18 x1) r1 20)) := (hf_89 _ (by omega)).trans hc_75
  refine A_aload_n hg dX10_losingWith_45 rfl rfl ?_
  refine A_getf (v := .ref (q_h G + 228)) hg fl_RX10_76 dX10_losingWith_46 hc_91 (by omega) rfl ?_
  refine A_getf (v := .int (nI (s_cnt (fun q => s_val (s_A (s_rule (s_rset g r1 18 x1) r1)) q == 0) 1681))) hg fl_RX10_232 dX10_losingWith_49 hc_83 (by omega) rfl ?_
  rw [hQ]
  exact A_ireturn hg (by decide) (by decide) rfl dX10_losingWith_52 ⟨rfl, ⟨r1, x1, (by rfl), rfl, hrl9, rfl, hxl9, ⟨_, _, _, _, _, _, _, _, _, _, _, _, _, _, _, _, _, _, _, _, _, _, _, hc_107, hc_106, hc_83, hc_84, hc_85, hc_86, hc_104, hc_105, hc_87, hc_88, hsO⟩, (fun i hi => ((hf_89 i (by omega)).trans ((hf_52 i (by omega)).trans (hf_27 i (by omega)))))⟩⟩
theorem x_lw_b {A : Nat → Bool} (h0 : A 0 = false) {va : Nat → Nat} (h : x_lw A 1681 va) {j : Nat} (hj : j < 1681) : (va j == 0) = (s_val A j == 0) := by
  have e := x_lw_val h0 h (show j ≤ 1681 by omega) hj
  rw [Bool.eq_iff_iff, beq_iff_eq, beq_iff_eq]; exact e
set_option maxRecDepth 100000 in
set_option maxHeartbeats 4000000 in
theorem c_X10_changedBy (G : GL) (ex : Bool) (n : Nat) (σ : Nat → va_E) (z1 : Int32) (z2 : Int32) (z3 : Int32) (g : Nat → Nat) (r : Int32) (k : Int32) (l : Int32) (hc0 : σ 0 = o10 G (z1) (z2) (z3)) (hn9 : 279 ≤ n) (hG : x_gm G σ 25 g) (hM : x_mx G σ) (hO : x_oj G σ) (hbd : ∀ r : Nat, r < g 0 → x_bdd (s_rule g r)) : CtX G yX10_changedBy cX10_changedBy 4 (some .int) ⟨9, 4, 24, 154⟩ [.ref (q_h G + 0), .int (r), .int (k), .int (l)] ex n σ (fun v9 σ2 => ∃ (r1 : Nat), ∃ (a1 : Nat), ∃ (b1 : Nat), v9 = some (.int (nI (s_chc (s_rule g r1) a1 b1 1681))) ∧ (r = nI r1) ∧ (r1 < g 0) ∧ (k = nI a1) ∧ (l = nI b1) ∧ (a1 ≤ 40) ∧ (b1 ≤ 40) ∧ (0 < a1 + b1) ∧ (x_mx G σ2) ∧ (x_oj G σ2) ∧ (∀ i : Nat, i < 43 ∨ (77 < i ∧ i < 226) ∨ 235 < i → σ2 i = σ i)) (fun E σ2 => σ2 = σ ∧ ((E = "java/lang/IndexOutOfBoundsException" ∧ (∀ j : Nat, j < g 0 → r = nI j → False)) ∨ (E = "java/lang/IllegalArgumentException" ∧ (∃ r1 : Nat, r = nI r1 ∧ r1 < g 0 ∧ ∀ a b : Nat, a ≤ 40 → b ≤ 40 → 0 < a + b → k = nI a → l = nI b → False)))) := by
  refine q_enter [some (.ref (q_h G + 0)), some (.int (r)), some (.int (k)), some (.int (l))] (by decide) (Nat.le_of_ble_eq_true rfl) rfl ?_
  intro K hg
  obtain ⟨Q, hQ⟩ : ∃ Q, Q = q_Q G K ex n 4 24 (fun v9 n' σ' => n' = n ∧ (fun v9 σ2 => ∃ (r1 : Nat), ∃ (a1 : Nat), ∃ (b1 : Nat), v9 = some (.int (nI (s_chc (s_rule g r1) a1 b1 1681))) ∧ (r = nI r1) ∧ (r1 < g 0) ∧ (k = nI a1) ∧ (l = nI b1) ∧ (a1 ≤ 40) ∧ (b1 ≤ 40) ∧ (0 < a1 + b1) ∧ (x_mx G σ2) ∧ (x_oj G σ2) ∧ (∀ i : Nat, i < 43 ∨ (77 < i ∧ i < 226) ∨ 235 < i → σ2 i = σ i)) v9 σ') (fun E σ2 => σ2 = σ ∧ ((E = "java/lang/IndexOutOfBoundsException" ∧ (∀ j : Nat, j < g 0 → r = nI j → False)) ∨ (E = "java/lang/IllegalArgumentException" ∧ (∃ r1 : Nat, r = nI r1 ∧ r1 < g 0 ∧ ∀ a b : Nat, a ≤ 40 → b ≤ 40 → 0 < a + b → k = nI a → l = nI b → False)))) := ⟨_, rfl⟩
  refine (?_ : AJ G K (q_Q G K ex n 4 24 _ _) 0 0 ex n 0 _ _ σ)
  rw [← hQ]
  obtain ⟨kd, fi, se, tf, ts, ac, tu, nm, on, sl, mo, nb, bm, ⟨hg_1, hg_2, hg_3, hg_4, hg_5, hg_6, hg_7, hg_8, hg_9, hg_10, hg_11, hg_12⟩, hgr⟩ := hG
  obtain ⟨hgw, hxp, htp, hrl, hac, htu⟩ := hgr
  have hrs := x_rl_rs hrl
  have hg0 := hgw.1
  have hg1 := hgw.2.1
  have hg2 := hgw.2.2.1
  have hg3 := hgw.2.2.2.1
  have hg6 := hgw.2.2.2.2.1
  have hnp : s_np g = g 1 + g 2 := rfl
  have hc_13 : ∀ j9 : Nat, j9 < g 0 → σ (25 + 10 + 2 * j9) = o7 G (25 + 10 + 2 * j9) (lN (nm j9)) (lN (on j9)) (nI (s_rule g j9 18)) (nI (s_rule g j9 19)) (nI (s_rule g j9 20)) := fun j9 hj => (hg_11 j9 (by omega)).trans (by rw [(hrl j9 hj).2.2.2.1, (hrl j9 hj).2.2.2.2.1, (hrl j9 hj).2.2.2.2.2.1])
  have hc_14 : ∀ j9 : Nat, j9 < g 0 → σ (25 + 10 + 2 * j9 + 1) = q_an G 5 (bm j9) := fun j9 hj => hg_12 j9 (by omega)
  obtain ⟨h0, h1, h2, h3, h4, flA, n0A, gvA, gsA, lmA, vsA, nmA, onA, slA, moA, nbA, bmA, skA, s2A, vaA, spA, rfA, hm_15, hm_16, hm_17, hm_18, hm_19, hm_20, hm_21, hm_22, hm_23, hm_24, hm_25, hTI⟩ := hM
  obtain ⟨nmO, onO, slO, moO, nbO, bmO, flP, n0P, gvP, gsP, lmP, vsP, skfP, slfP, vaP, spP, rfP, nmP, onP, slP, moP, nbP, bmP, ho_26, ho_27, ho_28, ho_29, ho_30, ho_31, ho_32, ho_33, ho_34, ho_35, hsO⟩ := hO
  refine A_aload_n hg dX10_changedBy_0 rfl rfl ?_
  refine A_iload_n hg dX10_changedBy_1 rfl rfl ?_
  refine A_pVX (kc2 := 1) (ks2 := 6) (As := [.int (r)]) (rest := []) hg lk_RX10_195 in_X10_needRule se_X10_needRule rfl dX10_changedBy_2 ⟨by decide, by decide⟩ rfl rfl ⟨by decide, by decide⟩ hc0 (by omega) rfl rfl (Nat.le_of_ble_eq_true rfl) (c_X10_needRule G ex n σ z1 z2 z3 (g 0) (g 3) (g 4) (g 5) (g 6) r hc0 hg_1 (by omega) (by omega)) (fun E σx hx => by rw [hQ]; exact A_out hg (by decide) (by decide) (by obtain ⟨hs, hE, hx⟩ := hx; exact ⟨hs, Or.inl (⟨hE, hx⟩)⟩)) ?_
  rintro _ ⟨r1, rfl, hre, hrl9⟩
  refine (?_ : AJ G K Q 1 6 ex n 5 [some (.ref (q_h G + 0)), some (.int (r)), some (.int (k)), some (.int (l))] [] σ)
  subst hre
  have hu := hgw.2.2.2.2.2.1 r1 hrl9
  have hrr := hrl r1 hrl9
  have hon := hrr.2.1
  refine A_iload_n hg dX10_changedBy_5 rfl rfl ?_
  refine A_iload_n hg dX10_changedBy_6 rfl rfl ?_
  refine A_pSX (kc2 := 4) (ks2 := 24) (As := [.int (k), .int (l)]) (rest := []) hg lk_RX10_357 st_X10_needMove dX10_changedBy_7 ⟨by decide, by decide⟩ rfl rfl ⟨by decide, by decide⟩ rfl rfl (Nat.le_of_ble_eq_true rfl) (c_X10_needMove G ex n σ k l) (fun E σx hx => by rw [hQ]; exact A_out hg (by decide) (by decide) (by obtain ⟨hs, hE, hx⟩ := hx; exact ⟨hs, Or.inr ((⟨hE, r1, rfl, hrl9, hx⟩))⟩)) ?_
  rintro _ ⟨a1, b1, rfl, hke, hle, ha9, hb9, hab9⟩
  refine (?_ : AJ G K Q 4 24 ex n 10 [some (.ref (q_h G + 0)), some (.int (nI (r1))), some (.int (k)), some (.int (l))] [] σ)
  subst hke
  subst hle
  refine A_aload_n hg dX10_changedBy_10 rfl rfl ?_
  refine A_getf (v := .ref (q_h G + 226)) hg fl_RX10_69 dX10_changedBy_11 hc0 (by omega) rfl ?_
  refine A_aload_n hg dX10_changedBy_14 rfl rfl ?_
  refine A_getf (v := .ref (q_h G + 25)) hg fl_RX10_40 dX10_changedBy_15 hc0 (by omega) rfl ?_
  refine A_iload_n hg dX10_changedBy_18 rfl rfl ?_
  refine A_eV (kc2 := 4) (ks2 := 24) (As := [.int (nI (r1))]) (rest := [.ref (q_h G + 226)]) hg lk_RX10_198 in_X0_ruleAt se_X0_ruleAt rfl dX10_changedBy_19 ⟨by decide, by decide⟩ rfl rfl ⟨by decide, by decide⟩ hg_1 (by omega) rfl rfl (Nat.le_of_ble_eq_true rfl) (c_X0_ruleAt G ex n σ 25 (g 0) (g 3) (g 4) (g 5) (g 6) r1 hg_1 hg_2 (by omega) (by omega)) ?_
  refine A_vV (kc2 := 4) (ks2 := 24) (As := [.ref (q_h G + (25 + 10 + 2 * r1))]) (rest := []) hg lk_RX10_360 in_X7_copyFrom se_X7_copyFrom rfl dX10_changedBy_22 ⟨by decide, by decide⟩ rfl rfl ⟨by decide, by decide⟩ ho_26 (by omega) rfl rfl (Nat.le_of_ble_eq_true rfl) (c_X7_copyFrom G ex n σ 226 nmO onO slO moO nbO bmO (25 + 10 + 2 * r1) (nm r1) (on r1) (s_rule g r1 18) (s_rule g r1 19) (s_rule g r1 20) (bm r1) ho_26 ho_27 (hc_13 r1 (by omega)) (hc_14 r1 (by omega)) (by omega) (by omega) (by omega)) ?_
  rintro σ_39 ⟨hc_36, hc_37, hf_38⟩
  have hc_40 : σ_39 0 = o10 G (z1) (z2) (z3) := (hf_38 _ (by omega)).trans hc0
  have hc_41 : σ_39 25 = o0 G (25) (nI (g 0)) (nI (g 3)) (nI (g 4)) (nI (g 5)) (nI (g 6)) := (hf_38 _ (by omega)).trans hg_1
  have hc_42 : σ_39 26 = q_rn G 3 4 (fun j => some (25 + 10 + 2 * j)) := (hf_38 _ (by omega)).trans hg_2
  have hc_43 : σ_39 27 = o6 G (27) (nI (g 1)) (nI (g 2)) := (hf_38 _ (by omega)).trans hg_3
  have hc_44 : σ_39 (27 + 1) = q_an G 8 kd := (hf_38 _ (by omega)).trans hg_4
  have hc_45 : σ_39 (27 + 2) = q_an G 8 fi := (hf_38 _ (by omega)).trans hg_5
  have hc_46 : σ_39 (27 + 3) = q_an G 8 se := (hf_38 _ (by omega)).trans hg_6
  have hc_47 : σ_39 (27 + 4) = q_an G 8 tf := (hf_38 _ (by omega)).trans hg_7
  have hc_48 : σ_39 (27 + 5) = q_an G 8 ts := (hf_38 _ (by omega)).trans hg_8
  have hc_49 : σ_39 (25 + 8) = q_an G 10 ac := (hf_38 _ (by omega)).trans hg_9
  have hc_50 : σ_39 (25 + 9) = q_an G 100 tu := (hf_38 _ (by omega)).trans hg_10
  have hc_51 : ∀ j9 : Nat, j9 < g 0 → σ_39 (25 + 10 + 2 * j9) = o7 G (25 + 10 + 2 * j9) (lN (nm j9)) (lN (on j9)) (nI (s_rule g j9 18)) (nI (s_rule g j9 19)) (nI (s_rule g j9 20)) := fun j9 hj0 => (hf_38 _ (by omega)).trans (hc_13 j9 (by omega))
  have hc_52 : ∀ j9 : Nat, j9 < g 0 → σ_39 (25 + 10 + 2 * j9 + 1) = q_an G 5 (bm j9) := fun j9 hj0 => (hf_38 _ (by omega)).trans (hc_14 j9 (by omega))
  have hc_53 : σ_39 43 = o4 G (43)  := (hf_38 _ (by omega)).trans hm_15
  have hc_54 : σ_39 44 = q_rn G 4 4 (fun j => some (46 + 8 * j)) := (hf_38 _ (by omega)).trans hm_16
  have hc_55 : σ_39 45 = o1 G (h0) (h1) (h2) (h3) (h4) := (hf_38 _ (by omega)).trans hm_17
  have hc_56 : ∀ j9 : Nat, j9 < 4 → σ_39 (46 + 8 * j9) = o8 G (46 + 8 * j9) (nI (flA j9)) (nI (n0A j9)) (nI (gvA j9)) (nI (gsA j9)) (nI (lmA j9)) (nI (vsA j9)) := fun j9 hj0 => (hf_38 _ (by omega)).trans (hm_18 j9 (by omega))
  have hc_57 : ∀ j9 : Nat, j9 < 4 → σ_39 (46 + 8 * j9 + 1) = o7 G (46 + 8 * j9 + 1) (lN (nmA j9)) (lN (onA j9)) (nI (slA j9)) (nI (moA j9)) (nI (nbA j9)) := fun j9 hj0 => (hf_38 _ (by omega)).trans (hm_19 j9 (by omega))
  have hc_58 : ∀ j9 : Nat, j9 < 4 → σ_39 (46 + 8 * j9 + 2) = q_an G 5 (bmA j9) := fun j9 hj0 => (hf_38 _ (by omega)).trans (hm_20 j9 (by omega))
  have hc_59 : ∀ j9 : Nat, j9 < 4 → σ_39 (46 + 8 * j9 + 3) = q_an G 1681 (skA j9) := fun j9 hj0 => (hf_38 _ (by omega)).trans (hm_21 j9 (by omega))
  have hc_60 : ∀ j9 : Nat, j9 < 4 → σ_39 (46 + 8 * j9 + 4) = q_an G 1681 (s2A j9) := fun j9 hj0 => (hf_38 _ (by omega)).trans (hm_22 j9 (by omega))
  have hc_61 : ∀ j9 : Nat, j9 < 4 → σ_39 (46 + 8 * j9 + 5) = q_an G 1681 (vaA j9) := fun j9 hj0 => (hf_38 _ (by omega)).trans (hm_23 j9 (by omega))
  have hc_62 : ∀ j9 : Nat, j9 < 4 → σ_39 (46 + 8 * j9 + 6) = q_an G 1681 (spA j9) := fun j9 hj0 => (hf_38 _ (by omega)).trans (hm_24 j9 (by omega))
  have hc_63 : ∀ j9 : Nat, j9 < 4 → σ_39 (46 + 8 * j9 + 7) = q_an G 1681 (rfA j9) := fun j9 hj0 => (hf_38 _ (by omega)).trans (hm_25 j9 (by omega))
  have hc_64 : σ_39 228 = o8 G (228) (nI (flP)) (nI (n0P)) (nI (gvP)) (nI (gsP)) (nI (lmP)) (nI (vsP)) := (hf_38 _ (by omega)).trans ho_28
  have hc_65 : σ_39 231 = q_an G 1681 skfP := (hf_38 _ (by omega)).trans ho_29
  have hc_66 : σ_39 232 = q_an G 1681 slfP := (hf_38 _ (by omega)).trans ho_30
  have hc_67 : σ_39 233 = q_an G 1681 vaP := (hf_38 _ (by omega)).trans ho_31
  have hc_68 : σ_39 234 = q_an G 1681 spP := (hf_38 _ (by omega)).trans ho_32
  have hc_69 : σ_39 235 = q_an G 1681 rfP := (hf_38 _ (by omega)).trans ho_33
  have hc_70 : σ_39 229 = o7 G (229) (lN (nmP)) (lN (onP)) (nI (slP)) (nI (moP)) (nI (nbP)) := (hf_38 _ (by omega)).trans ho_34
  have hc_71 : σ_39 230 = q_an G 5 bmP := (hf_38 _ (by omega)).trans ho_35
  refine A_aload_n hg dX10_changedBy_25 rfl rfl ?_
  refine A_getf (v := .ref (q_h G + 226)) hg fl_RX10_69 dX10_changedBy_26 hc_40 (by omega) rfl ?_
  refine A_iload_n hg dX10_changedBy_29 rfl rfl ?_
  refine A_iload_n hg dX10_changedBy_30 rfl rfl ?_
  refine A_aload_n hg dX10_changedBy_31 rfl rfl ?_
  refine A_getf (v := .ref (q_h G + 226)) hg fl_RX10_69 dX10_changedBy_32 hc_40 (by omega) rfl ?_
  refine A_iload_n hg dX10_changedBy_35 rfl rfl ?_
  refine A_iload_n hg dX10_changedBy_36 rfl rfl ?_
  refine A_eV (kc2 := 4) (ks2 := 24) (As := [.int (nI (a1)), .int (nI (b1))]) (rest := [.int (nI (b1)), .int (nI (a1)), .ref (q_h G + 226)]) hg lk_RX10_363 in_X7_isBarred se_X7_isBarred rfl dX10_changedBy_37 ⟨by decide, by decide⟩ rfl rfl ⟨by decide, by decide⟩ hc_36 (by omega) rfl rfl (Nat.le_of_ble_eq_true rfl) (c_X7_isBarred G ex n σ_39 226 (s_rule g r1) (nm r1) (on r1) (bm r1) a1 b1 hc_36 hc_37 (by omega) (x_w_of hu) hon hrr.2.2.2.2.2.2 (by omega) (by omega)) ?_
  refine A_if_neB (tgt := 47) hg dX10_changedBy_40 (by decide) (fun c40 => ?_) (fun c40 => ?_)
  · skip
    refine A_iconst (v := (nI (0))) hg dX10_changedBy_47 (by decide) ?_
    refine A_hV (kc2 := 4) (ks2 := 24) (As := [.int (nI (a1)), .int (nI (b1)), .int (nI (0))]) (rest := []) hg lk_RX10_367 in_X7_setBarred se_X7_setBarred rfl dX10_changedBy_48 ⟨by decide, by decide⟩ rfl rfl ⟨by decide, by decide⟩ hc_36 (by omega) rfl rfl (Nat.le_of_ble_eq_true rfl) (c_X7_setBarred G ex n σ_39 226 (s_rule g r1) (nm r1) (on r1) (bm r1) a1 b1 false hc_36 hc_37 (by omega) (x_w_of hu) hon hrr.2.2.2.2.2.2 (by omega) (by omega)) ?_
    rintro _ σ_79 (⟨rfl, hh9, he_72⟩ | ⟨rfl, hs19, hb19, h59, hc_73, hc_74, hf_75⟩ | ⟨rfl, hs19, hb19, hc_76, hc_77, hf_78⟩)
    · skip
      rw [he_72]
      refine (?_ : AJ G K Q 4 24 ex n 51 [some (.ref (q_h G + 0)), some (.int (nI (r1))), some (.int (nI (a1))), some (.int (nI (b1)))] [] σ_39)
      exfalso
      rcases hh9 with ⟨h, -⟩ | ⟨-, h⟩
      · cases h
      · rw [c40] at h; cases h
    · skip
      refine (?_ : AJ G K Q 4 24 ex n 51 [some (.ref (q_h G + 0)), some (.int (nI (r1))), some (.int (nI (a1))), some (.int (nI (b1)))] [] σ_79)
      have hc_80 : σ_79 0 = o10 G (z1) (z2) (z3) := (hf_75 _ (by omega)).trans hc_40
      have hc_81 : σ_79 25 = o0 G (25) (nI (g 0)) (nI (g 3)) (nI (g 4)) (nI (g 5)) (nI (g 6)) := (hf_75 _ (by omega)).trans hc_41
      have hc_82 : σ_79 26 = q_rn G 3 4 (fun j => some (25 + 10 + 2 * j)) := (hf_75 _ (by omega)).trans hc_42
      have hc_83 : σ_79 27 = o6 G (27) (nI (g 1)) (nI (g 2)) := (hf_75 _ (by omega)).trans hc_43
      have hc_84 : σ_79 (27 + 1) = q_an G 8 kd := (hf_75 _ (by omega)).trans hc_44
      have hc_85 : σ_79 (27 + 2) = q_an G 8 fi := (hf_75 _ (by omega)).trans hc_45
      have hc_86 : σ_79 (27 + 3) = q_an G 8 se := (hf_75 _ (by omega)).trans hc_46
      have hc_87 : σ_79 (27 + 4) = q_an G 8 tf := (hf_75 _ (by omega)).trans hc_47
      have hc_88 : σ_79 (27 + 5) = q_an G 8 ts := (hf_75 _ (by omega)).trans hc_48
      have hc_89 : σ_79 (25 + 8) = q_an G 10 ac := (hf_75 _ (by omega)).trans hc_49
      have hc_90 : σ_79 (25 + 9) = q_an G 100 tu := (hf_75 _ (by omega)).trans hc_50
      have hc_91 : ∀ j9 : Nat, j9 < g 0 → σ_79 (25 + 10 + 2 * j9) = o7 G (25 + 10 + 2 * j9) (lN (nm j9)) (lN (on j9)) (nI (s_rule g j9 18)) (nI (s_rule g j9 19)) (nI (s_rule g j9 20)) := fun j9 hj0 => (hf_75 _ (by omega)).trans (hc_51 j9 (by omega))
      have hc_92 : ∀ j9 : Nat, j9 < g 0 → σ_79 (25 + 10 + 2 * j9 + 1) = q_an G 5 (bm j9) := fun j9 hj0 => (hf_75 _ (by omega)).trans (hc_52 j9 (by omega))
      have hc_93 : σ_79 43 = o4 G (43)  := (hf_75 _ (by omega)).trans hc_53
      have hc_94 : σ_79 44 = q_rn G 4 4 (fun j => some (46 + 8 * j)) := (hf_75 _ (by omega)).trans hc_54
      have hc_95 : σ_79 45 = o1 G (h0) (h1) (h2) (h3) (h4) := (hf_75 _ (by omega)).trans hc_55
      have hc_96 : ∀ j9 : Nat, j9 < 4 → σ_79 (46 + 8 * j9) = o8 G (46 + 8 * j9) (nI (flA j9)) (nI (n0A j9)) (nI (gvA j9)) (nI (gsA j9)) (nI (lmA j9)) (nI (vsA j9)) := fun j9 hj0 => (hf_75 _ (by omega)).trans (hc_56 j9 (by omega))
      have hc_97 : ∀ j9 : Nat, j9 < 4 → σ_79 (46 + 8 * j9 + 1) = o7 G (46 + 8 * j9 + 1) (lN (nmA j9)) (lN (onA j9)) (nI (slA j9)) (nI (moA j9)) (nI (nbA j9)) := fun j9 hj0 => (hf_75 _ (by omega)).trans (hc_57 j9 (by omega))
      have hc_98 : ∀ j9 : Nat, j9 < 4 → σ_79 (46 + 8 * j9 + 2) = q_an G 5 (bmA j9) := fun j9 hj0 => (hf_75 _ (by omega)).trans (hc_58 j9 (by omega))
      have hc_99 : ∀ j9 : Nat, j9 < 4 → σ_79 (46 + 8 * j9 + 3) = q_an G 1681 (skA j9) := fun j9 hj0 => (hf_75 _ (by omega)).trans (hc_59 j9 (by omega))
      have hc_100 : ∀ j9 : Nat, j9 < 4 → σ_79 (46 + 8 * j9 + 4) = q_an G 1681 (s2A j9) := fun j9 hj0 => (hf_75 _ (by omega)).trans (hc_60 j9 (by omega))
      have hc_101 : ∀ j9 : Nat, j9 < 4 → σ_79 (46 + 8 * j9 + 5) = q_an G 1681 (vaA j9) := fun j9 hj0 => (hf_75 _ (by omega)).trans (hc_61 j9 (by omega))
      have hc_102 : ∀ j9 : Nat, j9 < 4 → σ_79 (46 + 8 * j9 + 6) = q_an G 1681 (spA j9) := fun j9 hj0 => (hf_75 _ (by omega)).trans (hc_62 j9 (by omega))
      have hc_103 : ∀ j9 : Nat, j9 < 4 → σ_79 (46 + 8 * j9 + 7) = q_an G 1681 (rfA j9) := fun j9 hj0 => (hf_75 _ (by omega)).trans (hc_63 j9 (by omega))
      have hc_104 : σ_79 228 = o8 G (228) (nI (flP)) (nI (n0P)) (nI (gvP)) (nI (gsP)) (nI (lmP)) (nI (vsP)) := (hf_75 _ (by omega)).trans hc_64
      have hc_105 : σ_79 231 = q_an G 1681 skfP := (hf_75 _ (by omega)).trans hc_65
      have hc_106 : σ_79 232 = q_an G 1681 slfP := (hf_75 _ (by omega)).trans hc_66
      have hc_107 : σ_79 233 = q_an G 1681 vaP := (hf_75 _ (by omega)).trans hc_67
      have hc_108 : σ_79 234 = q_an G 1681 spP := (hf_75 _ (by omega)).trans hc_68
      have hc_109 : σ_79 235 = q_an G 1681 rfP := (hf_75 _ (by omega)).trans hc_69
      have hc_110 : σ_79 229 = o7 G (229) (lN (nmP)) (lN (onP)) (nI (slP)) (nI (moP)) (nI (nbP)) := (hf_75 _ (by omega)).trans hc_70
      have hc_111 : σ_79 230 = q_an G 5 bmP := (hf_75 _ (by omega)).trans hc_71
      cases hs19
    · skip
      refine (?_ : AJ G K Q 4 24 ex n 51 [some (.ref (q_h G + 0)), some (.int (nI (r1))), some (.int (nI (a1))), some (.int (nI (b1)))] [] σ_79)
      have hc_112 : σ_79 0 = o10 G (z1) (z2) (z3) := (hf_78 _ (by omega)).trans hc_40
      have hc_113 : σ_79 25 = o0 G (25) (nI (g 0)) (nI (g 3)) (nI (g 4)) (nI (g 5)) (nI (g 6)) := (hf_78 _ (by omega)).trans hc_41
      have hc_114 : σ_79 26 = q_rn G 3 4 (fun j => some (25 + 10 + 2 * j)) := (hf_78 _ (by omega)).trans hc_42
      have hc_115 : σ_79 27 = o6 G (27) (nI (g 1)) (nI (g 2)) := (hf_78 _ (by omega)).trans hc_43
      have hc_116 : σ_79 (27 + 1) = q_an G 8 kd := (hf_78 _ (by omega)).trans hc_44
      have hc_117 : σ_79 (27 + 2) = q_an G 8 fi := (hf_78 _ (by omega)).trans hc_45
      have hc_118 : σ_79 (27 + 3) = q_an G 8 se := (hf_78 _ (by omega)).trans hc_46
      have hc_119 : σ_79 (27 + 4) = q_an G 8 tf := (hf_78 _ (by omega)).trans hc_47
      have hc_120 : σ_79 (27 + 5) = q_an G 8 ts := (hf_78 _ (by omega)).trans hc_48
      have hc_121 : σ_79 (25 + 8) = q_an G 10 ac := (hf_78 _ (by omega)).trans hc_49
      have hc_122 : σ_79 (25 + 9) = q_an G 100 tu := (hf_78 _ (by omega)).trans hc_50
      have hc_123 : ∀ j9 : Nat, j9 < g 0 → σ_79 (25 + 10 + 2 * j9) = o7 G (25 + 10 + 2 * j9) (lN (nm j9)) (lN (on j9)) (nI (s_rule g j9 18)) (nI (s_rule g j9 19)) (nI (s_rule g j9 20)) := fun j9 hj0 => (hf_78 _ (by omega)).trans (hc_51 j9 (by omega))
      have hc_124 : ∀ j9 : Nat, j9 < g 0 → σ_79 (25 + 10 + 2 * j9 + 1) = q_an G 5 (bm j9) := fun j9 hj0 => (hf_78 _ (by omega)).trans (hc_52 j9 (by omega))
      have hc_125 : σ_79 43 = o4 G (43)  := (hf_78 _ (by omega)).trans hc_53
      have hc_126 : σ_79 44 = q_rn G 4 4 (fun j => some (46 + 8 * j)) := (hf_78 _ (by omega)).trans hc_54
      have hc_127 : σ_79 45 = o1 G (h0) (h1) (h2) (h3) (h4) := (hf_78 _ (by omega)).trans hc_55
      have hc_128 : ∀ j9 : Nat, j9 < 4 → σ_79 (46 + 8 * j9) = o8 G (46 + 8 * j9) (nI (flA j9)) (nI (n0A j9)) (nI (gvA j9)) (nI (gsA j9)) (nI (lmA j9)) (nI (vsA j9)) := fun j9 hj0 => (hf_78 _ (by omega)).trans (hc_56 j9 (by omega))
      have hc_129 : ∀ j9 : Nat, j9 < 4 → σ_79 (46 + 8 * j9 + 1) = o7 G (46 + 8 * j9 + 1) (lN (nmA j9)) (lN (onA j9)) (nI (slA j9)) (nI (moA j9)) (nI (nbA j9)) := fun j9 hj0 => (hf_78 _ (by omega)).trans (hc_57 j9 (by omega))
      have hc_130 : ∀ j9 : Nat, j9 < 4 → σ_79 (46 + 8 * j9 + 2) = q_an G 5 (bmA j9) := fun j9 hj0 => (hf_78 _ (by omega)).trans (hc_58 j9 (by omega))
      have hc_131 : ∀ j9 : Nat, j9 < 4 → σ_79 (46 + 8 * j9 + 3) = q_an G 1681 (skA j9) := fun j9 hj0 => (hf_78 _ (by omega)).trans (hc_59 j9 (by omega))
      have hc_132 : ∀ j9 : Nat, j9 < 4 → σ_79 (46 + 8 * j9 + 4) = q_an G 1681 (s2A j9) := fun j9 hj0 => (hf_78 _ (by omega)).trans (hc_60 j9 (by omega))
      have hc_133 : ∀ j9 : Nat, j9 < 4 → σ_79 (46 + 8 * j9 + 5) = q_an G 1681 (vaA j9) := fun j9 hj0 => (hf_78 _ (by omega)).trans (hc_61 j9 (by omega))
      have hc_134 : ∀ j9 : Nat, j9 < 4 → σ_79 (46 + 8 * j9 + 6) = q_an G 1681 (spA j9) := fun j9 hj0 => (hf_78 _ (by omega)).trans (hc_62 j9 (by omega))
      have hc_135 : ∀ j9 : Nat, j9 < 4 → σ_79 (46 + 8 * j9 + 7) = q_an G 1681 (rfA j9) := fun j9 hj0 => (hf_78 _ (by omega)).trans (hc_63 j9 (by omega))
      have hc_136 : σ_79 228 = o8 G (228) (nI (flP)) (nI (n0P)) (nI (gvP)) (nI (gsP)) (nI (lmP)) (nI (vsP)) := (hf_78 _ (by omega)).trans hc_64
      have hc_137 : σ_79 231 = q_an G 1681 skfP := (hf_78 _ (by omega)).trans hc_65
      have hc_138 : σ_79 232 = q_an G 1681 slfP := (hf_78 _ (by omega)).trans hc_66
      have hc_139 : σ_79 233 = q_an G 1681 vaP := (hf_78 _ (by omega)).trans hc_67
      have hc_140 : σ_79 234 = q_an G 1681 spP := (hf_78 _ (by omega)).trans hc_68
      have hc_141 : σ_79 235 = q_an G 1681 rfP := (hf_78 _ (by omega)).trans hc_69
      have hc_142 : σ_79 229 = o7 G (229) (lN (nmP)) (lN (onP)) (nI (slP)) (nI (moP)) (nI (nbP)) := (hf_78 _ (by omega)).trans hc_70
      have hc_143 : σ_79 230 = q_an G 5 bmP := (hf_78 _ (by omega)).trans hc_71
      have hu9 := hu.2.1
      have hu20 := hu.2.2.2.2.1
      have hyb : s_barred (s_rule g r1) a1 b1 = true := hb19
      obtain ⟨hi1, hi2, hi3⟩ := x_bar_at hyb
      have his := x_uD_is hi1
      have hww := x_isD_w his (x_w_of hu)
      have hwo := x_isD_on his hu9 hon
      have hwm := x_isD_bm his hrr.2.2.2.2.2.2
      have hAA := x_isD_A his hu9 hb9 hab9 hi1 (hbd r1 hrl9) hi2 hi3
      have hi20 : (x_uD (s_rule g r1) (s_bar (s_rule g r1) a1 b1)) 20 = s_rule g r1 20 - 1 := by have := his.1; omega
      have hc_144 : σ_79 226 = o7 G (226) (lN (nm r1)) (lN (on r1)) (nI ((x_uD (s_rule g r1) (s_bar (s_rule g r1) a1 b1)) 18)) (nI ((x_uD (s_rule g r1) (s_bar (s_rule g r1) a1 b1)) 19)) (nI ((x_uD (s_rule g r1) (s_bar (s_rule g r1) a1 b1)) 20)) := hc_76.trans (by rw [his.2.1 18 (by decide) (by decide), his.2.1 19 (by decide) (by decide), hi20])
      refine A_aload_n hg dX10_changedBy_51 rfl rfl ?_
      refine A_getf (v := .ref (q_h G + 228)) hg fl_RX10_76 dX10_changedBy_52 hc_112 (by omega) rfl ?_
      refine A_aload_n hg dX10_changedBy_55 rfl rfl ?_
      refine A_getf (v := .ref (q_h G + 226)) hg fl_RX10_69 dX10_changedBy_56 hc_112 (by omega) rfl ?_
      refine A_vV (kc2 := 4) (ks2 := 24) (As := [.ref (q_h G + 226)]) (rest := []) hg lk_RX10_371 in_X8_fitLosing se_X8_fitLosing rfl dX10_changedBy_59 ⟨by decide, by decide⟩ rfl rfl ⟨by decide, by decide⟩ hc_136 (by omega) rfl rfl (Nat.le_of_ble_eq_true rfl) (c_X8_fitLosing G ex n σ_79 228 flP n0P gvP gsP lmP vsP 226 (x_uD (s_rule g r1) (s_bar (s_rule g r1) a1 b1)) (nm r1) (on r1) (x_shl (bm r1) (s_bar (s_rule g r1) a1 b1) ((s_rule g r1) 20 - 1)) nmP onP slP moP nbP bmP skfP slfP vaP spP rfP hc_136 hc_137 hc_138 hc_139 hc_140 hc_141 hc_142 hc_143 hc_144 hc_77 (by omega) (by omega) (by omega) hww hwo hwm hsO) ?_
      rintro σ_158 ⟨kf_145, lf_146, va3_147, gv3_148, gs3_149, vs3_150, hlw9, hc_151, hc_152, hc_153, hc_154, hc_155, hc_156, hf_157⟩
      have hc_159 : σ_158 0 = o10 G (z1) (z2) (z3) := (hf_157 _ (by omega)).trans hc_112
      have hc_160 : σ_158 25 = o0 G (25) (nI (g 0)) (nI (g 3)) (nI (g 4)) (nI (g 5)) (nI (g 6)) := (hf_157 _ (by omega)).trans hc_113
      have hc_161 : σ_158 26 = q_rn G 3 4 (fun j => some (25 + 10 + 2 * j)) := (hf_157 _ (by omega)).trans hc_114
      have hc_162 : σ_158 27 = o6 G (27) (nI (g 1)) (nI (g 2)) := (hf_157 _ (by omega)).trans hc_115
      have hc_163 : σ_158 (27 + 1) = q_an G 8 kd := (hf_157 _ (by omega)).trans hc_116
      have hc_164 : σ_158 (27 + 2) = q_an G 8 fi := (hf_157 _ (by omega)).trans hc_117
      have hc_165 : σ_158 (27 + 3) = q_an G 8 se := (hf_157 _ (by omega)).trans hc_118
      have hc_166 : σ_158 (27 + 4) = q_an G 8 tf := (hf_157 _ (by omega)).trans hc_119
      have hc_167 : σ_158 (27 + 5) = q_an G 8 ts := (hf_157 _ (by omega)).trans hc_120
      have hc_168 : σ_158 (25 + 8) = q_an G 10 ac := (hf_157 _ (by omega)).trans hc_121
      have hc_169 : σ_158 (25 + 9) = q_an G 100 tu := (hf_157 _ (by omega)).trans hc_122
      have hc_170 : ∀ j9 : Nat, j9 < g 0 → σ_158 (25 + 10 + 2 * j9) = o7 G (25 + 10 + 2 * j9) (lN (nm j9)) (lN (on j9)) (nI (s_rule g j9 18)) (nI (s_rule g j9 19)) (nI (s_rule g j9 20)) := fun j9 hj0 => (hf_157 _ (by omega)).trans (hc_123 j9 (by omega))
      have hc_171 : ∀ j9 : Nat, j9 < g 0 → σ_158 (25 + 10 + 2 * j9 + 1) = q_an G 5 (bm j9) := fun j9 hj0 => (hf_157 _ (by omega)).trans (hc_124 j9 (by omega))
      have hc_172 : σ_158 43 = o4 G (43)  := (hf_157 _ (by omega)).trans hc_125
      have hc_173 : σ_158 44 = q_rn G 4 4 (fun j => some (46 + 8 * j)) := (hf_157 _ (by omega)).trans hc_126
      have hc_174 : σ_158 45 = o1 G (h0) (h1) (h2) (h3) (h4) := (hf_157 _ (by omega)).trans hc_127
      have hc_175 : ∀ j9 : Nat, j9 < 4 → σ_158 (46 + 8 * j9) = o8 G (46 + 8 * j9) (nI (flA j9)) (nI (n0A j9)) (nI (gvA j9)) (nI (gsA j9)) (nI (lmA j9)) (nI (vsA j9)) := fun j9 hj0 => (hf_157 _ (by omega)).trans (hc_128 j9 (by omega))
      have hc_176 : ∀ j9 : Nat, j9 < 4 → σ_158 (46 + 8 * j9 + 1) = o7 G (46 + 8 * j9 + 1) (lN (nmA j9)) (lN (onA j9)) (nI (slA j9)) (nI (moA j9)) (nI (nbA j9)) := fun j9 hj0 => (hf_157 _ (by omega)).trans (hc_129 j9 (by omega))
      have hc_177 : ∀ j9 : Nat, j9 < 4 → σ_158 (46 + 8 * j9 + 2) = q_an G 5 (bmA j9) := fun j9 hj0 => (hf_157 _ (by omega)).trans (hc_130 j9 (by omega))
      have hc_178 : ∀ j9 : Nat, j9 < 4 → σ_158 (46 + 8 * j9 + 3) = q_an G 1681 (skA j9) := fun j9 hj0 => (hf_157 _ (by omega)).trans (hc_131 j9 (by omega))
      have hc_179 : ∀ j9 : Nat, j9 < 4 → σ_158 (46 + 8 * j9 + 4) = q_an G 1681 (s2A j9) := fun j9 hj0 => (hf_157 _ (by omega)).trans (hc_132 j9 (by omega))
      have hc_180 : ∀ j9 : Nat, j9 < 4 → σ_158 (46 + 8 * j9 + 5) = q_an G 1681 (vaA j9) := fun j9 hj0 => (hf_157 _ (by omega)).trans (hc_133 j9 (by omega))
      have hc_181 : ∀ j9 : Nat, j9 < 4 → σ_158 (46 + 8 * j9 + 6) = q_an G 1681 (spA j9) := fun j9 hj0 => (hf_157 _ (by omega)).trans (hc_134 j9 (by omega))
      have hc_182 : ∀ j9 : Nat, j9 < 4 → σ_158 (46 + 8 * j9 + 7) = q_an G 1681 (rfA j9) := fun j9 hj0 => (hf_157 _ (by omega)).trans (hc_135 j9 (by omega))
      have hc_183 : σ_158 234 = q_an G 1681 spP := (hf_157 _ (by omega)).trans hc_140
      have hc_184 : σ_158 235 = q_an G 1681 rfP := (hf_157 _ (by omega)).trans hc_141
      have hc_185 : σ_158 (226 + 1) = q_an G 5 (x_shl (bm r1) (s_bar (s_rule g r1) a1 b1) ((s_rule g r1) 20 - 1)) := (hf_157 _ (by omega)).trans hc_77
      have hc_186 : σ_158 226 = o7 G (226) (lN (nm r1)) (lN (on r1)) (nI ((x_uD (s_rule g r1) (s_bar (s_rule g r1) a1 b1)) 18)) (nI ((x_uD (s_rule g r1) (s_bar (s_rule g r1) a1 b1)) 19)) (nI ((x_uD (s_rule g r1) (s_bar (s_rule g r1) a1 b1)) 20)) := (hf_157 _ (by omega)).trans hc_144
      refine A_aload_n hg dX10_changedBy_62 rfl rfl ?_
      refine A_iload_n hg dX10_changedBy_63 rfl rfl ?_
      refine A_hV (kc2 := 4) (ks2 := 24) (As := [.int (nI (r1))]) (rest := []) hg lk_RX10_225 in_X10_fittedTable se_X10_fittedTable rfl dX10_changedBy_64 ⟨by decide, by decide⟩ rfl rfl ⟨by decide, by decide⟩ hc_159 (by omega) rfl rfl (Nat.le_of_ble_eq_true rfl) (c_X10_fittedTable G ex n σ_158 z1 z2 z3 g nm on bm flA n0A gvA gsA lmA vsA nmA onA slA moA nbA bmA skA s2A vaA spA rfA r1 hc_159 hc_172 hc_173 hc_160 hc_161 hc_170 hc_171 hc_175 hc_176 hc_177 hc_178 hc_179 hc_180 hc_181 hc_182 (by omega) hgw hrs hTI hrl9) ?_
      rintro _ σ_213 ⟨flB_187, n0B_188, gvB_189, gsB_190, lmB_191, vsB_192, nmB_193, onB_194, slB_195, moB_196, nbB_197, bmB_198, skB_199, s2B_200, vaB_201, spB_202, rfB_203, rfl, hTI2, htz2, hc_204, hc_205, hc_206, hc_207, hc_208, hc_209, hc_210, hc_211, hf_212⟩
      refine (?_ : AJ G K Q 4 24 ex n 67 [some (.ref (q_h G + 0)), some (.int (nI (r1))), some (.int (nI (a1))), some (.int (nI (b1)))] [.ref (q_h G + (46 + 8 * r1))] σ_213)
      have hc_214 : σ_213 0 = o10 G (z1) (z2) (z3) := (hf_212 _ (by omega)).trans hc_159
      have hc_215 : σ_213 25 = o0 G (25) (nI (g 0)) (nI (g 3)) (nI (g 4)) (nI (g 5)) (nI (g 6)) := (hf_212 _ (by omega)).trans hc_160
      have hc_216 : σ_213 26 = q_rn G 3 4 (fun j => some (25 + 10 + 2 * j)) := (hf_212 _ (by omega)).trans hc_161
      have hc_217 : σ_213 27 = o6 G (27) (nI (g 1)) (nI (g 2)) := (hf_212 _ (by omega)).trans hc_162
      have hc_218 : σ_213 (27 + 1) = q_an G 8 kd := (hf_212 _ (by omega)).trans hc_163
      have hc_219 : σ_213 (27 + 2) = q_an G 8 fi := (hf_212 _ (by omega)).trans hc_164
      have hc_220 : σ_213 (27 + 3) = q_an G 8 se := (hf_212 _ (by omega)).trans hc_165
      have hc_221 : σ_213 (27 + 4) = q_an G 8 tf := (hf_212 _ (by omega)).trans hc_166
      have hc_222 : σ_213 (27 + 5) = q_an G 8 ts := (hf_212 _ (by omega)).trans hc_167
      have hc_223 : σ_213 (25 + 8) = q_an G 10 ac := (hf_212 _ (by omega)).trans hc_168
      have hc_224 : σ_213 (25 + 9) = q_an G 100 tu := (hf_212 _ (by omega)).trans hc_169
      have hc_225 : ∀ j9 : Nat, j9 < g 0 → σ_213 (25 + 10 + 2 * j9) = o7 G (25 + 10 + 2 * j9) (lN (nm j9)) (lN (on j9)) (nI (s_rule g j9 18)) (nI (s_rule g j9 19)) (nI (s_rule g j9 20)) := fun j9 hj0 => (hf_212 _ (by omega)).trans (hc_170 j9 (by omega))
      have hc_226 : ∀ j9 : Nat, j9 < g 0 → σ_213 (25 + 10 + 2 * j9 + 1) = q_an G 5 (bm j9) := fun j9 hj0 => (hf_212 _ (by omega)).trans (hc_171 j9 (by omega))
      have hc_227 : σ_213 43 = o4 G (43)  := (hf_212 _ (by omega)).trans hc_172
      have hc_228 : σ_213 44 = q_rn G 4 4 (fun j => some (46 + 8 * j)) := (hf_212 _ (by omega)).trans hc_173
      have hc_229 : σ_213 45 = o1 G (h0) (h1) (h2) (h3) (h4) := (hf_212 _ (by omega)).trans hc_174
      have hc_230 : σ_213 234 = q_an G 1681 spP := (hf_212 _ (by omega)).trans hc_183
      have hc_231 : σ_213 235 = q_an G 1681 rfP := (hf_212 _ (by omega)).trans hc_184
      have hc_232 : σ_213 (226 + 1) = q_an G 5 (x_shl (bm r1) (s_bar (s_rule g r1) a1 b1) ((s_rule g r1) 20 - 1)) := (hf_212 _ (by omega)).trans hc_185
      have hc_233 : σ_213 226 = o7 G (226) (lN (nm r1)) (lN (on r1)) (nI ((x_uD (s_rule g r1) (s_bar (s_rule g r1) a1 b1)) 18)) (nI ((x_uD (s_rule g r1) (s_bar (s_rule g r1) a1 b1)) 19)) (nI ((x_uD (s_rule g r1) (s_bar (s_rule g r1) a1 b1)) 20)) := (hf_212 _ (by omega)).trans hc_186
      have hc_234 : σ_213 228 = o8 G (228) (nI (0)) (nI (s_cnt (s_A (x_uD (s_rule g r1) (s_bar (s_rule g r1) a1 b1))) 1681)) (nI (gv3_148)) (nI (gs3_149)) (nI (s_cnt (fun q => s_val (s_A (x_uD (s_rule g r1) (s_bar (s_rule g r1) a1 b1))) q == 0) 1681)) (nI (vs3_150)) := (hf_212 _ (by omega)).trans hc_151
      have hc_235 : σ_213 (228 + 3) = q_an G 1681 kf_145 := (hf_212 _ (by omega)).trans hc_152
      have hc_236 : σ_213 (228 + 4) = q_an G 1681 lf_146 := (hf_212 _ (by omega)).trans hc_153
      have hc_237 : σ_213 (228 + 5) = q_an G 1681 va3_147 := (hf_212 _ (by omega)).trans hc_154
      have hc_238 : σ_213 (228 + 1) = o7 G (228 + 1) (lN (nm r1)) (lN (on r1)) (nI ((x_uD (s_rule g r1) (s_bar (s_rule g r1) a1 b1)) 18)) (nI ((x_uD (s_rule g r1) (s_bar (s_rule g r1) a1 b1)) 19)) (nI ((x_uD (s_rule g r1) (s_bar (s_rule g r1) a1 b1)) 20)) := (hf_212 _ (by omega)).trans hc_155
      have hc_239 : σ_213 (228 + 2) = q_an G 5 (x_shl (bm r1) (s_bar (s_rule g r1) a1 b1) ((s_rule g r1) 20 - 1)) := (hf_212 _ (by omega)).trans hc_156
      obtain ⟨ho9, hsl9, hmo9, hnb9, hbm9, hn09, hst9, hva9, hgv9, hgs9, hlm9, hvs9⟩ := htz2
      refine A_aload_n hg dX10_changedBy_67 rfl rfl ?_
      refine A_getf (v := .ref (q_h G + 228)) hg fl_RX10_76 dX10_changedBy_68 hc_214 (by omega) rfl ?_
      refine A_eV (kc2 := 4) (ks2 := 24) (As := [.ref (q_h G + 228)]) (rest := []) hg lk_RX10_374 in_X8_losingDifference se_X8_losingDifference rfl dX10_changedBy_71 ⟨by decide, by decide⟩ rfl rfl ⟨by decide, by decide⟩ (hc_204 r1 (by omega)) (by omega) rfl rfl (Nat.le_of_ble_eq_true rfl) (c_X8_losingDifference G ex n σ_213 (46 + 8 * r1) (flB_187 r1) (n0B_188 r1) (gvB_189 r1) (gsB_190 r1) (lmB_191 r1) (vsB_192 r1) (vaB_201 r1) 228 0 (s_cnt (s_A (x_uD (s_rule g r1) (s_bar (s_rule g r1) a1 b1))) 1681) gv3_148 gs3_149 (s_cnt (fun q => s_val (s_A (x_uD (s_rule g r1) (s_bar (s_rule g r1) a1 b1))) q == 0) 1681) vs3_150 va3_147 (hc_204 r1 (by omega)) (hc_209 r1 (by omega)) hc_234 hc_237 (by omega) (by omega) (fun j hj => by have h1 := (hva9 j hj).1; have h2 := s_V_le (s_rule g r1) hj; unfold s_V at h2; omega) (fun j hj => by have h1 := (hlw9 j hj).1; omega)) ?_
      rw [hQ]
      exact A_ireturn hg (by decide) (by decide) rfl dX10_changedBy_74 ⟨rfl, ⟨r1, a1, b1, (by show _ = some (Value.int (nI (s_cnt (s_chP (s_rule g r1) a1 b1) 1681))); rw [s_cnt_congr (Q := s_chP (s_rule g r1) a1 b1) (fun q hq => by rw [x_lw_b (s_A0 _) hlw9 hq, hAA, (hva9 q hq).1]; rfl)]), rfl, hrl9, rfl, rfl, ha9, hb9, hab9, ⟨(h0), (h1), (h2), (h3), (h4), flB_187, n0B_188, gvB_189, gsB_190, lmB_191, vsB_192, nmB_193, onB_194, slB_195, moB_196, nbB_197, bmB_198, skB_199, s2B_200, vaB_201, spB_202, rfB_203, hc_227, hc_228, hc_229, hc_204, hc_205, hc_206, hc_207, hc_208, hc_209, hc_210, hc_211, hTI2⟩, ⟨_, _, _, _, _, _, _, _, _, _, _, _, _, _, _, _, _, _, _, _, _, _, _, hc_233, hc_232, hc_234, hc_235, hc_236, hc_237, hc_230, hc_231, hc_238, hc_239, hsO⟩, (fun i hi => ((hf_212 i (by omega)).trans ((hf_157 i (by omega)).trans ((hf_78 i (by omega)).trans (hf_38 i (by omega))))))⟩⟩
  · skip
    refine A_iconst (v := (nI (1))) hg dX10_changedBy_43 (by decide) ?_
    refine A_goto (tgt := 48) hg dX10_changedBy_44 (by decide) ?_
    refine A_hV (kc2 := 4) (ks2 := 24) (As := [.int (nI (a1)), .int (nI (b1)), .int (nI (1))]) (rest := []) hg lk_RX10_367 in_X7_setBarred se_X7_setBarred rfl dX10_changedBy_48 ⟨by decide, by decide⟩ rfl rfl ⟨by decide, by decide⟩ hc_36 (by omega) rfl rfl (Nat.le_of_ble_eq_true rfl) (c_X7_setBarred G ex n σ_39 226 (s_rule g r1) (nm r1) (on r1) (bm r1) a1 b1 true hc_36 hc_37 (by omega) (x_w_of hu) hon hrr.2.2.2.2.2.2 (by omega) (by omega)) ?_
    rintro _ σ_247 (⟨rfl, hh9, he_240⟩ | ⟨rfl, hs19, hb19, h59, hc_241, hc_242, hf_243⟩ | ⟨rfl, hs19, hb19, hc_244, hc_245, hf_246⟩)
    · skip
      rw [he_240]
      refine (?_ : AJ G K Q 4 24 ex n 51 [some (.ref (q_h G + 0)), some (.int (nI (r1))), some (.int (nI (a1))), some (.int (nI (b1)))] [] σ_39)
      exfalso
      rcases hh9 with ⟨-, h | h⟩ | ⟨h, -⟩
      · rw [c40] at h; cases h
      · have := hu.2.2.2.2.1; omega
      · cases h
    · skip
      refine (?_ : AJ G K Q 4 24 ex n 51 [some (.ref (q_h G + 0)), some (.int (nI (r1))), some (.int (nI (a1))), some (.int (nI (b1)))] [] σ_247)
      have hc_248 : σ_247 0 = o10 G (z1) (z2) (z3) := (hf_243 _ (by omega)).trans hc_40
      have hc_249 : σ_247 25 = o0 G (25) (nI (g 0)) (nI (g 3)) (nI (g 4)) (nI (g 5)) (nI (g 6)) := (hf_243 _ (by omega)).trans hc_41
      have hc_250 : σ_247 26 = q_rn G 3 4 (fun j => some (25 + 10 + 2 * j)) := (hf_243 _ (by omega)).trans hc_42
      have hc_251 : σ_247 27 = o6 G (27) (nI (g 1)) (nI (g 2)) := (hf_243 _ (by omega)).trans hc_43
      have hc_252 : σ_247 (27 + 1) = q_an G 8 kd := (hf_243 _ (by omega)).trans hc_44
      have hc_253 : σ_247 (27 + 2) = q_an G 8 fi := (hf_243 _ (by omega)).trans hc_45
      have hc_254 : σ_247 (27 + 3) = q_an G 8 se := (hf_243 _ (by omega)).trans hc_46
      have hc_255 : σ_247 (27 + 4) = q_an G 8 tf := (hf_243 _ (by omega)).trans hc_47
      have hc_256 : σ_247 (27 + 5) = q_an G 8 ts := (hf_243 _ (by omega)).trans hc_48
      have hc_257 : σ_247 (25 + 8) = q_an G 10 ac := (hf_243 _ (by omega)).trans hc_49
      have hc_258 : σ_247 (25 + 9) = q_an G 100 tu := (hf_243 _ (by omega)).trans hc_50
      have hc_259 : ∀ j9 : Nat, j9 < g 0 → σ_247 (25 + 10 + 2 * j9) = o7 G (25 + 10 + 2 * j9) (lN (nm j9)) (lN (on j9)) (nI (s_rule g j9 18)) (nI (s_rule g j9 19)) (nI (s_rule g j9 20)) := fun j9 hj0 => (hf_243 _ (by omega)).trans (hc_51 j9 (by omega))
      have hc_260 : ∀ j9 : Nat, j9 < g 0 → σ_247 (25 + 10 + 2 * j9 + 1) = q_an G 5 (bm j9) := fun j9 hj0 => (hf_243 _ (by omega)).trans (hc_52 j9 (by omega))
      have hc_261 : σ_247 43 = o4 G (43)  := (hf_243 _ (by omega)).trans hc_53
      have hc_262 : σ_247 44 = q_rn G 4 4 (fun j => some (46 + 8 * j)) := (hf_243 _ (by omega)).trans hc_54
      have hc_263 : σ_247 45 = o1 G (h0) (h1) (h2) (h3) (h4) := (hf_243 _ (by omega)).trans hc_55
      have hc_264 : ∀ j9 : Nat, j9 < 4 → σ_247 (46 + 8 * j9) = o8 G (46 + 8 * j9) (nI (flA j9)) (nI (n0A j9)) (nI (gvA j9)) (nI (gsA j9)) (nI (lmA j9)) (nI (vsA j9)) := fun j9 hj0 => (hf_243 _ (by omega)).trans (hc_56 j9 (by omega))
      have hc_265 : ∀ j9 : Nat, j9 < 4 → σ_247 (46 + 8 * j9 + 1) = o7 G (46 + 8 * j9 + 1) (lN (nmA j9)) (lN (onA j9)) (nI (slA j9)) (nI (moA j9)) (nI (nbA j9)) := fun j9 hj0 => (hf_243 _ (by omega)).trans (hc_57 j9 (by omega))
      have hc_266 : ∀ j9 : Nat, j9 < 4 → σ_247 (46 + 8 * j9 + 2) = q_an G 5 (bmA j9) := fun j9 hj0 => (hf_243 _ (by omega)).trans (hc_58 j9 (by omega))
      have hc_267 : ∀ j9 : Nat, j9 < 4 → σ_247 (46 + 8 * j9 + 3) = q_an G 1681 (skA j9) := fun j9 hj0 => (hf_243 _ (by omega)).trans (hc_59 j9 (by omega))
      have hc_268 : ∀ j9 : Nat, j9 < 4 → σ_247 (46 + 8 * j9 + 4) = q_an G 1681 (s2A j9) := fun j9 hj0 => (hf_243 _ (by omega)).trans (hc_60 j9 (by omega))
      have hc_269 : ∀ j9 : Nat, j9 < 4 → σ_247 (46 + 8 * j9 + 5) = q_an G 1681 (vaA j9) := fun j9 hj0 => (hf_243 _ (by omega)).trans (hc_61 j9 (by omega))
      have hc_270 : ∀ j9 : Nat, j9 < 4 → σ_247 (46 + 8 * j9 + 6) = q_an G 1681 (spA j9) := fun j9 hj0 => (hf_243 _ (by omega)).trans (hc_62 j9 (by omega))
      have hc_271 : ∀ j9 : Nat, j9 < 4 → σ_247 (46 + 8 * j9 + 7) = q_an G 1681 (rfA j9) := fun j9 hj0 => (hf_243 _ (by omega)).trans (hc_63 j9 (by omega))
      have hc_272 : σ_247 228 = o8 G (228) (nI (flP)) (nI (n0P)) (nI (gvP)) (nI (gsP)) (nI (lmP)) (nI (vsP)) := (hf_243 _ (by omega)).trans hc_64
      have hc_273 : σ_247 231 = q_an G 1681 skfP := (hf_243 _ (by omega)).trans hc_65
      have hc_274 : σ_247 232 = q_an G 1681 slfP := (hf_243 _ (by omega)).trans hc_66
      have hc_275 : σ_247 233 = q_an G 1681 vaP := (hf_243 _ (by omega)).trans hc_67
      have hc_276 : σ_247 234 = q_an G 1681 spP := (hf_243 _ (by omega)).trans hc_68
      have hc_277 : σ_247 235 = q_an G 1681 rfP := (hf_243 _ (by omega)).trans hc_69
      have hc_278 : σ_247 229 = o7 G (229) (lN (nmP)) (lN (onP)) (nI (slP)) (nI (moP)) (nI (nbP)) := (hf_243 _ (by omega)).trans hc_70
      have hc_279 : σ_247 230 = q_an G 5 bmP := (hf_243 _ (by omega)).trans hc_71
      have hu9 := hu.2.1
      have hu20 := hu.2.2.2.2.1
      have hnb : s_barred (s_rule g r1) a1 b1 = false := hb19
      have his := x_uA_is (s_rule g r1) a1 b1
      have hww := x_isA_w his (by omega) ha9 hb9 (x_w_of hu)
      have hwo := x_isA_on his hu9 hon
      have hwm := x_isA_bm his hrr.2.2.2.2.2.2
      have hAA := x_isA_A his hu9 hb9 hnb
      have hc_280 : σ_247 226 = o7 G (226) (lN (nm r1)) (lN (on r1)) (nI ((x_uA (s_rule g r1) a1 b1) 18)) (nI ((x_uA (s_rule g r1) a1 b1) 19)) (nI ((x_uA (s_rule g r1) a1 b1) 20)) := hc_241.trans (by rw [his.2.1 18 (by decide) (by decide), his.2.1 19 (by decide) (by decide), his.1])
      refine A_aload_n hg dX10_changedBy_51 rfl rfl ?_
      refine A_getf (v := .ref (q_h G + 228)) hg fl_RX10_76 dX10_changedBy_52 hc_248 (by omega) rfl ?_
      refine A_aload_n hg dX10_changedBy_55 rfl rfl ?_
      refine A_getf (v := .ref (q_h G + 226)) hg fl_RX10_69 dX10_changedBy_56 hc_248 (by omega) rfl ?_
      refine A_vV (kc2 := 4) (ks2 := 24) (As := [.ref (q_h G + 226)]) (rest := []) hg lk_RX10_371 in_X8_fitLosing se_X8_fitLosing rfl dX10_changedBy_59 ⟨by decide, by decide⟩ rfl rfl ⟨by decide, by decide⟩ hc_272 (by omega) rfl rfl (Nat.le_of_ble_eq_true rfl) (c_X8_fitLosing G ex n σ_247 228 flP n0P gvP gsP lmP vsP 226 (x_uA (s_rule g r1) a1 b1) (nm r1) (on r1) (va_up (bm r1) ((s_rule g r1) 20) (a1 * 41 + b1)) nmP onP slP moP nbP bmP skfP slfP vaP spP rfP hc_272 hc_273 hc_274 hc_275 hc_276 hc_277 hc_278 hc_279 hc_280 hc_242 (by omega) (by omega) (by omega) hww hwo hwm hsO) ?_
      rintro σ_294 ⟨kf_281, lf_282, va3_283, gv3_284, gs3_285, vs3_286, hlw9, hc_287, hc_288, hc_289, hc_290, hc_291, hc_292, hf_293⟩
      have hc_295 : σ_294 0 = o10 G (z1) (z2) (z3) := (hf_293 _ (by omega)).trans hc_248
      have hc_296 : σ_294 25 = o0 G (25) (nI (g 0)) (nI (g 3)) (nI (g 4)) (nI (g 5)) (nI (g 6)) := (hf_293 _ (by omega)).trans hc_249
      have hc_297 : σ_294 26 = q_rn G 3 4 (fun j => some (25 + 10 + 2 * j)) := (hf_293 _ (by omega)).trans hc_250
      have hc_298 : σ_294 27 = o6 G (27) (nI (g 1)) (nI (g 2)) := (hf_293 _ (by omega)).trans hc_251
      have hc_299 : σ_294 (27 + 1) = q_an G 8 kd := (hf_293 _ (by omega)).trans hc_252
      have hc_300 : σ_294 (27 + 2) = q_an G 8 fi := (hf_293 _ (by omega)).trans hc_253
      have hc_301 : σ_294 (27 + 3) = q_an G 8 se := (hf_293 _ (by omega)).trans hc_254
      have hc_302 : σ_294 (27 + 4) = q_an G 8 tf := (hf_293 _ (by omega)).trans hc_255
      have hc_303 : σ_294 (27 + 5) = q_an G 8 ts := (hf_293 _ (by omega)).trans hc_256
      have hc_304 : σ_294 (25 + 8) = q_an G 10 ac := (hf_293 _ (by omega)).trans hc_257
      have hc_305 : σ_294 (25 + 9) = q_an G 100 tu := (hf_293 _ (by omega)).trans hc_258
      have hc_306 : ∀ j9 : Nat, j9 < g 0 → σ_294 (25 + 10 + 2 * j9) = o7 G (25 + 10 + 2 * j9) (lN (nm j9)) (lN (on j9)) (nI (s_rule g j9 18)) (nI (s_rule g j9 19)) (nI (s_rule g j9 20)) := fun j9 hj0 => (hf_293 _ (by omega)).trans (hc_259 j9 (by omega))
      have hc_307 : ∀ j9 : Nat, j9 < g 0 → σ_294 (25 + 10 + 2 * j9 + 1) = q_an G 5 (bm j9) := fun j9 hj0 => (hf_293 _ (by omega)).trans (hc_260 j9 (by omega))
      have hc_308 : σ_294 43 = o4 G (43)  := (hf_293 _ (by omega)).trans hc_261
      have hc_309 : σ_294 44 = q_rn G 4 4 (fun j => some (46 + 8 * j)) := (hf_293 _ (by omega)).trans hc_262
      have hc_310 : σ_294 45 = o1 G (h0) (h1) (h2) (h3) (h4) := (hf_293 _ (by omega)).trans hc_263
      have hc_311 : ∀ j9 : Nat, j9 < 4 → σ_294 (46 + 8 * j9) = o8 G (46 + 8 * j9) (nI (flA j9)) (nI (n0A j9)) (nI (gvA j9)) (nI (gsA j9)) (nI (lmA j9)) (nI (vsA j9)) := fun j9 hj0 => (hf_293 _ (by omega)).trans (hc_264 j9 (by omega))
      have hc_312 : ∀ j9 : Nat, j9 < 4 → σ_294 (46 + 8 * j9 + 1) = o7 G (46 + 8 * j9 + 1) (lN (nmA j9)) (lN (onA j9)) (nI (slA j9)) (nI (moA j9)) (nI (nbA j9)) := fun j9 hj0 => (hf_293 _ (by omega)).trans (hc_265 j9 (by omega))
      have hc_313 : ∀ j9 : Nat, j9 < 4 → σ_294 (46 + 8 * j9 + 2) = q_an G 5 (bmA j9) := fun j9 hj0 => (hf_293 _ (by omega)).trans (hc_266 j9 (by omega))
      have hc_314 : ∀ j9 : Nat, j9 < 4 → σ_294 (46 + 8 * j9 + 3) = q_an G 1681 (skA j9) := fun j9 hj0 => (hf_293 _ (by omega)).trans (hc_267 j9 (by omega))
      have hc_315 : ∀ j9 : Nat, j9 < 4 → σ_294 (46 + 8 * j9 + 4) = q_an G 1681 (s2A j9) := fun j9 hj0 => (hf_293 _ (by omega)).trans (hc_268 j9 (by omega))
      have hc_316 : ∀ j9 : Nat, j9 < 4 → σ_294 (46 + 8 * j9 + 5) = q_an G 1681 (vaA j9) := fun j9 hj0 => (hf_293 _ (by omega)).trans (hc_269 j9 (by omega))
      have hc_317 : ∀ j9 : Nat, j9 < 4 → σ_294 (46 + 8 * j9 + 6) = q_an G 1681 (spA j9) := fun j9 hj0 => (hf_293 _ (by omega)).trans (hc_270 j9 (by omega))
      have hc_318 : ∀ j9 : Nat, j9 < 4 → σ_294 (46 + 8 * j9 + 7) = q_an G 1681 (rfA j9) := fun j9 hj0 => (hf_293 _ (by omega)).trans (hc_271 j9 (by omega))
      have hc_319 : σ_294 234 = q_an G 1681 spP := (hf_293 _ (by omega)).trans hc_276
      have hc_320 : σ_294 235 = q_an G 1681 rfP := (hf_293 _ (by omega)).trans hc_277
      have hc_321 : σ_294 (226 + 1) = q_an G 5 (va_up (bm r1) ((s_rule g r1) 20) (a1 * 41 + b1)) := (hf_293 _ (by omega)).trans hc_242
      have hc_322 : σ_294 226 = o7 G (226) (lN (nm r1)) (lN (on r1)) (nI ((x_uA (s_rule g r1) a1 b1) 18)) (nI ((x_uA (s_rule g r1) a1 b1) 19)) (nI ((x_uA (s_rule g r1) a1 b1) 20)) := (hf_293 _ (by omega)).trans hc_280
      refine A_aload_n hg dX10_changedBy_62 rfl rfl ?_
      refine A_iload_n hg dX10_changedBy_63 rfl rfl ?_
      refine A_hV (kc2 := 4) (ks2 := 24) (As := [.int (nI (r1))]) (rest := []) hg lk_RX10_225 in_X10_fittedTable se_X10_fittedTable rfl dX10_changedBy_64 ⟨by decide, by decide⟩ rfl rfl ⟨by decide, by decide⟩ hc_295 (by omega) rfl rfl (Nat.le_of_ble_eq_true rfl) (c_X10_fittedTable G ex n σ_294 z1 z2 z3 g nm on bm flA n0A gvA gsA lmA vsA nmA onA slA moA nbA bmA skA s2A vaA spA rfA r1 hc_295 hc_308 hc_309 hc_296 hc_297 hc_306 hc_307 hc_311 hc_312 hc_313 hc_314 hc_315 hc_316 hc_317 hc_318 (by omega) hgw hrs hTI hrl9) ?_
      rintro _ σ_349 ⟨flB_323, n0B_324, gvB_325, gsB_326, lmB_327, vsB_328, nmB_329, onB_330, slB_331, moB_332, nbB_333, bmB_334, skB_335, s2B_336, vaB_337, spB_338, rfB_339, rfl, hTI2, htz2, hc_340, hc_341, hc_342, hc_343, hc_344, hc_345, hc_346, hc_347, hf_348⟩
      refine (?_ : AJ G K Q 4 24 ex n 67 [some (.ref (q_h G + 0)), some (.int (nI (r1))), some (.int (nI (a1))), some (.int (nI (b1)))] [.ref (q_h G + (46 + 8 * r1))] σ_349)
      have hc_350 : σ_349 0 = o10 G (z1) (z2) (z3) := (hf_348 _ (by omega)).trans hc_295
      have hc_351 : σ_349 25 = o0 G (25) (nI (g 0)) (nI (g 3)) (nI (g 4)) (nI (g 5)) (nI (g 6)) := (hf_348 _ (by omega)).trans hc_296
      have hc_352 : σ_349 26 = q_rn G 3 4 (fun j => some (25 + 10 + 2 * j)) := (hf_348 _ (by omega)).trans hc_297
      have hc_353 : σ_349 27 = o6 G (27) (nI (g 1)) (nI (g 2)) := (hf_348 _ (by omega)).trans hc_298
      have hc_354 : σ_349 (27 + 1) = q_an G 8 kd := (hf_348 _ (by omega)).trans hc_299
      have hc_355 : σ_349 (27 + 2) = q_an G 8 fi := (hf_348 _ (by omega)).trans hc_300
      have hc_356 : σ_349 (27 + 3) = q_an G 8 se := (hf_348 _ (by omega)).trans hc_301
      have hc_357 : σ_349 (27 + 4) = q_an G 8 tf := (hf_348 _ (by omega)).trans hc_302
      have hc_358 : σ_349 (27 + 5) = q_an G 8 ts := (hf_348 _ (by omega)).trans hc_303
      have hc_359 : σ_349 (25 + 8) = q_an G 10 ac := (hf_348 _ (by omega)).trans hc_304
      have hc_360 : σ_349 (25 + 9) = q_an G 100 tu := (hf_348 _ (by omega)).trans hc_305
      have hc_361 : ∀ j9 : Nat, j9 < g 0 → σ_349 (25 + 10 + 2 * j9) = o7 G (25 + 10 + 2 * j9) (lN (nm j9)) (lN (on j9)) (nI (s_rule g j9 18)) (nI (s_rule g j9 19)) (nI (s_rule g j9 20)) := fun j9 hj0 => (hf_348 _ (by omega)).trans (hc_306 j9 (by omega))
      have hc_362 : ∀ j9 : Nat, j9 < g 0 → σ_349 (25 + 10 + 2 * j9 + 1) = q_an G 5 (bm j9) := fun j9 hj0 => (hf_348 _ (by omega)).trans (hc_307 j9 (by omega))
      have hc_363 : σ_349 43 = o4 G (43)  := (hf_348 _ (by omega)).trans hc_308
      have hc_364 : σ_349 44 = q_rn G 4 4 (fun j => some (46 + 8 * j)) := (hf_348 _ (by omega)).trans hc_309
      have hc_365 : σ_349 45 = o1 G (h0) (h1) (h2) (h3) (h4) := (hf_348 _ (by omega)).trans hc_310
      have hc_366 : σ_349 234 = q_an G 1681 spP := (hf_348 _ (by omega)).trans hc_319
      have hc_367 : σ_349 235 = q_an G 1681 rfP := (hf_348 _ (by omega)).trans hc_320
      have hc_368 : σ_349 (226 + 1) = q_an G 5 (va_up (bm r1) ((s_rule g r1) 20) (a1 * 41 + b1)) := (hf_348 _ (by omega)).trans hc_321
      have hc_369 : σ_349 226 = o7 G (226) (lN (nm r1)) (lN (on r1)) (nI ((x_uA (s_rule g r1) a1 b1) 18)) (nI ((x_uA (s_rule g r1) a1 b1) 19)) (nI ((x_uA (s_rule g r1) a1 b1) 20)) := (hf_348 _ (by omega)).trans hc_322
      have hc_370 : σ_349 228 = o8 G (228) (nI (0)) (nI (s_cnt (s_A (x_uA (s_rule g r1) a1 b1)) 1681)) (nI (gv3_284)) (nI (gs3_285)) (nI (s_cnt (fun q => s_val (s_A (x_uA (s_rule g r1) a1 b1)) q == 0) 1681)) (nI (vs3_286)) := (hf_348 _ (by omega)).trans hc_287
      have hc_371 : σ_349 (228 + 3) = q_an G 1681 kf_281 := (hf_348 _ (by omega)).trans hc_288
      have hc_372 : σ_349 (228 + 4) = q_an G 1681 lf_282 := (hf_348 _ (by omega)).trans hc_289
      have hc_373 : σ_349 (228 + 5) = q_an G 1681 va3_283 := (hf_348 _ (by omega)).trans hc_290
      have hc_374 : σ_349 (228 + 1) = o7 G (228 + 1) (lN (nm r1)) (lN (on r1)) (nI ((x_uA (s_rule g r1) a1 b1) 18)) (nI ((x_uA (s_rule g r1) a1 b1) 19)) (nI ((x_uA (s_rule g r1) a1 b1) 20)) := (hf_348 _ (by omega)).trans hc_291
      have hc_375 : σ_349 (228 + 2) = q_an G 5 (va_up (bm r1) ((s_rule g r1) 20) (a1 * 41 + b1)) := (hf_348 _ (by omega)).trans hc_292
      obtain ⟨ho9, hsl9, hmo9, hnb9, hbm9, hn09, hst9, hva9, hgv9, hgs9, hlm9, hvs9⟩ := htz2
      refine A_aload_n hg dX10_changedBy_67 rfl rfl ?_
      refine A_getf (v := .ref (q_h G + 228)) hg fl_RX10_76 dX10_changedBy_68 hc_350 (by omega) rfl ?_
      refine A_eV (kc2 := 4) (ks2 := 24) (As := [.ref (q_h G + 228)]) (rest := []) hg lk_RX10_374 in_X8_losingDifference se_X8_losingDifference rfl dX10_changedBy_71 ⟨by decide, by decide⟩ rfl rfl ⟨by decide, by decide⟩ (hc_340 r1 (by omega)) (by omega) rfl rfl (Nat.le_of_ble_eq_true rfl) (c_X8_losingDifference G ex n σ_349 (46 + 8 * r1) (flB_323 r1) (n0B_324 r1) (gvB_325 r1) (gsB_326 r1) (lmB_327 r1) (vsB_328 r1) (vaB_337 r1) 228 0 (s_cnt (s_A (x_uA (s_rule g r1) a1 b1)) 1681) gv3_284 gs3_285 (s_cnt (fun q => s_val (s_A (x_uA (s_rule g r1) a1 b1)) q == 0) 1681) vs3_286 va3_283 (hc_340 r1 (by omega)) (hc_345 r1 (by omega)) hc_370 hc_373 (by omega) (by omega) (fun j hj => by have h1 := (hva9 j hj).1; have h2 := s_V_le (s_rule g r1) hj; unfold s_V at h2; omega) (fun j hj => by have h1 := (hlw9 j hj).1; omega)) ?_
      rw [hQ]
      exact A_ireturn hg (by decide) (by decide) rfl dX10_changedBy_74 ⟨rfl, ⟨r1, a1, b1, (by show _ = some (Value.int (nI (s_cnt (s_chP (s_rule g r1) a1 b1) 1681))); rw [s_cnt_congr (Q := s_chP (s_rule g r1) a1 b1) (fun q hq => by rw [x_lw_b (s_A0 _) hlw9 hq, hAA, (hva9 q hq).1]; rfl)]), rfl, hrl9, rfl, rfl, ha9, hb9, hab9, ⟨(h0), (h1), (h2), (h3), (h4), flB_323, n0B_324, gvB_325, gsB_326, lmB_327, vsB_328, nmB_329, onB_330, slB_331, moB_332, nbB_333, bmB_334, skB_335, s2B_336, vaB_337, spB_338, rfB_339, hc_363, hc_364, hc_365, hc_340, hc_341, hc_342, hc_343, hc_344, hc_345, hc_346, hc_347, hTI2⟩, ⟨_, _, _, _, _, _, _, _, _, _, _, _, _, _, _, _, _, _, _, _, _, _, _, hc_369, hc_368, hc_370, hc_371, hc_372, hc_373, hc_366, hc_367, hc_374, hc_375, hsO⟩, (fun i hi => ((hf_348 i (by omega)).trans ((hf_293 i (by omega)).trans ((hf_243 i (by omega)).trans (hf_38 i (by omega))))))⟩⟩
    · skip
      refine (?_ : AJ G K Q 4 24 ex n 51 [some (.ref (q_h G + 0)), some (.int (nI (r1))), some (.int (nI (a1))), some (.int (nI (b1)))] [] σ_247)
      have hc_376 : σ_247 0 = o10 G (z1) (z2) (z3) := (hf_246 _ (by omega)).trans hc_40
      have hc_377 : σ_247 25 = o0 G (25) (nI (g 0)) (nI (g 3)) (nI (g 4)) (nI (g 5)) (nI (g 6)) := (hf_246 _ (by omega)).trans hc_41
      have hc_378 : σ_247 26 = q_rn G 3 4 (fun j => some (25 + 10 + 2 * j)) := (hf_246 _ (by omega)).trans hc_42
      have hc_379 : σ_247 27 = o6 G (27) (nI (g 1)) (nI (g 2)) := (hf_246 _ (by omega)).trans hc_43
      have hc_380 : σ_247 (27 + 1) = q_an G 8 kd := (hf_246 _ (by omega)).trans hc_44
      have hc_381 : σ_247 (27 + 2) = q_an G 8 fi := (hf_246 _ (by omega)).trans hc_45
      have hc_382 : σ_247 (27 + 3) = q_an G 8 se := (hf_246 _ (by omega)).trans hc_46
      have hc_383 : σ_247 (27 + 4) = q_an G 8 tf := (hf_246 _ (by omega)).trans hc_47
      have hc_384 : σ_247 (27 + 5) = q_an G 8 ts := (hf_246 _ (by omega)).trans hc_48
      have hc_385 : σ_247 (25 + 8) = q_an G 10 ac := (hf_246 _ (by omega)).trans hc_49
      have hc_386 : σ_247 (25 + 9) = q_an G 100 tu := (hf_246 _ (by omega)).trans hc_50
      have hc_387 : ∀ j9 : Nat, j9 < g 0 → σ_247 (25 + 10 + 2 * j9) = o7 G (25 + 10 + 2 * j9) (lN (nm j9)) (lN (on j9)) (nI (s_rule g j9 18)) (nI (s_rule g j9 19)) (nI (s_rule g j9 20)) := fun j9 hj0 => (hf_246 _ (by omega)).trans (hc_51 j9 (by omega))
      have hc_388 : ∀ j9 : Nat, j9 < g 0 → σ_247 (25 + 10 + 2 * j9 + 1) = q_an G 5 (bm j9) := fun j9 hj0 => (hf_246 _ (by omega)).trans (hc_52 j9 (by omega))
      have hc_389 : σ_247 43 = o4 G (43)  := (hf_246 _ (by omega)).trans hc_53
      have hc_390 : σ_247 44 = q_rn G 4 4 (fun j => some (46 + 8 * j)) := (hf_246 _ (by omega)).trans hc_54
      have hc_391 : σ_247 45 = o1 G (h0) (h1) (h2) (h3) (h4) := (hf_246 _ (by omega)).trans hc_55
      have hc_392 : ∀ j9 : Nat, j9 < 4 → σ_247 (46 + 8 * j9) = o8 G (46 + 8 * j9) (nI (flA j9)) (nI (n0A j9)) (nI (gvA j9)) (nI (gsA j9)) (nI (lmA j9)) (nI (vsA j9)) := fun j9 hj0 => (hf_246 _ (by omega)).trans (hc_56 j9 (by omega))
      have hc_393 : ∀ j9 : Nat, j9 < 4 → σ_247 (46 + 8 * j9 + 1) = o7 G (46 + 8 * j9 + 1) (lN (nmA j9)) (lN (onA j9)) (nI (slA j9)) (nI (moA j9)) (nI (nbA j9)) := fun j9 hj0 => (hf_246 _ (by omega)).trans (hc_57 j9 (by omega))
      have hc_394 : ∀ j9 : Nat, j9 < 4 → σ_247 (46 + 8 * j9 + 2) = q_an G 5 (bmA j9) := fun j9 hj0 => (hf_246 _ (by omega)).trans (hc_58 j9 (by omega))
      have hc_395 : ∀ j9 : Nat, j9 < 4 → σ_247 (46 + 8 * j9 + 3) = q_an G 1681 (skA j9) := fun j9 hj0 => (hf_246 _ (by omega)).trans (hc_59 j9 (by omega))
      have hc_396 : ∀ j9 : Nat, j9 < 4 → σ_247 (46 + 8 * j9 + 4) = q_an G 1681 (s2A j9) := fun j9 hj0 => (hf_246 _ (by omega)).trans (hc_60 j9 (by omega))
      have hc_397 : ∀ j9 : Nat, j9 < 4 → σ_247 (46 + 8 * j9 + 5) = q_an G 1681 (vaA j9) := fun j9 hj0 => (hf_246 _ (by omega)).trans (hc_61 j9 (by omega))
      have hc_398 : ∀ j9 : Nat, j9 < 4 → σ_247 (46 + 8 * j9 + 6) = q_an G 1681 (spA j9) := fun j9 hj0 => (hf_246 _ (by omega)).trans (hc_62 j9 (by omega))
      have hc_399 : ∀ j9 : Nat, j9 < 4 → σ_247 (46 + 8 * j9 + 7) = q_an G 1681 (rfA j9) := fun j9 hj0 => (hf_246 _ (by omega)).trans (hc_63 j9 (by omega))
      have hc_400 : σ_247 228 = o8 G (228) (nI (flP)) (nI (n0P)) (nI (gvP)) (nI (gsP)) (nI (lmP)) (nI (vsP)) := (hf_246 _ (by omega)).trans hc_64
      have hc_401 : σ_247 231 = q_an G 1681 skfP := (hf_246 _ (by omega)).trans hc_65
      have hc_402 : σ_247 232 = q_an G 1681 slfP := (hf_246 _ (by omega)).trans hc_66
      have hc_403 : σ_247 233 = q_an G 1681 vaP := (hf_246 _ (by omega)).trans hc_67
      have hc_404 : σ_247 234 = q_an G 1681 spP := (hf_246 _ (by omega)).trans hc_68
      have hc_405 : σ_247 235 = q_an G 1681 rfP := (hf_246 _ (by omega)).trans hc_69
      have hc_406 : σ_247 229 = o7 G (229) (lN (nmP)) (lN (onP)) (nI (slP)) (nI (moP)) (nI (nbP)) := (hf_246 _ (by omega)).trans hc_70
      have hc_407 : σ_247 230 = q_an G 5 bmP := (hf_246 _ (by omega)).trans hc_71
      cases hs19
end
