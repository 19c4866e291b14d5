section
set_option maxRecDepth 100000 in
set_option maxHeartbeats 4000000 in
theorem c_X10_gap (G : GL) (ex : Bool) (n : Nat) (σ : Nat → va_E) (z1 : Int32) (z2 : Int32) (z3 : Int32) (g : Nat → Nat) (r : Int32) (hc0 : σ 0 = o10 G (z1) (z2) (z3)) (hn9 : 279 ≤ n) (hG : x_gm G σ 25 g) (hM : x_mx G σ) : CtX G yX10_gap cX10_gap 9 (some .int) ⟨7, 1, 6, 119⟩ [.ref (q_h G + 0), .int (r)] ex n σ (fun v9 σ2 => (∃ (r1 : Nat), v9 = some (.int (q_d (0))) ∧ (r = nI r1) ∧ (r1 < g 0) ∧ (s_free (s_rule g r1) = false) ∧ (x_mx G σ2) ∧ (∀ i : Nat, i < 43 ∨ 77 < i → σ2 i = σ i)) ∨ (∃ (r1 : Nat), v9 = some (.int (nI (s_gpc (s_rule g r1) 1681))) ∧ (r = nI r1) ∧ (r1 < g 0) ∧ (s_free (s_rule g r1) = true) ∧ (x_mx G σ2) ∧ (∀ i : Nat, i < 43 ∨ 77 < i → σ2 i = σ i))) (fun E σ2 => σ2 = σ ∧ ((E = "java/lang/IndexOutOfBoundsException" ∧ (∀ j : Nat, j < g 0 → r = nI j → False)))) := by
  refine q_enter [some (.ref (q_h G + 0)), some (.int (r)), none, none, none, none, none, none, none] (by decide) (Nat.le_of_ble_eq_true rfl) rfl ?_
  intro K hg
  obtain ⟨Q, hQ⟩ : ∃ Q, Q = q_Q G K ex n 1 6 (fun v9 n' σ' => n' = n ∧ (fun v9 σ2 => (∃ (r1 : Nat), v9 = some (.int (q_d (0))) ∧ (r = nI r1) ∧ (r1 < g 0) ∧ (s_free (s_rule g r1) = false) ∧ (x_mx G σ2) ∧ (∀ i : Nat, i < 43 ∨ 77 < i → σ2 i = σ i)) ∨ (∃ (r1 : Nat), v9 = some (.int (nI (s_gpc (s_rule g r1) 1681))) ∧ (r = nI r1) ∧ (r1 < g 0) ∧ (s_free (s_rule g r1) = true) ∧ (x_mx G σ2) ∧ (∀ i : Nat, i < 43 ∨ 77 < i → σ2 i = σ i))) v9 σ') (fun E σ2 => σ2 = σ ∧ ((E = "java/lang/IndexOutOfBoundsException" ∧ (∀ j : Nat, j < g 0 → r = nI j → False)))) := ⟨_, rfl⟩
  refine (?_ : AJ G K (q_Q G K ex n 1 6 _ _) 0 0 ex n 0 _ _ σ)
  rw [← hQ]
  obtain ⟨kd, fi, se, tf, ts, ac, tu, nm, on, sl, mo, nb, bm, ⟨hg_1, hg_2, hg_3, hg_4, hg_5, hg_6, hg_7, hg_8, hg_9, hg_10, hg_11, hg_12⟩, hgr⟩ := hG
  obtain ⟨hgw, hxp, htp, hrl, hac, htu⟩ := hgr
  have hrs := x_rl_rs hrl
  have hg0 := hgw.1
  have hg1 := hgw.2.1
  have hg2 := hgw.2.2.1
  have hg3 := hgw.2.2.2.1
  have hg6 := hgw.2.2.2.2.1
  have hnp : s_np g = g 1 + g 2 := rfl
  have hc_13 : ∀ j9 : Nat, j9 < g 0 → σ (25 + 10 + 2 * j9) = o7 G (25 + 10 + 2 * j9) (lN (nm j9)) (lN (on j9)) (nI (s_rule g j9 18)) (nI (s_rule g j9 19)) (nI (s_rule g j9 20)) := fun j9 hj => (hg_11 j9 (by omega)).trans (by rw [(hrl j9 hj).2.2.2.1, (hrl j9 hj).2.2.2.2.1, (hrl j9 hj).2.2.2.2.2.1])
  have hc_14 : ∀ j9 : Nat, j9 < g 0 → σ (25 + 10 + 2 * j9 + 1) = q_an G 5 (bm j9) := fun j9 hj => hg_12 j9 (by omega)
  obtain ⟨h0, h1, h2, h3, h4, flA, n0A, gvA, gsA, lmA, vsA, nmA, onA, slA, moA, nbA, bmA, skA, s2A, vaA, spA, rfA, hm_15, hm_16, hm_17, hm_18, hm_19, hm_20, hm_21, hm_22, hm_23, hm_24, hm_25, hTI⟩ := hM
  refine A_aload_n hg dX10_gap_0 rfl rfl ?_
  refine A_iload_n hg dX10_gap_1 rfl rfl ?_
  refine A_pVX (kc2 := 1) (ks2 := 6) (As := [.int (r)]) (rest := []) hg lk_RX10_195 in_X10_needRule se_X10_needRule rfl dX10_gap_2 ⟨by decide, by decide⟩ rfl rfl ⟨by decide, by decide⟩ hc0 (by omega) rfl rfl (Nat.le_of_ble_eq_true rfl) (c_X10_needRule G ex n σ z1 z2 z3 (g 0) (g 3) (g 4) (g 5) (g 6) r hc0 hg_1 (by omega) (by omega)) (fun E σx hx => by rw [hQ]; exact A_out hg (by decide) (by decide) (by obtain ⟨hs, hE, hx⟩ := hx; exact ⟨hs, ⟨hE, hx⟩⟩)) ?_
  rintro _ ⟨r1, rfl, hre, hrl9⟩
  refine (?_ : AJ G K Q 1 6 ex n 5 [some (.ref (q_h G + 0)), some (.int (r)), none, none, none, none, none, none, none] [] σ)
  subst hre
  have hu := hgw.2.2.2.2.2.1 r1 hrl9
  have hrr := hrl r1 hrl9
  have hon := hrr.2.1
  refine A_aload_n hg dX10_gap_5 rfl rfl ?_
  refine A_getf (v := .ref (q_h G + 25)) hg fl_RX10_40 dX10_gap_6 hc0 (by omega) rfl ?_
  refine A_iload_n hg dX10_gap_9 rfl rfl ?_
  refine A_eV (kc2 := 1) (ks2 := 6) (As := [.int (nI (r1))]) (rest := []) hg lk_RX10_198 in_X0_ruleAt se_X0_ruleAt rfl dX10_gap_10 ⟨by decide, by decide⟩ rfl rfl ⟨by decide, by decide⟩ hg_1 (by omega) rfl rfl (Nat.le_of_ble_eq_true rfl) (c_X0_ruleAt G ex n σ 25 (g 0) (g 3) (g 4) (g 5) (g 6) r1 hg_1 hg_2 (by omega) (by omega)) ?_
  refine A_astore_n hg dX10_gap_13 rfl (by decide) (q_c1d rfl) ?_
  refine A_eq (ls2 := [some (.ref (q_h G + 0)), some (.int (nI (r1))), some (.ref (q_h G + (25 + 10 + 2 * r1))), none, none, none, none, none, none]) (st2 := []) (pc2 := 0) rfl rfl ?_
  refine A_aload_n hg dX10_gap_14 rfl rfl ?_
  refine A_eV (kc2 := 1) (ks2 := 6) (As := []) (rest := []) hg lk_RX10_221 in_X7_isFree se_X7_isFree rfl dX10_gap_15 ⟨by decide, by decide⟩ rfl rfl ⟨by decide, by decide⟩ (hc_13 r1 (by omega)) (by omega) rfl rfl (Nat.le_of_ble_eq_true rfl) (c_X7_isFree G ex n σ (25 + 10 + 2 * r1) (s_rule g r1) (nm r1) (on r1) (bm r1) (hc_13 r1 (by omega)) (hc_14 r1 (by omega)) (by omega) (x_w_of hu) hon hrr.2.2.2.2.2.2) ?_
  refine A_if_neB (tgt := 23) hg dX10_gap_18 (by decide) (fun c18 => ?_) (fun c18 => ?_)
  · skip
    refine A_aload_n hg dX10_gap_23 rfl rfl ?_
    refine A_iload_n hg dX10_gap_24 rfl rfl ?_
    refine A_hV (kc2 := 1) (ks2 := 6) (As := [.int (nI (r1))]) (rest := []) hg lk_RX10_225 in_X10_fittedTable se_X10_fittedTable rfl dX10_gap_25 ⟨by decide, by decide⟩ rfl rfl ⟨by decide, by decide⟩ hc0 (by omega) rfl rfl (Nat.le_of_ble_eq_true rfl) (c_X10_fittedTable G ex n σ z1 z2 z3 g nm on bm flA n0A gvA gsA lmA vsA nmA onA slA moA nbA bmA skA s2A vaA spA rfA r1 hc0 hm_15 hm_16 hg_1 hg_2 hc_13 hc_14 hm_18 hm_19 hm_20 hm_21 hm_22 hm_23 hm_24 hm_25 (by omega) hgw hrs hTI hrl9) ?_
    rintro _ σ_52 ⟨flB_26, n0B_27, gvB_28, gsB_29, lmB_30, vsB_31, nmB_32, onB_33, slB_34, moB_35, nbB_36, bmB_37, skB_38, s2B_39, vaB_40, spB_41, rfB_42, rfl, hTI2, htz2, hc_43, hc_44, hc_45, hc_46, hc_47, hc_48, hc_49, hc_50, hf_51⟩
    refine (?_ : AJ G K Q 1 6 ex n 28 [some (.ref (q_h G + 0)), some (.int (nI (r1))), some (.ref (q_h G + (25 + 10 + 2 * r1))), none, none, none, none, none, none] [.ref (q_h G + (46 + 8 * r1))] σ_52)
    have hc_53 : σ_52 0 = o10 G (z1) (z2) (z3) := (hf_51 _ (by omega)).trans hc0
    have hc_54 : σ_52 25 = o0 G (25) (nI (g 0)) (nI (g 3)) (nI (g 4)) (nI (g 5)) (nI (g 6)) := (hf_51 _ (by omega)).trans hg_1
    have hc_55 : σ_52 26 = q_rn G 3 4 (fun j => some (25 + 10 + 2 * j)) := (hf_51 _ (by omega)).trans hg_2
    have hc_56 : σ_52 27 = o6 G (27) (nI (g 1)) (nI (g 2)) := (hf_51 _ (by omega)).trans hg_3
    have hc_57 : σ_52 (27 + 1) = q_an G 8 kd := (hf_51 _ (by omega)).trans hg_4
    have hc_58 : σ_52 (27 + 2) = q_an G 8 fi := (hf_51 _ (by omega)).trans hg_5
    have hc_59 : σ_52 (27 + 3) = q_an G 8 se := (hf_51 _ (by omega)).trans hg_6
    have hc_60 : σ_52 (27 + 4) = q_an G 8 tf := (hf_51 _ (by omega)).trans hg_7
    have hc_61 : σ_52 (27 + 5) = q_an G 8 ts := (hf_51 _ (by omega)).trans hg_8
    have hc_62 : σ_52 (25 + 8) = q_an G 10 ac := (hf_51 _ (by omega)).trans hg_9
    have hc_63 : σ_52 (25 + 9) = q_an G 100 tu := (hf_51 _ (by omega)).trans hg_10
    have hc_64 : ∀ j9 : Nat, j9 < g 0 → σ_52 (25 + 10 + 2 * j9) = o7 G (25 + 10 + 2 * j9) (lN (nm j9)) (lN (on j9)) (nI (s_rule g j9 18)) (nI (s_rule g j9 19)) (nI (s_rule g j9 20)) := fun j9 hj0 => (hf_51 _ (by omega)).trans (hc_13 j9 (by omega))
    have hc_65 : ∀ j9 : Nat, j9 < g 0 → σ_52 (25 + 10 + 2 * j9 + 1) = q_an G 5 (bm j9) := fun j9 hj0 => (hf_51 _ (by omega)).trans (hc_14 j9 (by omega))
    have hc_66 : σ_52 43 = o4 G (43)  := (hf_51 _ (by omega)).trans hm_15
    have hc_67 : σ_52 44 = q_rn G 4 4 (fun j => some (46 + 8 * j)) := (hf_51 _ (by omega)).trans hm_16
    have hc_68 : σ_52 45 = o1 G (h0) (h1) (h2) (h3) (h4) := (hf_51 _ (by omega)).trans hm_17
    obtain ⟨ho9, hsl9, hmo9, hnb9, hbm9, hn09, hst9, hva9, hgv9, hgs9, hlm9, hvs9⟩ := htz2
    refine A_astore_n hg dX10_gap_28 rfl (by decide) (q_c1d rfl) ?_
    refine A_eq (ls2 := [some (.ref (q_h G + 0)), some (.int (nI (r1))), some (.ref (q_h G + (25 + 10 + 2 * r1))), some (.ref (q_h G + (46 + 8 * r1))), none, none, none, none, none]) (st2 := []) (pc2 := 0) rfl rfl ?_
    refine A_iconst (v := (nI (0))) hg dX10_gap_29 (by decide) ?_
    refine A_istore hg dX10_gap_30 (by decide) (q_c1d rfl) ?_
    refine A_eq (ls2 := [some (.ref (q_h G + 0)), some (.int (nI (r1))), some (.ref (q_h G + (25 + 10 + 2 * r1))), some (.ref (q_h G + (46 + 8 * r1))), some (.int (nI (0))), none, none, none, none]) (st2 := []) (pc2 := 0) rfl rfl ?_
    refine A_iconst (v := (nI (0))) hg dX10_gap_32 (by decide) ?_
    refine A_istore hg dX10_gap_33 (by decide) (q_c1d rfl) ?_
    refine A_eq (ls2 := [some (.ref (q_h G + 0)), some (.int (nI (r1))), some (.ref (q_h G + (25 + 10 + 2 * r1))), some (.ref (q_h G + (46 + 8 * r1))), some (.int (nI (0))), some (.int (nI (0))), none, none, none]) (st2 := []) (pc2 := 0) rfl rfl ?_
    refine A_iconst (v := (nI (0))) hg dX10_gap_35 (by decide) ?_
    refine A_istore hg dX10_gap_36 (by decide) (q_c1d rfl) ?_
    refine A_eq (ls2 := [some (.ref (q_h G + 0)), some (.int (nI (r1))), some (.ref (q_h G + (25 + 10 + 2 * r1))), some (.ref (q_h G + (46 + 8 * r1))), some (.int (nI (0))), some (.int (nI (0))), some (.int (nI (0))), none, none]) (st2 := []) (pc2 := 0) rfl rfl ?_
    have hL38 : ∀ (fu : Nat) (m : Nat) (gd : Nat) (bo : Nat), (m ≤ 41) → (gd = x_gg (s_rule g r1 18) m) → (bo = x_gb (s_rule g r1) m) → (41 - m) < fu → AJ G K Q 1 6 ex n 38 [some (.ref (q_h G + 0)), some (.int (nI (r1))), some (.ref (q_h G + (25 + 10 + 2 * r1))), some (.ref (q_h G + (46 + 8 * r1))), some (.int (nI (gd))), some (.int (nI (bo))), some (.int (nI (m))), none, none] [] σ_52 := by
      intro fu
      induction fu with
      | zero => intro m gd bo hm hgd hbo hm; exact absurd hm (Nat.not_lt_zero _)
      | succ fu ih38 =>
        intro m gd bo hm hgd hbo hm38
        refine A_iload hg dX10_gap_38 rfl ?_
        refine A_bipush (v := (nI (40))) hg dX10_gap_40 (by decide) ?_
        refine A_icmp_gtN (tgt := 152) hg dX10_gap_42 (by omega) (by decide) (by decide) (fun c42 => ?_) (fun c42 => ?_)
        · skip
          refine A_aload_n hg dX10_gap_152 rfl rfl ?_
          refine A_getf (v := .int (nI (lmB_30 r1))) hg fl_RX10_232 dX10_gap_153 (hc_43 r1 (by omega)) (by omega) rfl ?_
          refine A_iload hg dX10_gap_156 rfl ?_
          have he41 : m = 41 := by omega
          subst he41
          have hge := x_gp_end (s_rule g r1)
          have hle : lmB_30 r1 = s_lzc (s_rule g r1) 1681 := hlm9
          refine A_isubN hg dX10_gap_158 (by omega) ?_
          refine A_iload hg dX10_gap_159 rfl ?_
          refine A_iaddN hg dX10_gap_161 ?_
          refine A_iload hg dX10_gap_162 rfl ?_
          refine A_isubN hg dX10_gap_164 (by omega) ?_
          rw [hQ]
          exact A_ireturn hg (by decide) (by decide) rfl dX10_gap_165 ⟨rfl, Or.inr ((⟨r1, (by have hz9 : (((lmB_30 r1) - bo) + gd) - bo = s_gpc (s_rule g r1) 1681 := (by omega); rw [hz9]), rfl, hrl9, c18, ⟨(h0), (h1), (h2), (h3), (h4), flB_26, n0B_27, gvB_28, gsB_29, lmB_30, vsB_31, nmB_32, onB_33, slB_34, moB_35, nbB_36, bmB_37, skB_38, s2B_39, vaB_40, spB_41, rfB_42, hc_66, hc_67, hc_68, hc_43, hc_44, hc_45, hc_46, hc_47, hc_48, hc_49, hc_50, hTI2⟩, (fun i hi => (hf_51 i (by omega)))⟩))⟩
        · skip
          have hs5 : s_rule g r1 18 ≤ 5 := hu.2.2.1
          have hm4 : m ≤ 40 := by omega
          have hma := x_gX_small (s := s_rule g r1 18) false hs5 hm4
          have hmb := x_gX_small (s := s_rule g r1 18) true hs5 hm4
          obtain ⟨hg1, hg2, hg3⟩ := x_gg_s (s := s_rule g r1 18) hs5 hm4
          obtain ⟨t1, t2, hb0, hb1, hb2, hb3, hb4, hb5, hb6⟩ := x_gb_s (u := s_rule g r1) hs5 hm4
          have hab : s_gA (s_rule g r1 18) m ≤ s_gB (s_rule g r1 18) m := Nat.le_add_right _ _
          simp only [← s_gX_f, ← s_gX_t] at hg1 hg2 hg3 hb1 hb2 hb3 hb4 hb5 hb6 hab
          refine A_aload_n hg dX10_gap_45 rfl rfl ?_
          refine A_getf (v := .int (nI (s_rule g r1 18))) hg fl_RX10_202 dX10_gap_46 (hc_64 r1 (by omega)) (by omega) rfl ?_
          refine A_iload hg dX10_gap_49 rfl ?_
          refine A_i2lP hg dX10_gap_51 (by omega) ?_
          refine A_iconst (v := (nI (0))) hg dX10_gap_52 (by decide) ?_
          refine A_eS (kc2 := 1) (ks2 := 6) (As := [.int (nI (s_rule g r1 18)), .long (lN (m)), .int (nI (0))]) (rest := []) hg lk_RX10_313 st_X10_goldenNumber dX10_gap_53 ⟨by decide, by decide⟩ rfl rfl ⟨by decide, by decide⟩ rfl rfl (Nat.le_of_ble_eq_true rfl) (c_X10_goldenNumber G ex n σ_52 (s_rule g r1 18) m false (by omega) (by omega)) ?_
          refine A_l2iP hg dX10_gap_56 ?_
          refine A_istore hg dX10_gap_57 (by decide) (q_c1d rfl) ?_
          refine A_eq (ls2 := [some (.ref (q_h G + 0)), some (.int (nI (r1))), some (.ref (q_h G + (25 + 10 + 2 * r1))), some (.ref (q_h G + (46 + 8 * r1))), some (.int (nI (gd))), some (.int (nI (bo))), some (.int (nI (m))), some (.int (nI (s_gX (s_rule g r1 18) false m))), none]) (st2 := []) (pc2 := 0) rfl rfl ?_
          refine A_aload_n hg dX10_gap_59 rfl rfl ?_
          refine A_getf (v := .int (nI (s_rule g r1 18))) hg fl_RX10_202 dX10_gap_60 (hc_64 r1 (by omega)) (by omega) rfl ?_
          refine A_iload hg dX10_gap_63 rfl ?_
          refine A_i2lP hg dX10_gap_65 (by omega) ?_
          refine A_iconst (v := (nI (1))) hg dX10_gap_66 (by decide) ?_
          refine A_eS (kc2 := 1) (ks2 := 6) (As := [.int (nI (s_rule g r1 18)), .long (lN (m)), .int (nI (1))]) (rest := []) hg lk_RX10_313 st_X10_goldenNumber dX10_gap_67 ⟨by decide, by decide⟩ rfl rfl ⟨by decide, by decide⟩ rfl rfl (Nat.le_of_ble_eq_true rfl) (c_X10_goldenNumber G ex n σ_52 (s_rule g r1 18) m true (by omega) (by omega)) ?_
          refine A_l2iP hg dX10_gap_70 ?_
          refine A_istore hg dX10_gap_71 (by decide) (q_c1d rfl) ?_
          refine A_eq (ls2 := [some (.ref (q_h G + 0)), some (.int (nI (r1))), some (.ref (q_h G + (25 + 10 + 2 * r1))), some (.ref (q_h G + (46 + 8 * r1))), some (.int (nI (gd))), some (.int (nI (bo))), some (.int (nI (m))), some (.int (nI (s_gX (s_rule g r1 18) false m))), some (.int (nI (s_gX (s_rule g r1 18) true m)))]) (st2 := []) (pc2 := 0) rfl rfl ?_
          refine A_iload hg dX10_gap_73 rfl ?_
          refine A_bipush (v := (nI (40))) hg dX10_gap_75 (by decide) ?_
          refine A_icmp_gtN (tgt := 146) hg dX10_gap_77 (by omega) (by decide) (by decide) (fun c77 => ?_) (fun c77 => ?_)
          · skip
            refine A_iincN (k' := 1) hg dX10_gap_146 (by decide) rfl (by decide) (q_c1d rfl) ?_
            refine A_eq (ls2 := [some (.ref (q_h G + 0)), some (.int (nI (r1))), some (.ref (q_h G + (25 + 10 + 2 * r1))), some (.ref (q_h G + (46 + 8 * r1))), some (.int (nI (gd))), some (.int (nI (bo))), some (.int (nI (m + 1))), some (.int (nI (s_gX (s_rule g r1 18) false m))), some (.int (nI (s_gX (s_rule g r1 18) true m)))]) (st2 := []) (pc2 := 0) rfl rfl ?_
            refine A_goto (tgt := 38) hg dX10_gap_149 (by decide) ?_
            refine A_drop 7 ?_
            refine A_drop 8 ?_
            exact ih38 (m + 1) gd bo (by omega) (by omega) (by omega) (by omega)
          · skip
            refine A_iload hg dX10_gap_80 rfl ?_
            refine A_iload hg dX10_gap_82 rfl ?_
            refine A_iload hg dX10_gap_84 rfl ?_
            refine A_icmp_neN (tgt := 93) hg dX10_gap_86 (by omega) (by omega) (by decide) (fun c86 => ?_) (fun c86 => ?_)
            · skip
              refine A_iconst (v := (nI (2))) hg dX10_gap_93 (by decide) ?_
              refine A_iaddN hg dX10_gap_94 ?_
              refine A_istore hg dX10_gap_95 (by decide) (q_c1d rfl) ?_
              refine A_eq (ls2 := [some (.ref (q_h G + 0)), some (.int (nI (r1))), some (.ref (q_h G + (25 + 10 + 2 * r1))), some (.ref (q_h G + (46 + 8 * r1))), some (.int (nI (gd + 2))), some (.int (nI (bo))), some (.int (nI (m))), some (.int (nI (s_gX (s_rule g r1 18) false m))), some (.int (nI (s_gX (s_rule g r1 18) true m)))]) (st2 := []) (pc2 := 0) rfl rfl ?_
              have hv1 := (hva9 (s_gX (s_rule g r1 18) false m * 41 + s_gX (s_rule g r1 18) true m) (by omega)).1
              have hv2 := (hva9 (s_gX (s_rule g r1 18) true m * 41 + s_gX (s_rule g r1 18) false m) (by omega)).1
              have hv3 : (vaB_40 r1) (s_gX (s_rule g r1 18) false m * 41 + s_gX (s_rule g r1 18) true m) = s_V (s_rule g r1) (41 * s_gX (s_rule g r1 18) false m + s_gX (s_rule g r1 18) true m) := by rw [hv1, show s_gX (s_rule g r1 18) false m * 41 + s_gX (s_rule g r1 18) true m = 41 * s_gX (s_rule g r1 18) false m + s_gX (s_rule g r1 18) true m by omega]; rfl
              have hv4 : (vaB_40 r1) (s_gX (s_rule g r1 18) true m * 41 + s_gX (s_rule g r1 18) false m) = s_V (s_rule g r1) (41 * s_gX (s_rule g r1 18) true m + s_gX (s_rule g r1 18) false m) := by rw [hv2, show s_gX (s_rule g r1 18) true m * 41 + s_gX (s_rule g r1 18) false m = 41 * s_gX (s_rule g r1 18) true m + s_gX (s_rule g r1 18) false m by omega]; rfl
              have hv5 := s_V_le (s_rule g r1) (p := 41 * s_gX (s_rule g r1 18) false m + s_gX (s_rule g r1 18) true m) (by omega)
              have hv6 := s_V_le (s_rule g r1) (p := 41 * s_gX (s_rule g r1 18) true m + s_gX (s_rule g r1 18) false m) (by omega)
              refine A_iload hg dX10_gap_97 rfl ?_
              refine A_aload_n hg dX10_gap_99 rfl rfl ?_
              refine A_iload hg dX10_gap_100 rfl ?_
              refine A_iload hg dX10_gap_102 rfl ?_
              refine A_eV (kc2 := 1) (ks2 := 6) (As := [.int (nI (s_gX (s_rule g r1 18) false m)), .int (nI (s_gX (s_rule g r1 18) true m))]) (rest := [.int (nI (bo))]) hg lk_RX10_303 in_X8_valueAt se_X8_valueAt rfl dX10_gap_104 ⟨by decide, by decide⟩ rfl rfl ⟨by decide, by decide⟩ (hc_43 r1 (by omega)) (by omega) rfl rfl (Nat.le_of_ble_eq_true rfl) (c_X8_valueAt G ex n σ_52 (46 + 8 * r1) (flB_26 r1) (n0B_27 r1) (gvB_28 r1) (gsB_29 r1) (lmB_30 r1) (vsB_31 r1) (vaB_40 r1) (s_gX (s_rule g r1 18) false m) (s_gX (s_rule g r1 18) true m) (hc_43 r1 (by omega)) (hc_48 r1 (by omega)) (by omega) (by omega) (by omega)) ?_
              refine A_if_neN (tgt := 114) hg dX10_gap_107 (by omega) (by decide) (fun c107 => ?_) (fun c107 => ?_)
              · skip
                refine A_iconst (v := (nI (0))) hg dX10_gap_114 (by decide) ?_
                refine A_iaddN hg dX10_gap_115 ?_
                refine A_istore hg dX10_gap_116 (by decide) (q_c1d rfl) ?_
                refine A_eq (ls2 := [some (.ref (q_h G + 0)), some (.int (nI (r1))), some (.ref (q_h G + (25 + 10 + 2 * r1))), some (.ref (q_h G + (46 + 8 * r1))), some (.int (nI (gd + 2))), some (.int (nI (bo + 0))), some (.int (nI (m))), some (.int (nI (s_gX (s_rule g r1 18) false m))), some (.int (nI (s_gX (s_rule g r1 18) true m)))]) (st2 := []) (pc2 := 0) rfl rfl ?_
                refine A_iload hg dX10_gap_118 rfl ?_
                refine A_iload hg dX10_gap_120 rfl ?_
                refine A_iload hg dX10_gap_122 rfl ?_
                refine A_icmp_eqN (tgt := 142) hg dX10_gap_124 (by omega) (by omega) (by decide) (fun c124 => ?_) (fun c124 => ?_)
                · skip
                  refine A_iconst (v := (nI (0))) hg dX10_gap_142 (by decide) ?_
                  refine A_iaddN hg dX10_gap_143 ?_
                  refine A_istore hg dX10_gap_144 (by decide) (q_c1d rfl) ?_
                  refine A_eq (ls2 := [some (.ref (q_h G + 0)), some (.int (nI (r1))), some (.ref (q_h G + (25 + 10 + 2 * r1))), some (.ref (q_h G + (46 + 8 * r1))), some (.int (nI (gd + 2))), some (.int (nI ((bo + 0) + 0))), some (.int (nI (m))), some (.int (nI (s_gX (s_rule g r1 18) false m))), some (.int (nI (s_gX (s_rule g r1 18) true m)))]) (st2 := []) (pc2 := 0) rfl rfl ?_
                  refine A_iincN (k' := 1) hg dX10_gap_146 (by decide) rfl (by decide) (q_c1d rfl) ?_
                  refine A_eq (ls2 := [some (.ref (q_h G + 0)), some (.int (nI (r1))), some (.ref (q_h G + (25 + 10 + 2 * r1))), some (.ref (q_h G + (46 + 8 * r1))), some (.int (nI (gd + 2))), some (.int (nI ((bo + 0) + 0))), some (.int (nI (m + 1))), some (.int (nI (s_gX (s_rule g r1 18) false m))), some (.int (nI (s_gX (s_rule g r1 18) true m)))]) (st2 := []) (pc2 := 0) rfl rfl ?_
                  refine A_goto (tgt := 38) hg dX10_gap_149 (by decide) ?_
                  refine A_drop 7 ?_
                  refine A_drop 8 ?_
                  exact ih38 (m + 1) (gd + 2) ((bo + 0) + 0) (by omega) (by omega) (by omega) (by omega)
                · skip
                  refine A_aload_n hg dX10_gap_127 rfl rfl ?_
                  refine A_iload hg dX10_gap_128 rfl ?_
                  refine A_iload hg dX10_gap_130 rfl ?_
                  refine A_eV (kc2 := 1) (ks2 := 6) (As := [.int (nI (s_gX (s_rule g r1 18) true m)), .int (nI (s_gX (s_rule g r1 18) false m))]) (rest := [.int (nI (bo + 0))]) hg lk_RX10_303 in_X8_valueAt se_X8_valueAt rfl dX10_gap_132 ⟨by decide, by decide⟩ rfl rfl ⟨by decide, by decide⟩ (hc_43 r1 (by omega)) (by omega) rfl rfl (Nat.le_of_ble_eq_true rfl) (c_X8_valueAt G ex n σ_52 (46 + 8 * r1) (flB_26 r1) (n0B_27 r1) (gvB_28 r1) (gsB_29 r1) (lmB_30 r1) (vsB_31 r1) (vaB_40 r1) (s_gX (s_rule g r1 18) true m) (s_gX (s_rule g r1 18) false m) (hc_43 r1 (by omega)) (hc_48 r1 (by omega)) (by omega) (by omega) (by omega)) ?_
                  refine A_if_neN (tgt := 142) hg dX10_gap_135 (by omega) (by decide) (fun c135 => ?_) (fun c135 => ?_)
                  · skip
                    refine A_iconst (v := (nI (0))) hg dX10_gap_142 (by decide) ?_
                    refine A_iaddN hg dX10_gap_143 ?_
                    refine A_istore hg dX10_gap_144 (by decide) (q_c1d rfl) ?_
                    refine A_eq (ls2 := [some (.ref (q_h G + 0)), some (.int (nI (r1))), some (.ref (q_h G + (25 + 10 + 2 * r1))), some (.ref (q_h G + (46 + 8 * r1))), some (.int (nI (gd + 2))), some (.int (nI ((bo + 0) + 0))), some (.int (nI (m))), some (.int (nI (s_gX (s_rule g r1 18) false m))), some (.int (nI (s_gX (s_rule g r1 18) true m)))]) (st2 := []) (pc2 := 0) rfl rfl ?_
                    refine A_iincN (k' := 1) hg dX10_gap_146 (by decide) rfl (by decide) (q_c1d rfl) ?_
                    refine A_eq (ls2 := [some (.ref (q_h G + 0)), some (.int (nI (r1))), some (.ref (q_h G + (25 + 10 + 2 * r1))), some (.ref (q_h G + (46 + 8 * r1))), some (.int (nI (gd + 2))), some (.int (nI ((bo + 0) + 0))), some (.int (nI (m + 1))), some (.int (nI (s_gX (s_rule g r1 18) false m))), some (.int (nI (s_gX (s_rule g r1 18) true m)))]) (st2 := []) (pc2 := 0) rfl rfl ?_
                    refine A_goto (tgt := 38) hg dX10_gap_149 (by decide) ?_
                    refine A_drop 7 ?_
                    refine A_drop 8 ?_
                    exact ih38 (m + 1) (gd + 2) ((bo + 0) + 0) (by omega) (by omega) (by omega) (by omega)
                  · skip
                    refine A_iconst (v := (nI (1))) hg dX10_gap_138 (by decide) ?_
                    refine A_goto (tgt := 143) hg dX10_gap_139 (by decide) ?_
                    refine A_iaddN hg dX10_gap_143 ?_
                    refine A_istore hg dX10_gap_144 (by decide) (q_c1d rfl) ?_
                    refine A_eq (ls2 := [some (.ref (q_h G + 0)), some (.int (nI (r1))), some (.ref (q_h G + (25 + 10 + 2 * r1))), some (.ref (q_h G + (46 + 8 * r1))), some (.int (nI (gd + 2))), some (.int (nI ((bo + 0) + 1))), some (.int (nI (m))), some (.int (nI (s_gX (s_rule g r1 18) false m))), some (.int (nI (s_gX (s_rule g r1 18) true m)))]) (st2 := []) (pc2 := 0) rfl rfl ?_
                    refine A_iincN (k' := 1) hg dX10_gap_146 (by decide) rfl (by decide) (q_c1d rfl) ?_
                    refine A_eq (ls2 := [some (.ref (q_h G + 0)), some (.int (nI (r1))), some (.ref (q_h G + (25 + 10 + 2 * r1))), some (.ref (q_h G + (46 + 8 * r1))), some (.int (nI (gd + 2))), some (.int (nI ((bo + 0) + 1))), some (.int (nI (m + 1))), some (.int (nI (s_gX (s_rule g r1 18) false m))), some (.int (nI (s_gX (s_rule g r1 18) true m)))]) (st2 := []) (pc2 := 0) rfl rfl ?_
                    refine A_goto (tgt := 38) hg dX10_gap_149 (by decide) ?_
                    refine A_drop 7 ?_
                    refine A_drop 8 ?_
                    exact ih38 (m + 1) (gd + 2) ((bo + 0) + 1) (by omega) (by omega) (by omega) (by omega)
              · skip
                refine A_iconst (v := (nI (1))) hg dX10_gap_110 (by decide) ?_
                refine A_goto (tgt := 115) hg dX10_gap_111 (by decide) ?_
                refine A_iaddN hg dX10_gap_115 ?_
                refine A_istore hg dX10_gap_116 (by decide) (q_c1d rfl) ?_
                refine A_eq (ls2 := [some (.ref (q_h G + 0)), some (.int (nI (r1))), some (.ref (q_h G + (25 + 10 + 2 * r1))), some (.ref (q_h G + (46 + 8 * r1))), some (.int (nI (gd + 2))), some (.int (nI (bo + 1))), some (.int (nI (m))), some (.int (nI (s_gX (s_rule g r1 18) false m))), some (.int (nI (s_gX (s_rule g r1 18) true m)))]) (st2 := []) (pc2 := 0) rfl rfl ?_
                refine A_iload hg dX10_gap_118 rfl ?_
                refine A_iload hg dX10_gap_120 rfl ?_
                refine A_iload hg dX10_gap_122 rfl ?_
                refine A_icmp_eqN (tgt := 142) hg dX10_gap_124 (by omega) (by omega) (by decide) (fun c124 => ?_) (fun c124 => ?_)
                · skip
                  refine A_iconst (v := (nI (0))) hg dX10_gap_142 (by decide) ?_
                  refine A_iaddN hg dX10_gap_143 ?_
                  refine A_istore hg dX10_gap_144 (by decide) (q_c1d rfl) ?_
                  refine A_eq (ls2 := [some (.ref (q_h G + 0)), some (.int (nI (r1))), some (.ref (q_h G + (25 + 10 + 2 * r1))), some (.ref (q_h G + (46 + 8 * r1))), some (.int (nI (gd + 2))), some (.int (nI ((bo + 1) + 0))), some (.int (nI (m))), some (.int (nI (s_gX (s_rule g r1 18) false m))), some (.int (nI (s_gX (s_rule g r1 18) true m)))]) (st2 := []) (pc2 := 0) rfl rfl ?_
                  refine A_iincN (k' := 1) hg dX10_gap_146 (by decide) rfl (by decide) (q_c1d rfl) ?_
                  refine A_eq (ls2 := [some (.ref (q_h G + 0)), some (.int (nI (r1))), some (.ref (q_h G + (25 + 10 + 2 * r1))), some (.ref (q_h G + (46 + 8 * r1))), some (.int (nI (gd + 2))), some (.int (nI ((bo + 1) + 0))), some (.int (nI (m + 1))), some (.int (nI (s_gX (s_rule g r1 18) false m))), some (.int (nI (s_gX (s_rule g r1 18) true m)))]) (st2 := []) (pc2 := 0) rfl rfl ?_
                  refine A_goto (tgt := 38) hg dX10_gap_149 (by decide) ?_
                  refine A_drop 7 ?_
                  refine A_drop 8 ?_
                  exact ih38 (m + 1) (gd + 2) ((bo + 1) + 0) (by omega) (by omega) (by omega) (by omega)
                · skip
                  refine A_aload_n hg dX10_gap_127 rfl rfl ?_
                  refine A_iload hg dX10_gap_128 rfl ?_
                  refine A_iload hg dX10_gap_130 rfl ?_
                  refine A_eV (kc2 := 1) (ks2 := 6) (As := [.int (nI (s_gX (s_rule g r1 18) true m)), .int (nI (s_gX (s_rule g r1 18) false m))]) (rest := [.int (nI (bo + 1))]) hg lk_RX10_303 in_X8_valueAt se_X8_valueAt rfl dX10_gap_132 ⟨by decide, by decide⟩ rfl rfl ⟨by decide, by decide⟩ (hc_43 r1 (by omega)) (by omega) rfl rfl (Nat.le_of_ble_eq_true rfl) (c_X8_valueAt G ex n σ_52 (46 + 8 * r1) (flB_26 r1) (n0B_27 r1) (gvB_28 r1) (gsB_29 r1) (lmB_30 r1) (vsB_31 r1) (vaB_40 r1) (s_gX (s_rule g r1 18) true m) (s_gX (s_rule g r1 18) false m) (hc_43 r1 (by omega)) (hc_48 r1 (by omega)) (by omega) (by omega) (by omega)) ?_
                  refine A_if_neN (tgt := 142) hg dX10_gap_135 (by omega) (by decide) (fun c135 => ?_) (fun c135 => ?_)
                  · skip
                    refine A_iconst (v := (nI (0))) hg dX10_gap_142 (by decide) ?_
                    refine A_iaddN hg dX10_gap_143 ?_
                    refine A_istore hg dX10_gap_144 (by decide) (q_c1d rfl) ?_
                    refine A_eq (ls2 := [some (.ref (q_h G + 0)), some (.int (nI (r1))), some (.ref (q_h G + (25 + 10 + 2 * r1))), some (.ref (q_h G + (46 + 8 * r1))), some (.int (nI (gd + 2))), some (.int (nI ((bo + 1) + 0))), some (.int (nI (m))), some (.int (nI (s_gX (s_rule g r1 18) false m))), some (.int (nI (s_gX (s_rule g r1 18) true m)))]) (st2 := []) (pc2 := 0) rfl rfl ?_
                    refine A_iincN (k' := 1) hg dX10_gap_146 (by decide) rfl (by decide) (q_c1d rfl) ?_
                    refine A_eq (ls2 := [some (.ref (q_h G + 0)), some (.int (nI (r1))), some (.ref (q_h G + (25 + 10 + 2 * r1))), some (.ref (q_h G + (46 + 8 * r1))), some (.int (nI (gd + 2))), some (.int (nI ((bo + 1) + 0))), some (.int (nI (m + 1))), some (.int (nI (s_gX (s_rule g r1 18) false m))), some (.int (nI (s_gX (s_rule g r1 18) true m)))]) (st2 := []) (pc2 := 0) rfl rfl ?_
                    refine A_goto (tgt := 38) hg dX10_gap_149 (by decide) ?_
                    refine A_drop 7 ?_
                    refine A_drop 8 ?_
                    exact ih38 (m + 1) (gd + 2) ((bo + 1) + 0) (by omega) (by omega) (by omega) (by omega)
                  · skip
                    refine A_iconst (v := (nI (1))) hg dX10_gap_138 (by decide) ?_
                    refine A_goto (tgt := 143) hg dX10_gap_139 (by decide) ?_
                    refine A_iaddN hg dX10_gap_143 ?_
                    refine A_istore hg dX10_gap_144 (by decide) (q_c1d rfl) ?_
                    refine A_eq (ls2 := [some (.ref (q_h G + 0)), some (.int (nI (r1))), some (.ref (q_h G + (25 + 10 + 2 * r1))), some (.ref (q_h G + (46 + 8 * r1))), some (.int (nI (gd + 2))), some (.int (nI ((bo + 1) + 1))), some (.int (nI (m))), some (.int (nI (s_gX (s_rule g r1 18) false m))), some (.int (nI (s_gX (s_rule g r1 18) true m)))]) (st2 := []) (pc2 := 0) rfl rfl ?_
                    refine A_iincN (k' := 1) hg dX10_gap_146 (by decide) rfl (by decide) (q_c1d rfl) ?_
                    refine A_eq (ls2 := [some (.ref (q_h G + 0)), some (.int (nI (r1))), some (.ref (q_h G + (25 + 10 + 2 * r1))), some (.ref (q_h G + (46 + 8 * r1))), some (.int (nI (gd + 2))), some (.int (nI ((bo + 1) + 1))), some (.int (nI (m + 1))), some (.int (nI (s_gX (s_rule g r1 18) false m))), some (.int (nI (s_gX (s_rule g r1 18) true m)))]) (st2 := []) (pc2 := 0) rfl rfl ?_
                    refine A_goto (tgt := 38) hg dX10_gap_149 (by decide) ?_
                    refine A_drop 7 ?_
                    refine A_drop 8 ?_
                    exact ih38 (m + 1) (gd + 2) ((bo + 1) + 1) (by omega) (by omega) (by omega) (by omega)
            · skip
              refine A_iconst (v := (nI (1))) hg dX10_gap_89 (by decide) ?_
              refine A_goto (tgt := 94) hg dX10_gap_90 (by decide) ?_
              refine A_iaddN hg dX10_gap_94 ?_
              refine A_istore hg dX10_gap_95 (by decide) (q_c1d rfl) ?_
              refine A_eq (ls2 := [some (.ref (q_h G + 0)), some (.int (nI (r1))), some (.ref (q_h G + (25 + 10 + 2 * r1))), some (.ref (q_h G + (46 + 8 * r1))), some (.int (nI (gd + 1))), some (.int (nI (bo))), some (.int (nI (m))), some (.int (nI (s_gX (s_rule g r1 18) false m))), some (.int (nI (s_gX (s_rule g r1 18) true m)))]) (st2 := []) (pc2 := 0) rfl rfl ?_
              have hv1 := (hva9 (s_gX (s_rule g r1 18) false m * 41 + s_gX (s_rule g r1 18) true m) (by omega)).1
              have hv2 := (hva9 (s_gX (s_rule g r1 18) true m * 41 + s_gX (s_rule g r1 18) false m) (by omega)).1
              have hv3 : (vaB_40 r1) (s_gX (s_rule g r1 18) false m * 41 + s_gX (s_rule g r1 18) true m) = s_V (s_rule g r1) (41 * s_gX (s_rule g r1 18) false m + s_gX (s_rule g r1 18) true m) := by rw [hv1, show s_gX (s_rule g r1 18) false m * 41 + s_gX (s_rule g r1 18) true m = 41 * s_gX (s_rule g r1 18) false m + s_gX (s_rule g r1 18) true m by omega]; rfl
              have hv4 : (vaB_40 r1) (s_gX (s_rule g r1 18) true m * 41 + s_gX (s_rule g r1 18) false m) = s_V (s_rule g r1) (41 * s_gX (s_rule g r1 18) true m + s_gX (s_rule g r1 18) false m) := by rw [hv2, show s_gX (s_rule g r1 18) true m * 41 + s_gX (s_rule g r1 18) false m = 41 * s_gX (s_rule g r1 18) true m + s_gX (s_rule g r1 18) false m by omega]; rfl
              have hv5 := s_V_le (s_rule g r1) (p := 41 * s_gX (s_rule g r1 18) false m + s_gX (s_rule g r1 18) true m) (by omega)
              have hv6 := s_V_le (s_rule g r1) (p := 41 * s_gX (s_rule g r1 18) true m + s_gX (s_rule g r1 18) false m) (by omega)
              refine A_iload hg dX10_gap_97 rfl ?_
              refine A_aload_n hg dX10_gap_99 rfl rfl ?_
              refine A_iload hg dX10_gap_100 rfl ?_
              refine A_iload hg dX10_gap_102 rfl ?_
              refine A_eV (kc2 := 1) (ks2 := 6) (As := [.int (nI (s_gX (s_rule g r1 18) false m)), .int (nI (s_gX (s_rule g r1 18) true m))]) (rest := [.int (nI (bo))]) hg lk_RX10_303 in_X8_valueAt se_X8_valueAt rfl dX10_gap_104 ⟨by decide, by decide⟩ rfl rfl ⟨by decide, by decide⟩ (hc_43 r1 (by omega)) (by omega) rfl rfl (Nat.le_of_ble_eq_true rfl) (c_X8_valueAt G ex n σ_52 (46 + 8 * r1) (flB_26 r1) (n0B_27 r1) (gvB_28 r1) (gsB_29 r1) (lmB_30 r1) (vsB_31 r1) (vaB_40 r1) (s_gX (s_rule g r1 18) false m) (s_gX (s_rule g r1 18) true m) (hc_43 r1 (by omega)) (hc_48 r1 (by omega)) (by omega) (by omega) (by omega)) ?_
              refine A_if_neN (tgt := 114) hg dX10_gap_107 (by omega) (by decide) (fun c107 => ?_) (fun c107 => ?_)
              · skip
                refine A_iconst (v := (nI (0))) hg dX10_gap_114 (by decide) ?_
                refine A_iaddN hg dX10_gap_115 ?_
                refine A_istore hg dX10_gap_116 (by decide) (q_c1d rfl) ?_
                refine A_eq (ls2 := [some (.ref (q_h G + 0)), some (.int (nI (r1))), some (.ref (q_h G + (25 + 10 + 2 * r1))), some (.ref (q_h G + (46 + 8 * r1))), some (.int (nI (gd + 1))), some (.int (nI (bo + 0))), some (.int (nI (m))), some (.int (nI (s_gX (s_rule g r1 18) false m))), some (.int (nI (s_gX (s_rule g r1 18) true m)))]) (st2 := []) (pc2 := 0) rfl rfl ?_
                refine A_iload hg dX10_gap_118 rfl ?_
                refine A_iload hg dX10_gap_120 rfl ?_
                refine A_iload hg dX10_gap_122 rfl ?_
                refine A_icmp_eqN (tgt := 142) hg dX10_gap_124 (by omega) (by omega) (by decide) (fun c124 => ?_) (fun c124 => ?_)
                · skip
                  refine A_iconst (v := (nI (0))) hg dX10_gap_142 (by decide) ?_
                  refine A_iaddN hg dX10_gap_143 ?_
                  refine A_istore hg dX10_gap_144 (by decide) (q_c1d rfl) ?_
                  refine A_eq (ls2 := [some (.ref (q_h G + 0)), some (.int (nI (r1))), some (.ref (q_h G + (25 + 10 + 2 * r1))), some (.ref (q_h G + (46 + 8 * r1))), some (.int (nI (gd + 1))), some (.int (nI ((bo + 0) + 0))), some (.int (nI (m))), some (.int (nI (s_gX (s_rule g r1 18) false m))), some (.int (nI (s_gX (s_rule g r1 18) true m)))]) (st2 := []) (pc2 := 0) rfl rfl ?_
                  refine A_iincN (k' := 1) hg dX10_gap_146 (by decide) rfl (by decide) (q_c1d rfl) ?_
                  refine A_eq (ls2 := [some (.ref (q_h G + 0)), some (.int (nI (r1))), some (.ref (q_h G + (25 + 10 + 2 * r1))), some (.ref (q_h G + (46 + 8 * r1))), some (.int (nI (gd + 1))), some (.int (nI ((bo + 0) + 0))), some (.int (nI (m + 1))), some (.int (nI (s_gX (s_rule g r1 18) false m))), some (.int (nI (s_gX (s_rule g r1 18) true m)))]) (st2 := []) (pc2 := 0) rfl rfl ?_
                  refine A_goto (tgt := 38) hg dX10_gap_149 (by decide) ?_
                  refine A_drop 7 ?_
                  refine A_drop 8 ?_
                  exact ih38 (m + 1) (gd + 1) ((bo + 0) + 0) (by omega) (by omega) (by omega) (by omega)
                · skip
                  refine A_aload_n hg dX10_gap_127 rfl rfl ?_
                  refine A_iload hg dX10_gap_128 rfl ?_
                  refine A_iload hg dX10_gap_130 rfl ?_
                  refine A_eV (kc2 := 1) (ks2 := 6) (As := [.int (nI (s_gX (s_rule g r1 18) true m)), .int (nI (s_gX (s_rule g r1 18) false m))]) (rest := [.int (nI (bo + 0))]) hg lk_RX10_303 in_X8_valueAt se_X8_valueAt rfl dX10_gap_132 ⟨by decide, by decide⟩ rfl rfl ⟨by decide, by decide⟩ (hc_43 r1 (by omega)) (by omega) rfl rfl (Nat.le_of_ble_eq_true rfl) (c_X8_valueAt G ex n σ_52 (46 + 8 * r1) (flB_26 r1) (n0B_27 r1) (gvB_28 r1) (gsB_29 r1) (lmB_30 r1) (vsB_31 r1) (vaB_40 r1) (s_gX (s_rule g r1 18) true m) (s_gX (s_rule g r1 18) false m) (hc_43 r1 (by omega)) (hc_48 r1 (by omega)) (by omega) (by omega) (by omega)) ?_
                  refine A_if_neN (tgt := 142) hg dX10_gap_135 (by omega) (by decide) (fun c135 => ?_) (fun c135 => ?_)
                  · skip
                    refine A_iconst (v := (nI (0))) hg dX10_gap_142 (by decide) ?_
                    refine A_iaddN hg dX10_gap_143 ?_
                    refine A_istore hg dX10_gap_144 (by decide) (q_c1d rfl) ?_
                    refine A_eq (ls2 := [some (.ref (q_h G + 0)), some (.int (nI (r1))), some (.ref (q_h G + (25 + 10 + 2 * r1))), some (.ref (q_h G + (46 + 8 * r1))), some (.int (nI (gd + 1))), some (.int (nI ((bo + 0) + 0))), some (.int (nI (m))), some (.int (nI (s_gX (s_rule g r1 18) false m))), some (.int (nI (s_gX (s_rule g r1 18) true m)))]) (st2 := []) (pc2 := 0) rfl rfl ?_
                    refine A_iincN (k' := 1) hg dX10_gap_146 (by decide) rfl (by decide) (q_c1d rfl) ?_
                    refine A_eq (ls2 := [some (.ref (q_h G + 0)), some (.int (nI (r1))), some (.ref (q_h G + (25 + 10 + 2 * r1))), some (.ref (q_h G + (46 + 8 * r1))), some (.int (nI (gd + 1))), some (.int (nI ((bo + 0) + 0))), some (.int (nI (m + 1))), some (.int (nI (s_gX (s_rule g r1 18) false m))), some (.int (nI (s_gX (s_rule g r1 18) true m)))]) (st2 := []) (pc2 := 0) rfl rfl ?_
                    refine A_goto (tgt := 38) hg dX10_gap_149 (by decide) ?_
                    refine A_drop 7 ?_
                    refine A_drop 8 ?_
                    exact ih38 (m + 1) (gd + 1) ((bo + 0) + 0) (by omega) (by omega) (by omega) (by omega)
                  · skip
                    refine A_iconst (v := (nI (1))) hg dX10_gap_138 (by decide) ?_
                    refine A_goto (tgt := 143) hg dX10_gap_139 (by decide) ?_
                    refine A_iaddN hg dX10_gap_143 ?_
                    refine A_istore hg dX10_gap_144 (by decide) (q_c1d rfl) ?_
                    refine A_eq (ls2 := [some (.ref (q_h G + 0)), some (.int (nI (r1))), some (.ref (q_h G + (25 + 10 + 2 * r1))), some (.ref (q_h G + (46 + 8 * r1))), some (.int (nI (gd + 1))), some (.int (nI ((bo + 0) + 1))), some (.int (nI (m))), some (.int (nI (s_gX (s_rule g r1 18) false m))), some (.int (nI (s_gX (s_rule g r1 18) true m)))]) (st2 := []) (pc2 := 0) rfl rfl ?_
                    refine A_iincN (k' := 1) hg dX10_gap_146 (by decide) rfl (by decide) (q_c1d rfl) ?_
                    refine A_eq (ls2 := [some (.ref (q_h G + 0)), some (.int (nI (r1))), some (.ref (q_h G + (25 + 10 + 2 * r1))), some (.ref (q_h G + (46 + 8 * r1))), some (.int (nI (gd + 1))), some (.int (nI ((bo + 0) + 1))), some (.int (nI (m + 1))), some (.int (nI (s_gX (s_rule g r1 18) false m))), some (.int (nI (s_gX (s_rule g r1 18) true m)))]) (st2 := []) (pc2 := 0) rfl rfl ?_
                    refine A_goto (tgt := 38) hg dX10_gap_149 (by decide) ?_
                    refine A_drop 7 ?_
                    refine A_drop 8 ?_
                    exact ih38 (m + 1) (gd + 1) ((bo + 0) + 1) (by omega) (by omega) (by omega) (by omega)
              · skip
                refine A_iconst (v := (nI (1))) hg dX10_gap_110 (by decide) ?_
                refine A_goto (tgt := 115) hg dX10_gap_111 (by decide) ?_
                refine A_iaddN hg dX10_gap_115 ?_
                refine A_istore hg dX10_gap_116 (by decide) (q_c1d rfl) ?_
                refine A_eq (ls2 := [some (.ref (q_h G + 0)), some (.int (nI (r1))), some (.ref (q_h G + (25 + 10 + 2 * r1))), some (.ref (q_h G + (46 + 8 * r1))), some (.int (nI (gd + 1))), some (.int (nI (bo + 1))), some (.int (nI (m))), some (.int (nI (s_gX (s_rule g r1 18) false m))), some (.int (nI (s_gX (s_rule g r1 18) true m)))]) (st2 := []) (pc2 := 0) rfl rfl ?_
                refine A_iload hg dX10_gap_118 rfl ?_
                refine A_iload hg dX10_gap_120 rfl ?_
                refine A_iload hg dX10_gap_122 rfl ?_
                refine A_icmp_eqN (tgt := 142) hg dX10_gap_124 (by omega) (by omega) (by decide) (fun c124 => ?_) (fun c124 => ?_)
                · skip
                  refine A_iconst (v := (nI (0))) hg dX10_gap_142 (by decide) ?_
                  refine A_iaddN hg dX10_gap_143 ?_
                  refine A_istore hg dX10_gap_144 (by decide) (q_c1d rfl) ?_
                  refine A_eq (ls2 := [some (.ref (q_h G + 0)), some (.int (nI (r1))), some (.ref (q_h G + (25 + 10 + 2 * r1))), some (.ref (q_h G + (46 + 8 * r1))), some (.int (nI (gd + 1))), some (.int (nI ((bo + 1) + 0))), some (.int (nI (m))), some (.int (nI (s_gX (s_rule g r1 18) false m))), some (.int (nI (s_gX (s_rule g r1 18) true m)))]) (st2 := []) (pc2 := 0) rfl rfl ?_
                  refine A_iincN (k' := 1) hg dX10_gap_146 (by decide) rfl (by decide) (q_c1d rfl) ?_
                  refine A_eq (ls2 := [some (.ref (q_h G + 0)), some (.int (nI (r1))), some (.ref (q_h G + (25 + 10 + 2 * r1))), some (.ref (q_h G + (46 + 8 * r1))), some (.int (nI (gd + 1))), some (.int (nI ((bo + 1) + 0))), some (.int (nI (m + 1))), some (.int (nI (s_gX (s_rule g r1 18) false m))), some (.int (nI (s_gX (s_rule g r1 18) true m)))]) (st2 := []) (pc2 := 0) rfl rfl ?_
                  refine A_goto (tgt := 38) hg dX10_gap_149 (by decide) ?_
                  refine A_drop 7 ?_
                  refine A_drop 8 ?_
                  exact ih38 (m + 1) (gd + 1) ((bo + 1) + 0) (by omega) (by omega) (by omega) (by omega)
                · skip
                  refine A_aload_n hg dX10_gap_127 rfl rfl ?_
                  refine A_iload hg dX10_gap_128 rfl ?_
                  refine A_iload hg dX10_gap_130 rfl ?_
                  refine A_eV (kc2 := 1) (ks2 := 6) (As := [.int (nI (s_gX (s_rule g r1 18) true m)), .int (nI (s_gX (s_rule g r1 18) false m))]) (rest := [.int (nI (bo + 1))]) hg lk_RX10_303 in_X8_valueAt se_X8_valueAt rfl dX10_gap_132 ⟨by decide, by decide⟩ rfl rfl ⟨by decide, by decide⟩ (hc_43 r1 (by omega)) (by omega) rfl rfl (Nat.le_of_ble_eq_true rfl) (c_X8_valueAt G ex n σ_52 (46 + 8 * r1) (flB_26 r1) (n0B_27 r1) (gvB_28 r1) (gsB_29 r1) (lmB_30 r1) (vsB_31 r1) (vaB_40 r1) (s_gX (s_rule g r1 18) true m) (s_gX (s_rule g r1 18) false m) (hc_43 r1 (by omega)) (hc_48 r1 (by omega)) (by omega) (by omega) (by omega)) ?_
                  refine A_if_neN (tgt := 142) hg dX10_gap_135 (by omega) (by decide) (fun c135 => ?_) (fun c135 => ?_)
                  · skip
                    refine A_iconst (v := (nI (0))) hg dX10_gap_142 (by decide) ?_
                    refine A_iaddN hg dX10_gap_143 ?_
                    refine A_istore hg dX10_gap_144 (by decide) (q_c1d rfl) ?_
                    refine A_eq (ls2 := [some (.ref (q_h G + 0)), some (.int (nI (r1))), some (.ref (q_h G + (25 + 10 + 2 * r1))), some (.ref (q_h G + (46 + 8 * r1))), some (.int (nI (gd + 1))), some (.int (nI ((bo + 1) + 0))), some (.int (nI (m))), some (.int (nI (s_gX (s_rule g r1 18) false m))), some (.int (nI (s_gX (s_rule g r1 18) true m)))]) (st2 := []) (pc2 := 0) rfl rfl ?_
                    refine A_iincN (k' := 1) hg dX10_gap_146 (by decide) rfl (by decide) (q_c1d rfl) ?_
                    refine A_eq (ls2 := [some (.ref (q_h G + 0)), some (.int (nI (r1))), some (.ref (q_h G + (25 + 10 + 2 * r1))), some (.ref (q_h G + (46 + 8 * r1))), some (.int (nI (gd + 1))), some (.int (nI ((bo + 1) + 0))), some (.int (nI (m + 1))), some (.int (nI (s_gX (s_rule g r1 18) false m))), some (.int (nI (s_gX (s_rule g r1 18) true m)))]) (st2 := []) (pc2 := 0) rfl rfl ?_
                    refine A_goto (tgt := 38) hg dX10_gap_149 (by decide) ?_
                    refine A_drop 7 ?_
                    refine A_drop 8 ?_
                    exact ih38 (m + 1) (gd + 1) ((bo + 1) + 0) (by omega) (by omega) (by omega) (by omega)
                  · skip
                    refine A_iconst (v := (nI (1))) hg dX10_gap_138 (by decide) ?_
                    refine A_goto (tgt := 143) hg dX10_gap_139 (by decide) ?_
                    refine A_iaddN hg dX10_gap_143 ?_
                    refine A_istore hg dX10_gap_144 (by decide) (q_c1d rfl) ?_
                    refine A_eq (ls2 := [some (.ref (q_h G + 0)), some (.int (nI (r1))), some (.ref (q_h G + (25 + 10 + 2 * r1))), some (.ref (q_h G + (46 + 8 * r1))), some (.int (nI (gd + 1))), some (.int (nI ((bo + 1) + 1))), some (.int (nI (m))), some (.int (nI (s_gX (s_rule g r1 18) false m))), some (.int (nI (s_gX (s_rule g r1 18) true m)))]) (st2 := []) (pc2 := 0) rfl rfl ?_
                    refine A_iincN (k' := 1) hg dX10_gap_146 (by decide) rfl (by decide) (q_c1d rfl) ?_
                    refine A_eq (ls2 := [some (.ref (q_h G + 0)), some (.int (nI (r1))), some (.ref (q_h G + (25 + 10 + 2 * r1))), some (.ref (q_h G + (46 + 8 * r1))), some (.int (nI (gd + 1))), some (.int (nI ((bo + 1) + 1))), some (.int (nI (m + 1))), some (.int (nI (s_gX (s_rule g r1 18) false m))), some (.int (nI (s_gX (s_rule g r1 18) true m)))]) (st2 := []) (pc2 := 0) rfl rfl ?_
                    refine A_goto (tgt := 38) hg dX10_gap_149 (by decide) ?_
                    refine A_drop 7 ?_
                    refine A_drop 8 ?_
                    exact ih38 (m + 1) (gd + 1) ((bo + 1) + 1) (by omega) (by omega) (by omega) (by omega)
    exact hL38 _ 0 0 0 (by omega) ((x_gg_0 _).symm) ((x_gb_0 _).symm) (Nat.lt_succ_self _)
  · skip
    refine A_iconst (v := (q_d (0))) hg dX10_gap_21 (by decide) ?_
    rw [hQ]
    exact A_ireturn hg (by decide) (by decide) rfl dX10_gap_22 ⟨rfl, Or.inl (⟨r1, rfl, rfl, hrl9, c18, ⟨(h0), (h1), (h2), (h3), (h4), flA, n0A, gvA, gsA, lmA, vsA, nmA, onA, slA, moA, nbA, bmA, skA, s2A, vaA, spA, rfA, hm_15, hm_16, hm_17, hm_18, hm_19, hm_20, hm_21, hm_22, hm_23, hm_24, hm_25, hTI⟩, (fun _ _ => rfl)⟩)⟩
end
