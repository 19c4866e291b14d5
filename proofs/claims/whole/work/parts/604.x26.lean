section
set_option maxRecDepth 100000 in
set_option maxHeartbeats 4000000 in
theorem c_X10_rule (G : GL) (ex : Bool) (n : Nat) (σ : Nat → va_E) (z1 : Int32) (z2 : Int32) (z3 : Int32) (g : Nat → Nat) (r : Int32) (x : Int32) (hc0 : σ 0 = o10 G (z1) (z2) (z3)) (hn9 : 279 ≤ n) (hG : x_gm G σ 25 g) (hM : x_mx G σ) : CtX G yX10_rule cX10_rule 4 (some .int) ⟨7, 2, 12, 119⟩ [.ref (q_h G + 0), .int (r), .int (x)] ex n σ (fun v9 σ2 => ∃ (r1 : Nat), ∃ (x1 : Nat), v9 = some (.int (nI (s_ruleA g r1 x1))) ∧ (r = nI r1) ∧ (r1 < g 0) ∧ (x = nI x1) ∧ (x1 ≤ 8) ∧ (x_mx G σ2) ∧ (∀ i : Nat, i < 43 ∨ 77 < i → σ2 i = σ i)) (fun E σ2 => σ2 = σ ∧ ((E = "java/lang/IndexOutOfBoundsException" ∧ (∀ j : Nat, j < g 0 → r = nI j → False)) ∨ (E = "java/lang/IllegalArgumentException" ∧ (∃ r1 : Nat, r = nI r1 ∧ r1 < g 0 ∧ (∀ j : Nat, 0 ≤ j → j ≤ 8 → x = nI j → False))))) := by
  refine q_enter [some (.ref (q_h G + 0)), some (.int (r)), some (.int (x)), none] (by decide) (Nat.le_of_ble_eq_true rfl) rfl ?_
  intro K hg
  obtain ⟨Q, hQ⟩ : ∃ Q, Q = q_Q G K ex n 2 12 (fun v9 n' σ' => n' = n ∧ (fun v9 σ2 => ∃ (r1 : Nat), ∃ (x1 : Nat), v9 = some (.int (nI (s_ruleA g r1 x1))) ∧ (r = nI r1) ∧ (r1 < g 0) ∧ (x = nI x1) ∧ (x1 ≤ 8) ∧ (x_mx G σ2) ∧ (∀ i : Nat, i < 43 ∨ 77 < i → σ2 i = σ i)) v9 σ') (fun E σ2 => σ2 = σ ∧ ((E = "java/lang/IndexOutOfBoundsException" ∧ (∀ j : Nat, j < g 0 → r = nI j → False)) ∨ (E = "java/lang/IllegalArgumentException" ∧ (∃ r1 : Nat, r = nI r1 ∧ r1 < g 0 ∧ (∀ j : Nat, 0 ≤ j → j ≤ 8 → x = nI j → False))))) := ⟨_, rfl⟩
  refine (?_ : AJ G K (q_Q G K ex n 2 12 _ _) 0 0 ex n 0 _ _ σ)
  rw [← hQ]
  obtain ⟨kd, fi, se, tf, ts, ac, tu, nm, on, sl, mo, nb, bm, ⟨hg_1, hg_2, hg_3, hg_4, hg_5, hg_6, hg_7, hg_8, hg_9, hg_10, hg_11, hg_12⟩, hgr⟩ := hG
  obtain ⟨hgw, hxp, htp, hrl, hac, htu⟩ := hgr
  have hrs := x_rl_rs hrl
  have hg0 := hgw.1
  have hg1 := hgw.2.1
  have hg2 := hgw.2.2.1
  have hg3 := hgw.2.2.2.1
  have hg6 := hgw.2.2.2.2.1
  have hnp : s_np g = g 1 + g 2 := rfl
  have hc_13 : ∀ j9 : Nat, j9 < g 0 → σ (25 + 10 + 2 * j9) = o7 G (25 + 10 + 2 * j9) (lN (nm j9)) (lN (on j9)) (nI (s_rule g j9 18)) (nI (s_rule g j9 19)) (nI (s_rule g j9 20)) := fun j9 hj => (hg_11 j9 (by omega)).trans (by rw [(hrl j9 hj).2.2.2.1, (hrl j9 hj).2.2.2.2.1, (hrl j9 hj).2.2.2.2.2.1])
  have hc_14 : ∀ j9 : Nat, j9 < g 0 → σ (25 + 10 + 2 * j9 + 1) = q_an G 5 (bm j9) := fun j9 hj => hg_12 j9 (by omega)
  obtain ⟨h0, h1, h2, h3, h4, flA, n0A, gvA, gsA, lmA, vsA, nmA, onA, slA, moA, nbA, bmA, skA, s2A, vaA, spA, rfA, hm_15, hm_16, hm_17, hm_18, hm_19, hm_20, hm_21, hm_22, hm_23, hm_24, hm_25, hTI⟩ := hM
  refine A_aload_n hg dX10_rule_0 rfl rfl ?_
  refine A_iload_n hg dX10_rule_1 rfl rfl ?_
  refine A_pVX (kc2 := 1) (ks2 := 6) (As := [.int (r)]) (rest := []) hg lk_RX10_195 in_X10_needRule se_X10_needRule rfl dX10_rule_2 ⟨by decide, by decide⟩ rfl rfl ⟨by decide, by decide⟩ hc0 (by omega) rfl rfl (Nat.le_of_ble_eq_true rfl) (c_X10_needRule G ex n σ z1 z2 z3 (g 0) (g 3) (g 4) (g 5) (g 6) r hc0 hg_1 (by omega) (by omega)) (fun E σx hx => by rw [hQ]; exact A_out hg (by decide) (by decide) (by obtain ⟨hs, hE, hx⟩ := hx; exact ⟨hs, Or.inl (⟨hE, hx⟩)⟩)) ?_
  rintro _ ⟨r1, rfl, hre, hrl9⟩
  refine (?_ : AJ G K Q 1 6 ex n 5 [some (.ref (q_h G + 0)), some (.int (r)), some (.int (x)), none] [] σ)
  subst hre
  have hu := hgw.2.2.2.2.2.1 r1 hrl9
  have hrr := hrl r1 hrl9
  have hon := hrr.2.1
  refine A_aload_n hg dX10_rule_5 rfl rfl ?_
  refine A_getf (v := .ref (q_h G + 25)) hg fl_RX10_40 dX10_rule_6 hc0 (by omega) rfl ?_
  refine A_iload_n hg dX10_rule_9 rfl rfl ?_
  refine A_eV (kc2 := 1) (ks2 := 6) (As := [.int (nI (r1))]) (rest := []) hg lk_RX10_198 in_X0_ruleAt se_X0_ruleAt rfl dX10_rule_10 ⟨by decide, by decide⟩ rfl rfl ⟨by decide, by decide⟩ hg_1 (by omega) rfl rfl (Nat.le_of_ble_eq_true rfl) (c_X0_ruleAt G ex n σ 25 (g 0) (g 3) (g 4) (g 5) (g 6) r1 hg_1 hg_2 (by omega) (by omega)) ?_
  refine A_astore_n hg dX10_rule_13 rfl (by decide) (q_c1d rfl) ?_
  refine A_eq (ls2 := [some (.ref (q_h G + 0)), some (.int (nI (r1))), some (.int (x)), some (.ref (q_h G + (25 + 10 + 2 * r1)))]) (st2 := []) (pc2 := 0) rfl rfl ?_
  refine A_iload_n hg dX10_rule_14 rfl rfl ?_
  by_cases hd15 : (x).toInt < 0 ∨ 8 < (x).toInt
  · skip
    refine A_tableOut (tgt := 139) hg dX10_rule_15 hd15 (by decide) ?_
    rw [hQ]
    exact A_throwS (text := "there is no such number of a rule") (names := ["java/lang/RuntimeException", "java/lang/Exception"]) hg (by decide +kernel) (by decide +kernel) tw_IllegalArgumentException.2.2.1 tw_IllegalArgumentException.2.2.2 (q_mt 1001 (by decide +kernel)) tw_IllegalArgumentException.1 tw_IllegalArgumentException.2.1 dX10_rule_139 dX10_rule_142 dX10_rule_143 dX10_rule_145 dX10_rule_148 ⟨by decide, by decide, by decide, by decide⟩ (by decide) (by decide) ⟨rfl, Or.inr (⟨rfl, r1, rfl, hrl9, (x_swD (by decide) hd15)⟩)⟩
  · skip
    obtain ⟨k15, hk15, hx15⟩ := q_sw 0 8 hd15
    match k15, hk15, hx15 with
    | 0, _, hx15 =>
      refine A_tableIn (tgt := 64) (off := 49) hg dX10_rule_15 (by rw [hx15]; decide) (by rw [hx15]; decide) (by rw [hx15]; rfl) (by decide) ?_
      refine A_aload_n hg dX10_rule_64 rfl rfl ?_
      refine A_getf (v := .int (nI (s_rule g r1 18))) hg fl_RX10_202 dX10_rule_65 (hc_13 r1 (by omega)) (by omega) rfl ?_
      rw [hQ]
      exact A_ireturn hg (by decide) (by decide) rfl dX10_rule_68 ⟨rfl, ⟨r1, 0, (by rfl), rfl, hrl9, (x_swN (by decide) hx15), (by decide), ⟨(h0), (h1), (h2), (h3), (h4), flA, n0A, gvA, gsA, lmA, vsA, nmA, onA, slA, moA, nbA, bmA, skA, s2A, vaA, spA, rfA, hm_15, hm_16, hm_17, hm_18, hm_19, hm_20, hm_21, hm_22, hm_23, hm_24, hm_25, hTI⟩, (fun _ _ => rfl)⟩⟩
    | 1, _, hx15 =>
      refine A_tableIn (tgt := 69) (off := 54) hg dX10_rule_15 (by rw [hx15]; decide) (by rw [hx15]; decide) (by rw [hx15]; rfl) (by decide) ?_
      refine A_aload_n hg dX10_rule_69 rfl rfl ?_
      refine A_getf (v := .int (nI (s_rule g r1 19))) hg fl_RX10_205 dX10_rule_70 (hc_13 r1 (by omega)) (by omega) rfl ?_
      rw [hQ]
      exact A_ireturn hg (by decide) (by decide) rfl dX10_rule_73 ⟨rfl, ⟨r1, 1, (by rfl), rfl, hrl9, (x_swN (by decide) hx15), (by decide), ⟨(h0), (h1), (h2), (h3), (h4), flA, n0A, gvA, gsA, lmA, vsA, nmA, onA, slA, moA, nbA, bmA, skA, s2A, vaA, spA, rfA, hm_15, hm_16, hm_17, hm_18, hm_19, hm_20, hm_21, hm_22, hm_23, hm_24, hm_25, hTI⟩, (fun _ _ => rfl)⟩⟩
    | 2, _, hx15 =>
      refine A_tableIn (tgt := 74) (off := 59) hg dX10_rule_15 (by rw [hx15]; decide) (by rw [hx15]; decide) (by rw [hx15]; rfl) (by decide) ?_
      refine A_aload_n hg dX10_rule_74 rfl rfl ?_
      refine A_getf (v := .long (lN (on r1))) hg fl_RX10_208 dX10_rule_75 (hc_13 r1 (by omega)) (by omega) rfl ?_
      refine A_eS (kc2 := 1) (ks2 := 6) (As := [.long (lN (on r1))]) (rest := []) hg lk_RX10_212 st_J13_bitCount_95d88 dX10_rule_78 ⟨by decide, by decide⟩ rfl rfl ⟨by decide, by decide⟩ rfl rfl (Nat.le_of_ble_eq_true rfl) (c_J13_bitCount_95d88 G ex n σ (on r1) hon.1) ?_
      rw [hQ]
      exact A_ireturn hg (by decide) (by decide) rfl dX10_rule_81 ⟨rfl, ⟨r1, 2, (by show _ = some (Value.int (nI (s_rule g r1 9))); rw [x_on_many hon hrr.2.2.1]), rfl, hrl9, (x_swN (by decide) hx15), (by decide), ⟨(h0), (h1), (h2), (h3), (h4), flA, n0A, gvA, gsA, lmA, vsA, nmA, onA, slA, moA, nbA, bmA, skA, s2A, vaA, spA, rfA, hm_15, hm_16, hm_17, hm_18, hm_19, hm_20, hm_21, hm_22, hm_23, hm_24, hm_25, hTI⟩, (fun _ _ => rfl)⟩⟩
    | 3, _, hx15 =>
      refine A_tableIn (tgt := 82) (off := 67) hg dX10_rule_15 (by rw [hx15]; decide) (by rw [hx15]; decide) (by rw [hx15]; rfl) (by decide) ?_
      refine A_aload_n hg dX10_rule_82 rfl rfl ?_
      refine A_getf (v := .int (nI (s_rule g r1 20))) hg fl_RX10_218 dX10_rule_83 (hc_13 r1 (by omega)) (by omega) rfl ?_
      rw [hQ]
      exact A_ireturn hg (by decide) (by decide) rfl dX10_rule_86 ⟨rfl, ⟨r1, 3, (by rfl), rfl, hrl9, (x_swN (by decide) hx15), (by decide), ⟨(h0), (h1), (h2), (h3), (h4), flA, n0A, gvA, gsA, lmA, vsA, nmA, onA, slA, moA, nbA, bmA, skA, s2A, vaA, spA, rfA, hm_15, hm_16, hm_17, hm_18, hm_19, hm_20, hm_21, hm_22, hm_23, hm_24, hm_25, hTI⟩, (fun _ _ => rfl)⟩⟩
    | 4, _, hx15 =>
      refine A_tableIn (tgt := 87) (off := 72) hg dX10_rule_15 (by rw [hx15]; decide) (by rw [hx15]; decide) (by rw [hx15]; rfl) (by decide) ?_
      refine A_aload_n hg dX10_rule_87 rfl rfl ?_
      refine A_eV (kc2 := 1) (ks2 := 6) (As := []) (rest := []) hg lk_RX10_221 in_X7_isFree se_X7_isFree rfl dX10_rule_88 ⟨by decide, by decide⟩ rfl rfl ⟨by decide, by decide⟩ (hc_13 r1 (by omega)) (by omega) rfl rfl (Nat.le_of_ble_eq_true rfl) (c_X7_isFree G ex n σ (25 + 10 + 2 * r1) (s_rule g r1) (nm r1) (on r1) (bm r1) (hc_13 r1 (by omega)) (hc_14 r1 (by omega)) (by omega) (x_w_of hu) hon hrr.2.2.2.2.2.2) ?_
      refine A_if_eqB (tgt := 98) hg dX10_rule_91 (by decide) (fun c91 => ?_) (fun c91 => ?_)
      · skip
        refine A_iconst (v := (nI (0))) hg dX10_rule_98 (by decide) ?_
        rw [hQ]
        exact A_ireturn hg (by decide) (by decide) rfl dX10_rule_99 ⟨rfl, ⟨r1, 4, (by show _ = some (Value.int (nI (if s_free (s_rule g r1) = true then 1 else 0))); rw [c91]; rfl), rfl, hrl9, (x_swN (by decide) hx15), (by decide), ⟨(h0), (h1), (h2), (h3), (h4), flA, n0A, gvA, gsA, lmA, vsA, nmA, onA, slA, moA, nbA, bmA, skA, s2A, vaA, spA, rfA, hm_15, hm_16, hm_17, hm_18, hm_19, hm_20, hm_21, hm_22, hm_23, hm_24, hm_25, hTI⟩, (fun _ _ => rfl)⟩⟩
      · skip
        refine A_iconst (v := (nI (1))) hg dX10_rule_94 (by decide) ?_
        refine A_goto (tgt := 99) hg dX10_rule_95 (by decide) ?_
        rw [hQ]
        exact A_ireturn hg (by decide) (by decide) rfl dX10_rule_99 ⟨rfl, ⟨r1, 4, (by show _ = some (Value.int (nI (if s_free (s_rule g r1) = true then 1 else 0))); rw [c91]; rfl), rfl, hrl9, (x_swN (by decide) hx15), (by decide), ⟨(h0), (h1), (h2), (h3), (h4), flA, n0A, gvA, gsA, lmA, vsA, nmA, onA, slA, moA, nbA, bmA, skA, s2A, vaA, spA, rfA, hm_15, hm_16, hm_17, hm_18, hm_19, hm_20, hm_21, hm_22, hm_23, hm_24, hm_25, hTI⟩, (fun _ _ => rfl)⟩⟩
    | 5, _, hx15 =>
      refine A_tableIn (tgt := 100) (off := 85) hg dX10_rule_15 (by rw [hx15]; decide) (by rw [hx15]; decide) (by rw [hx15]; rfl) (by decide) ?_
      refine A_aload_n hg dX10_rule_100 rfl rfl ?_
      refine A_iload_n hg dX10_rule_101 rfl rfl ?_
      refine A_hV (kc2 := 1) (ks2 := 6) (As := [.int (nI (r1))]) (rest := []) hg lk_RX10_225 in_X10_fittedTable se_X10_fittedTable rfl dX10_rule_102 ⟨by decide, by decide⟩ rfl rfl ⟨by decide, by decide⟩ hc0 (by omega) rfl rfl (Nat.le_of_ble_eq_true rfl) (c_X10_fittedTable G ex n σ z1 z2 z3 g nm on bm flA n0A gvA gsA lmA vsA nmA onA slA moA nbA bmA skA s2A vaA spA rfA r1 hc0 hm_15 hm_16 hg_1 hg_2 hc_13 hc_14 hm_18 hm_19 hm_20 hm_21 hm_22 hm_23 hm_24 hm_25 (by omega) hgw hrs hTI hrl9) ?_
      rintro _ σ_52 ⟨flB_26, n0B_27, gvB_28, gsB_29, lmB_30, vsB_31, nmB_32, onB_33, slB_34, moB_35, nbB_36, bmB_37, skB_38, s2B_39, vaB_40, spB_41, rfB_42, rfl, hTI2, htz2, hc_43, hc_44, hc_45, hc_46, hc_47, hc_48, hc_49, hc_50, hf_51⟩
      refine (?_ : AJ G K Q 1 6 ex n 105 [some (.ref (q_h G + 0)), some (.int (nI (r1))), some (.int (x)), some (.ref (q_h G + (25 + 10 + 2 * r1)))] [.ref (q_h G + (46 + 8 * r1))] σ_52)
      have hc_53 : σ_52 0 = o10 G (z1) (z2) (z3) := (hf_51 _ (by omega)).trans hc0
      have hc_54 : σ_52 25 = o0 G (25) (nI (g 0)) (nI (g 3)) (nI (g 4)) (nI (g 5)) (nI (g 6)) := (hf_51 _ (by omega)).trans hg_1
      have hc_55 : σ_52 26 = q_rn G 3 4 (fun j => some (25 + 10 + 2 * j)) := (hf_51 _ (by omega)).trans hg_2
      have hc_56 : σ_52 27 = o6 G (27) (nI (g 1)) (nI (g 2)) := (hf_51 _ (by omega)).trans hg_3
      have hc_57 : σ_52 (27 + 1) = q_an G 8 kd := (hf_51 _ (by omega)).trans hg_4
      have hc_58 : σ_52 (27 + 2) = q_an G 8 fi := (hf_51 _ (by omega)).trans hg_5
      have hc_59 : σ_52 (27 + 3) = q_an G 8 se := (hf_51 _ (by omega)).trans hg_6
      have hc_60 : σ_52 (27 + 4) = q_an G 8 tf := (hf_51 _ (by omega)).trans hg_7
      have hc_61 : σ_52 (27 + 5) = q_an G 8 ts := (hf_51 _ (by omega)).trans hg_8
      have hc_62 : σ_52 (25 + 8) = q_an G 10 ac := (hf_51 _ (by omega)).trans hg_9
      have hc_63 : σ_52 (25 + 9) = q_an G 100 tu := (hf_51 _ (by omega)).trans hg_10
      have hc_64 : ∀ j9 : Nat, j9 < g 0 → σ_52 (25 + 10 + 2 * j9) = o7 G (25 + 10 + 2 * j9) (lN (nm j9)) (lN (on j9)) (nI (s_rule g j9 18)) (nI (s_rule g j9 19)) (nI (s_rule g j9 20)) := fun j9 hj0 => (hf_51 _ (by omega)).trans (hc_13 j9 (by omega))
      have hc_65 : ∀ j9 : Nat, j9 < g 0 → σ_52 (25 + 10 + 2 * j9 + 1) = q_an G 5 (bm j9) := fun j9 hj0 => (hf_51 _ (by omega)).trans (hc_14 j9 (by omega))
      have hc_66 : σ_52 43 = o4 G (43)  := (hf_51 _ (by omega)).trans hm_15
      have hc_67 : σ_52 44 = q_rn G 4 4 (fun j => some (46 + 8 * j)) := (hf_51 _ (by omega)).trans hm_16
      have hc_68 : σ_52 45 = o1 G (h0) (h1) (h2) (h3) (h4) := (hf_51 _ (by omega)).trans hm_17
      obtain ⟨ho9, hsl9, hmo9, hnb9, hbm9, hn09, hst9, hva9, hgv9, hgs9, hlm9, hvs9⟩ := htz2
      refine A_getf (v := .int (nI (gvB_28 r1))) hg fl_RX10_229 dX10_rule_105 (hc_43 r1 (by omega)) (by omega) rfl ?_
      rw [hQ]
      exact A_ireturn hg (by decide) (by decide) rfl dX10_rule_108 ⟨rfl, ⟨r1, 5, (by rw [hgv9]; rfl), rfl, hrl9, (x_swN (by decide) hx15), (by decide), ⟨(h0), (h1), (h2), (h3), (h4), flB_26, n0B_27, gvB_28, gsB_29, lmB_30, vsB_31, nmB_32, onB_33, slB_34, moB_35, nbB_36, bmB_37, skB_38, s2B_39, vaB_40, spB_41, rfB_42, hc_66, hc_67, hc_68, hc_43, hc_44, hc_45, hc_46, hc_47, hc_48, hc_49, hc_50, hTI2⟩, (fun i hi => (hf_51 i (by omega)))⟩⟩
    | 6, _, hx15 =>
      refine A_tableIn (tgt := 109) (off := 94) hg dX10_rule_15 (by rw [hx15]; decide) (by rw [hx15]; decide) (by rw [hx15]; rfl) (by decide) ?_
      refine A_aload_n hg dX10_rule_109 rfl rfl ?_
      refine A_iload_n hg dX10_rule_110 rfl rfl ?_
      refine A_hV (kc2 := 1) (ks2 := 6) (As := [.int (nI (r1))]) (rest := []) hg lk_RX10_225 in_X10_fittedTable se_X10_fittedTable rfl dX10_rule_111 ⟨by decide, by decide⟩ rfl rfl ⟨by decide, by decide⟩ hc0 (by omega) rfl rfl (Nat.le_of_ble_eq_true rfl) (c_X10_fittedTable G ex n σ z1 z2 z3 g nm on bm flA n0A gvA gsA lmA vsA nmA onA slA moA nbA bmA skA s2A vaA spA rfA r1 hc0 hm_15 hm_16 hg_1 hg_2 hc_13 hc_14 hm_18 hm_19 hm_20 hm_21 hm_22 hm_23 hm_24 hm_25 (by omega) hgw hrs hTI hrl9) ?_
      rintro _ σ_95 ⟨flB_69, n0B_70, gvB_71, gsB_72, lmB_73, vsB_74, nmB_75, onB_76, slB_77, moB_78, nbB_79, bmB_80, skB_81, s2B_82, vaB_83, spB_84, rfB_85, rfl, hTI2, htz2, hc_86, hc_87, hc_88, hc_89, hc_90, hc_91, hc_92, hc_93, hf_94⟩
      refine (?_ : AJ G K Q 1 6 ex n 114 [some (.ref (q_h G + 0)), some (.int (nI (r1))), some (.int (x)), some (.ref (q_h G + (25 + 10 + 2 * r1)))] [.ref (q_h G + (46 + 8 * r1))] σ_95)
      have hc_96 : σ_95 0 = o10 G (z1) (z2) (z3) := (hf_94 _ (by omega)).trans hc0
      have hc_97 : σ_95 25 = o0 G (25) (nI (g 0)) (nI (g 3)) (nI (g 4)) (nI (g 5)) (nI (g 6)) := (hf_94 _ (by omega)).trans hg_1
      have hc_98 : σ_95 26 = q_rn G 3 4 (fun j => some (25 + 10 + 2 * j)) := (hf_94 _ (by omega)).trans hg_2
      have hc_99 : σ_95 27 = o6 G (27) (nI (g 1)) (nI (g 2)) := (hf_94 _ (by omega)).trans hg_3
      have hc_100 : σ_95 (27 + 1) = q_an G 8 kd := (hf_94 _ (by omega)).trans hg_4
      have hc_101 : σ_95 (27 + 2) = q_an G 8 fi := (hf_94 _ (by omega)).trans hg_5
      have hc_102 : σ_95 (27 + 3) = q_an G 8 se := (hf_94 _ (by omega)).trans hg_6
      have hc_103 : σ_95 (27 + 4) = q_an G 8 tf := (hf_94 _ (by omega)).trans hg_7
      have hc_104 : σ_95 (27 + 5) = q_an G 8 ts := (hf_94 _ (by omega)).trans hg_8
      have hc_105 : σ_95 (25 + 8) = q_an G 10 ac := (hf_94 _ (by omega)).trans hg_9
      have hc_106 : σ_95 (25 + 9) = q_an G 100 tu := (hf_94 _ (by omega)).trans hg_10
      have hc_107 : ∀ j9 : Nat, j9 < g 0 → σ_95 (25 + 10 + 2 * j9) = o7 G (25 + 10 + 2 * j9) (lN (nm j9)) (lN (on j9)) (nI (s_rule g j9 18)) (nI (s_rule g j9 19)) (nI (s_rule g j9 20)) := fun j9 hj0 => (hf_94 _ (by omega)).trans (hc_13 j9 (by omega))
      have hc_108 : ∀ j9 : Nat, j9 < g 0 → σ_95 (25 + 10 + 2 * j9 + 1) = q_an G 5 (bm j9) := fun j9 hj0 => (hf_94 _ (by omega)).trans (hc_14 j9 (by omega))
      have hc_109 : σ_95 43 = o4 G (43)  := (hf_94 _ (by omega)).trans hm_15
      have hc_110 : σ_95 44 = q_rn G 4 4 (fun j => some (46 + 8 * j)) := (hf_94 _ (by omega)).trans hm_16
      have hc_111 : σ_95 45 = o1 G (h0) (h1) (h2) (h3) (h4) := (hf_94 _ (by omega)).trans hm_17
      obtain ⟨ho9, hsl9, hmo9, hnb9, hbm9, hn09, hst9, hva9, hgv9, hgs9, hlm9, hvs9⟩ := htz2
      refine A_getf (v := .int (nI (lmB_73 r1))) hg fl_RX10_232 dX10_rule_114 (hc_86 r1 (by omega)) (by omega) rfl ?_
      rw [hQ]
      exact A_ireturn hg (by decide) (by decide) rfl dX10_rule_117 ⟨rfl, ⟨r1, 6, (by rw [hlm9]; rfl), rfl, hrl9, (x_swN (by decide) hx15), (by decide), ⟨(h0), (h1), (h2), (h3), (h4), flB_69, n0B_70, gvB_71, gsB_72, lmB_73, vsB_74, nmB_75, onB_76, slB_77, moB_78, nbB_79, bmB_80, skB_81, s2B_82, vaB_83, spB_84, rfB_85, hc_109, hc_110, hc_111, hc_86, hc_87, hc_88, hc_89, hc_90, hc_91, hc_92, hc_93, hTI2⟩, (fun i hi => (hf_94 i (by omega)))⟩⟩
    | 7, _, hx15 =>
      refine A_tableIn (tgt := 118) (off := 103) hg dX10_rule_15 (by rw [hx15]; decide) (by rw [hx15]; decide) (by rw [hx15]; rfl) (by decide) ?_
      refine A_aload_n hg dX10_rule_118 rfl rfl ?_
      refine A_getf (v := .ref (q_h G + 25)) hg fl_RX10_40 dX10_rule_119 hc0 (by omega) rfl ?_
      refine A_getf (v := .ref (q_h G + 27)) hg fl_RX10_118 dX10_rule_122 hg_1 (by omega) rfl ?_
      refine A_iload_n hg dX10_rule_125 rfl rfl ?_
      refine A_eV (kc2 := 1) (ks2 := 6) (As := [.int (nI (r1))]) (rest := []) hg lk_RX10_235 in_X6_boardsWith se_X6_boardsWith rfl dX10_rule_126 ⟨by decide, by decide⟩ rfl rfl ⟨by decide, by decide⟩ hg_3 (by omega) rfl rfl (Nat.le_of_ble_eq_true rfl) (c_X6_boardsWith G ex n σ 27 (g 1) (g 2) kd r1 hg_3 hg_4 (by omega) (by omega) (fun j hj => by have h1 := (hxp.1 j hj).1; have h2 := (hgw.2.2.2.2.2.2.1 j hj).1; omega) (by omega)) ?_
      rw [hQ]
      exact A_ireturn hg (by decide) (by decide) rfl dX10_rule_129 ⟨rfl, ⟨r1, 7, (by show _ = some (Value.int (nI (s_cnt (fun b => g (133 + 5 * b + 0) == r1) (g 1)))); rw [s_cnt_congr (P := fun j => kd j == r1) (Q := fun b => g (133 + 5 * b + 0) == r1) (fun j hj => by show (kd j == r1) = _; rw [(hxp.1 j hj).1])]), rfl, hrl9, (x_swN (by decide) hx15), (by decide), ⟨(h0), (h1), (h2), (h3), (h4), flA, n0A, gvA, gsA, lmA, vsA, nmA, onA, slA, moA, nbA, bmA, skA, s2A, vaA, spA, rfA, hm_15, hm_16, hm_17, hm_18, hm_19, hm_20, hm_21, hm_22, hm_23, hm_24, hm_25, hTI⟩, (fun _ _ => rfl)⟩⟩
    | 8, _, hx15 =>
      refine A_tableIn (tgt := 130) (off := 115) hg dX10_rule_15 (by rw [hx15]; decide) (by rw [hx15]; decide) (by rw [hx15]; rfl) (by decide) ?_
      refine A_aload_n hg dX10_rule_130 rfl rfl ?_
      refine A_iload_n hg dX10_rule_131 rfl rfl ?_
      refine A_hV (kc2 := 1) (ks2 := 6) (As := [.int (nI (r1))]) (rest := []) hg lk_RX10_225 in_X10_fittedTable se_X10_fittedTable rfl dX10_rule_132 ⟨by decide, by decide⟩ rfl rfl ⟨by decide, by decide⟩ hc0 (by omega) rfl rfl (Nat.le_of_ble_eq_true rfl) (c_X10_fittedTable G ex n σ z1 z2 z3 g nm on bm flA n0A gvA gsA lmA vsA nmA onA slA moA nbA bmA skA s2A vaA spA rfA r1 hc0 hm_15 hm_16 hg_1 hg_2 hc_13 hc_14 hm_18 hm_19 hm_20 hm_21 hm_22 hm_23 hm_24 hm_25 (by omega) hgw hrs hTI hrl9) ?_
      rintro _ σ_138 ⟨flB_112, n0B_113, gvB_114, gsB_115, lmB_116, vsB_117, nmB_118, onB_119, slB_120, moB_121, nbB_122, bmB_123, skB_124, s2B_125, vaB_126, spB_127, rfB_128, rfl, hTI2, htz2, hc_129, hc_130, hc_131, hc_132, hc_133, hc_134, hc_135, hc_136, hf_137⟩
      refine (?_ : AJ G K Q 1 6 ex n 135 [some (.ref (q_h G + 0)), some (.int (nI (r1))), some (.int (x)), some (.ref (q_h G + (25 + 10 + 2 * r1)))] [.ref (q_h G + (46 + 8 * r1))] σ_138)
      have hc_139 : σ_138 0 = o10 G (z1) (z2) (z3) := (hf_137 _ (by omega)).trans hc0
      have hc_140 : σ_138 25 = o0 G (25) (nI (g 0)) (nI (g 3)) (nI (g 4)) (nI (g 5)) (nI (g 6)) := (hf_137 _ (by omega)).trans hg_1
      have hc_141 : σ_138 26 = q_rn G 3 4 (fun j => some (25 + 10 + 2 * j)) := (hf_137 _ (by omega)).trans hg_2
      have hc_142 : σ_138 27 = o6 G (27) (nI (g 1)) (nI (g 2)) := (hf_137 _ (by omega)).trans hg_3
      have hc_143 : σ_138 (27 + 1) = q_an G 8 kd := (hf_137 _ (by omega)).trans hg_4
      have hc_144 : σ_138 (27 + 2) = q_an G 8 fi := (hf_137 _ (by omega)).trans hg_5
      have hc_145 : σ_138 (27 + 3) = q_an G 8 se := (hf_137 _ (by omega)).trans hg_6
      have hc_146 : σ_138 (27 + 4) = q_an G 8 tf := (hf_137 _ (by omega)).trans hg_7
      have hc_147 : σ_138 (27 + 5) = q_an G 8 ts := (hf_137 _ (by omega)).trans hg_8
      have hc_148 : σ_138 (25 + 8) = q_an G 10 ac := (hf_137 _ (by omega)).trans hg_9
      have hc_149 : σ_138 (25 + 9) = q_an G 100 tu := (hf_137 _ (by omega)).trans hg_10
      have hc_150 : ∀ j9 : Nat, j9 < g 0 → σ_138 (25 + 10 + 2 * j9) = o7 G (25 + 10 + 2 * j9) (lN (nm j9)) (lN (on j9)) (nI (s_rule g j9 18)) (nI (s_rule g j9 19)) (nI (s_rule g j9 20)) := fun j9 hj0 => (hf_137 _ (by omega)).trans (hc_13 j9 (by omega))
      have hc_151 : ∀ j9 : Nat, j9 < g 0 → σ_138 (25 + 10 + 2 * j9 + 1) = q_an G 5 (bm j9) := fun j9 hj0 => (hf_137 _ (by omega)).trans (hc_14 j9 (by omega))
      have hc_152 : σ_138 43 = o4 G (43)  := (hf_137 _ (by omega)).trans hm_15
      have hc_153 : σ_138 44 = q_rn G 4 4 (fun j => some (46 + 8 * j)) := (hf_137 _ (by omega)).trans hm_16
      have hc_154 : σ_138 45 = o1 G (h0) (h1) (h2) (h3) (h4) := (hf_137 _ (by omega)).trans hm_17
      obtain ⟨ho9, hsl9, hmo9, hnb9, hbm9, hn09, hst9, hva9, hgv9, hgs9, hlm9, hvs9⟩ := htz2
      refine A_getf (v := .int (nI (gsB_115 r1))) hg fl_RX10_239 dX10_rule_135 (hc_129 r1 (by omega)) (by omega) rfl ?_
      rw [hQ]
      exact A_ireturn hg (by decide) (by decide) rfl dX10_rule_138 ⟨rfl, ⟨r1, 8, (by rw [hgs9]; rfl), rfl, hrl9, (x_swN (by decide) hx15), (by decide), ⟨(h0), (h1), (h2), (h3), (h4), flB_112, n0B_113, gvB_114, gsB_115, lmB_116, vsB_117, nmB_118, onB_119, slB_120, moB_121, nbB_122, bmB_123, skB_124, s2B_125, vaB_126, spB_127, rfB_128, hc_152, hc_153, hc_154, hc_129, hc_130, hc_131, hc_132, hc_133, hc_134, hc_135, hc_136, hTI2⟩, (fun i hi => (hf_137 i (by omega)))⟩⟩
    | k + 9, h, _ => exact absurd h (by omega)
set_option maxRecDepth 100000 in
set_option maxHeartbeats 4000000 in
theorem c_X10_share (G : GL) (ex : Bool) (n : Nat) (σ : Nat → va_E) (z1 : Int32) (z2 : Int32) (z3 : Int32) (g : Nat → Nat) (r : Int32) (hc0 : σ 0 = o10 G (z1) (z2) (z3)) (hn9 : 279 ≤ n) (hG : x_gm G σ 25 g) (hM : x_mx G σ) (hfd : q_fdn) : CtX G yX10_share cX10_share 2 (some .float) ⟨7, 1, 6, 119⟩ [.ref (q_h G + 0), .int (r)] ex n σ (fun v9 σ2 => ∃ (r1 : Nat), v9 = some (.float (FP.fdiv (FP.i2f (nI (s_lzc (s_rule g r1) 1681))) 1154621440)) ∧ (r = nI r1) ∧ (r1 < g 0) ∧ (x_mx G σ2) ∧ (∀ i : Nat, i < 43 ∨ 77 < i → σ2 i = σ i)) (fun E σ2 => σ2 = σ ∧ ((E = "java/lang/IndexOutOfBoundsException" ∧ (∀ j : Nat, j < g 0 → r = nI j → False)))) := by
  refine q_enter [some (.ref (q_h G + 0)), some (.int (r))] (by decide) (Nat.le_of_ble_eq_true rfl) rfl ?_
  intro K hg
  obtain ⟨Q, hQ⟩ : ∃ Q, Q = q_Q G K ex n 1 6 (fun v9 n' σ' => n' = n ∧ (fun v9 σ2 => ∃ (r1 : Nat), v9 = some (.float (FP.fdiv (FP.i2f (nI (s_lzc (s_rule g r1) 1681))) 1154621440)) ∧ (r = nI r1) ∧ (r1 < g 0) ∧ (x_mx G σ2) ∧ (∀ i : Nat, i < 43 ∨ 77 < i → σ2 i = σ i)) v9 σ') (fun E σ2 => σ2 = σ ∧ ((E = "java/lang/IndexOutOfBoundsException" ∧ (∀ j : Nat, j < g 0 → r = nI j → False)))) := ⟨_, rfl⟩
  refine (?_ : AJ G K (q_Q G K ex n 1 6 _ _) 0 0 ex n 0 _ _ σ)
  rw [← hQ]
  obtain ⟨kd, fi, se, tf, ts, ac, tu, nm, on, sl, mo, nb, bm, ⟨hg_1, hg_2, hg_3, hg_4, hg_5, hg_6, hg_7, hg_8, hg_9, hg_10, hg_11, hg_12⟩, hgr⟩ := hG
  obtain ⟨hgw, hxp, htp, hrl, hac, htu⟩ := hgr
  have hrs := x_rl_rs hrl
  have hg0 := hgw.1
  have hg1 := hgw.2.1
  have hg2 := hgw.2.2.1
  have hg3 := hgw.2.2.2.1
  have hg6 := hgw.2.2.2.2.1
  have hnp : s_np g = g 1 + g 2 := rfl
  have hc_13 : ∀ j9 : Nat, j9 < g 0 → σ (25 + 10 + 2 * j9) = o7 G (25 + 10 + 2 * j9) (lN (nm j9)) (lN (on j9)) (nI (s_rule g j9 18)) (nI (s_rule g j9 19)) (nI (s_rule g j9 20)) := fun j9 hj => (hg_11 j9 (by omega)).trans (by rw [(hrl j9 hj).2.2.2.1, (hrl j9 hj).2.2.2.2.1, (hrl j9 hj).2.2.2.2.2.1])
  have hc_14 : ∀ j9 : Nat, j9 < g 0 → σ (25 + 10 + 2 * j9 + 1) = q_an G 5 (bm j9) := fun j9 hj => hg_12 j9 (by omega)
  obtain ⟨h0, h1, h2, h3, h4, flA, n0A, gvA, gsA, lmA, vsA, nmA, onA, slA, moA, nbA, bmA, skA, s2A, vaA, spA, rfA, hm_15, hm_16, hm_17, hm_18, hm_19, hm_20, hm_21, hm_22, hm_23, hm_24, hm_25, hTI⟩ := hM
  refine A_aload_n hg dX10_share_0 rfl rfl ?_
  refine A_iload_n hg dX10_share_1 rfl rfl ?_
  refine A_pVX (kc2 := 1) (ks2 := 6) (As := [.int (r)]) (rest := []) hg lk_RX10_195 in_X10_needRule se_X10_needRule rfl dX10_share_2 ⟨by decide, by decide⟩ rfl rfl ⟨by decide, by decide⟩ hc0 (by omega) rfl rfl (Nat.le_of_ble_eq_true rfl) (c_X10_needRule G ex n σ z1 z2 z3 (g 0) (g 3) (g 4) (g 5) (g 6) r hc0 hg_1 (by omega) (by omega)) (fun E σx hx => by rw [hQ]; exact A_out hg (by decide) (by decide) (by obtain ⟨hs, hE, hx⟩ := hx; exact ⟨hs, ⟨hE, hx⟩⟩)) ?_
  rintro _ ⟨r1, rfl, hre, hrl9⟩
  refine (?_ : AJ G K Q 1 6 ex n 5 [some (.ref (q_h G + 0)), some (.int (r))] [] σ)
  subst hre
  have hu := hgw.2.2.2.2.2.1 r1 hrl9
  have hrr := hrl r1 hrl9
  have hon := hrr.2.1
  refine A_aload_n hg dX10_share_5 rfl rfl ?_
  refine A_iload_n hg dX10_share_6 rfl rfl ?_
  refine A_hV (kc2 := 1) (ks2 := 6) (As := [.int (nI (r1))]) (rest := []) hg lk_RX10_225 in_X10_fittedTable se_X10_fittedTable rfl dX10_share_7 ⟨by decide, by decide⟩ rfl rfl ⟨by decide, by decide⟩ hc0 (by omega) rfl rfl (Nat.le_of_ble_eq_true rfl) (c_X10_fittedTable G ex n σ z1 z2 z3 g nm on bm flA n0A gvA gsA lmA vsA nmA onA slA moA nbA bmA skA s2A vaA spA rfA r1 hc0 hm_15 hm_16 hg_1 hg_2 hc_13 hc_14 hm_18 hm_19 hm_20 hm_21 hm_22 hm_23 hm_24 hm_25 (by omega) hgw hrs hTI hrl9) ?_
  rintro _ σ_52 ⟨flB_26, n0B_27, gvB_28, gsB_29, lmB_30, vsB_31, nmB_32, onB_33, slB_34, moB_35, nbB_36, bmB_37, skB_38, s2B_39, vaB_40, spB_41, rfB_42, rfl, hTI2, htz2, hc_43, hc_44, hc_45, hc_46, hc_47, hc_48, hc_49, hc_50, hf_51⟩
  refine (?_ : AJ G K Q 1 6 ex n 10 [some (.ref (q_h G + 0)), some (.int (nI (r1)))] [.ref (q_h G + (46 + 8 * r1))] σ_52)
  have hc_53 : σ_52 0 = o10 G (z1) (z2) (z3) := (hf_51 _ (by omega)).trans hc0
  have hc_54 : σ_52 25 = o0 G (25) (nI (g 0)) (nI (g 3)) (nI (g 4)) (nI (g 5)) (nI (g 6)) := (hf_51 _ (by omega)).trans hg_1
  have hc_55 : σ_52 26 = q_rn G 3 4 (fun j => some (25 + 10 + 2 * j)) := (hf_51 _ (by omega)).trans hg_2
  have hc_56 : σ_52 27 = o6 G (27) (nI (g 1)) (nI (g 2)) := (hf_51 _ (by omega)).trans hg_3
  have hc_57 : σ_52 (27 + 1) = q_an G 8 kd := (hf_51 _ (by omega)).trans hg_4
  have hc_58 : σ_52 (27 + 2) = q_an G 8 fi := (hf_51 _ (by omega)).trans hg_5
  have hc_59 : σ_52 (27 + 3) = q_an G 8 se := (hf_51 _ (by omega)).trans hg_6
  have hc_60 : σ_52 (27 + 4) = q_an G 8 tf := (hf_51 _ (by omega)).trans hg_7
  have hc_61 : σ_52 (27 + 5) = q_an G 8 ts := (hf_51 _ (by omega)).trans hg_8
  have hc_62 : σ_52 (25 + 8) = q_an G 10 ac := (hf_51 _ (by omega)).trans hg_9
  have hc_63 : σ_52 (25 + 9) = q_an G 100 tu := (hf_51 _ (by omega)).trans hg_10
  have hc_64 : ∀ j9 : Nat, j9 < g 0 → σ_52 (25 + 10 + 2 * j9) = o7 G (25 + 10 + 2 * j9) (lN (nm j9)) (lN (on j9)) (nI (s_rule g j9 18)) (nI (s_rule g j9 19)) (nI (s_rule g j9 20)) := fun j9 hj0 => (hf_51 _ (by omega)).trans (hc_13 j9 (by omega))
  have hc_65 : ∀ j9 : Nat, j9 < g 0 → σ_52 (25 + 10 + 2 * j9 + 1) = q_an G 5 (bm j9) := fun j9 hj0 => (hf_51 _ (by omega)).trans (hc_14 j9 (by omega))
  have hc_66 : σ_52 43 = o4 G (43)  := (hf_51 _ (by omega)).trans hm_15
  have hc_67 : σ_52 44 = q_rn G 4 4 (fun j => some (46 + 8 * j)) := (hf_51 _ (by omega)).trans hm_16
  have hc_68 : σ_52 45 = o1 G (h0) (h1) (h2) (h3) (h4) := (hf_51 _ (by omega)).trans hm_17
  obtain ⟨ho9, hsl9, hmo9, hnb9, hbm9, hn09, hst9, hva9, hgv9, hgs9, hlm9, hvs9⟩ := htz2
  refine A_getf (v := .int (nI (lmB_30 r1))) hg fl_RX10_232 dX10_share_10 (hc_43 r1 (by omega)) (by omega) rfl ?_
  refine A_i2f hg dX10_share_13 ?_
  refine A_ldcwF (v := 1154621440) hg dX10_share_14 (q_mt 1238 (by decide +kernel)) ?_
  refine A_fdiv hg dX10_share_17 (hfd _) ?_
  rw [hQ]
  exact A_freturn hg (by decide) (by decide) rfl dX10_share_18 ⟨rfl, ⟨r1, (congrArg (fun z => some (Value.float (FP.fdiv (FP.i2f (nI z)) 1154621440))) (hlm9.trans rfl)), rfl, hrl9, ⟨(h0), (h1), (h2), (h3), (h4), flB_26, n0B_27, gvB_28, gsB_29, lmB_30, vsB_31, nmB_32, onB_33, slB_34, moB_35, nbB_36, bmB_37, skB_38, s2B_39, vaB_40, spB_41, rfB_42, hc_66, hc_67, hc_68, hc_43, hc_44, hc_45, hc_46, hc_47, hc_48, hc_49, hc_50, hTI2⟩, (fun i hi => (hf_51 i (by omega)))⟩⟩
theorem x_vs_eq (u : Nat → Nat) : ∀ m : Nat, x_tc.x_sum (s_val (s_A u)) m = s_vsum u m
  | 0 => rfl
  | m + 1 => by show x_tc.x_sum (s_val (s_A u)) m + s_val (s_A u) m = s_vsum u m + s_V u m; rw [x_vs_eq u m]; rfl
set_option maxRecDepth 100000 in
set_option maxHeartbeats 4000000 in
theorem c_X10_meanValue (G : GL) (ex : Bool) (n : Nat) (σ : Nat → va_E) (z1 : Int32) (z2 : Int32) (z3 : Int32) (g : Nat → Nat) (r : Int32) (hc0 : σ 0 = o10 G (z1) (z2) (z3)) (hn9 : 279 ≤ n) (hG : x_gm G σ 25 g) (hM : x_mx G σ) (hdd : q_ddn) : CtX G yX10_meanValue cX10_meanValue 2 (some .double) ⟨7, 1, 6, 119⟩ [.ref (q_h G + 0), .int (r)] ex n σ (fun v9 σ2 => ∃ (r1 : Nat), v9 = some (.double (FP.ddiv (FP.i2d (nI (s_vsum (s_rule g r1) 1681))) 4655107931631517696)) ∧ (r = nI r1) ∧ (r1 < g 0) ∧ (x_mx G σ2) ∧ (∀ i : Nat, i < 43 ∨ 77 < i → σ2 i = σ i)) (fun E σ2 => σ2 = σ ∧ ((E = "java/lang/IndexOutOfBoundsException" ∧ (∀ j : Nat, j < g 0 → r = nI j → False)))) := by
  refine q_enter [some (.ref (q_h G + 0)), some (.int (r))] (by decide) (Nat.le_of_ble_eq_true rfl) rfl ?_
  intro K hg
  obtain ⟨Q, hQ⟩ : ∃ Q, Q = q_Q G K ex n 1 6 (fun v9 n' σ' => n' = n ∧ (fun v9 σ2 => ∃ (r1 : Nat), v9 = some (.double (FP.ddiv (FP.i2d (nI (s_vsum (s_rule g r1) 1681))) 4655107931631517696)) ∧ (r = nI r1) ∧ (r1 < g 0) ∧ (x_mx G σ2) ∧ (∀ i : Nat, i < 43 ∨ 77 < i → σ2 i = σ i)) v9 σ') (fun E σ2 => σ2 = σ ∧ ((E = "java/lang/IndexOutOfBoundsException" ∧ (∀ j : Nat, j < g 0 → r = nI j → False)))) := ⟨_, rfl⟩
  refine (?_ : AJ G K (q_Q G K ex n 1 6 _ _) 0 0 ex n 0 _ _ σ)
  rw [← hQ]
  obtain ⟨kd, fi, se, tf, ts, ac, tu, nm, on, sl, mo, nb, bm, ⟨hg_1, hg_2, hg_3, hg_4, hg_5, hg_6, hg_7, hg_8, hg_9, hg_10, hg_11, hg_12⟩, hgr⟩ := hG
  obtain ⟨hgw, hxp, htp, hrl, hac, htu⟩ := hgr
  have hrs := x_rl_rs hrl
  have hg0 := hgw.1
  have hg1 := hgw.2.1
  have hg2 := hgw.2.2.1
  have hg3 := hgw.2.2.2.1
  have hg6 := hgw.2.2.2.2.1
  have hnp : s_np g = g 1 + g 2 := rfl
  have hc_13 : ∀ j9 : Nat, j9 < g 0 → σ (25 + 10 + 2 * j9) = o7 G (25 + 10 + 2 * j9) (lN (nm j9)) (lN (on j9)) (nI (s_rule g j9 18)) (nI (s_rule g j9 19)) (nI (s_rule g j9 20)) := fun j9 hj => (hg_11 j9 (by omega)).trans (by rw [(hrl j9 hj).2.2.2.1, (hrl j9 hj).2.2.2.2.1, (hrl j9 hj).2.2.2.2.2.1])
  have hc_14 : ∀ j9 : Nat, j9 < g 0 → σ (25 + 10 + 2 * j9 + 1) = q_an G 5 (bm j9) := fun j9 hj => hg_12 j9 (by omega)
  obtain ⟨h0, h1, h2, h3, h4, flA, n0A, gvA, gsA, lmA, vsA, nmA, onA, slA, moA, nbA, bmA, skA, s2A, vaA, spA, rfA, hm_15, hm_16, hm_17, hm_18, hm_19, hm_20, hm_21, hm_22, hm_23, hm_24, hm_25, hTI⟩ := hM
  refine A_aload_n hg dX10_meanValue_0 rfl rfl ?_
  refine A_iload_n hg dX10_meanValue_1 rfl rfl ?_
  refine A_pVX (kc2 := 1) (ks2 := 6) (As := [.int (r)]) (rest := []) hg lk_RX10_195 in_X10_needRule se_X10_needRule rfl dX10_meanValue_2 ⟨by decide, by decide⟩ rfl rfl ⟨by decide, by decide⟩ hc0 (by omega) rfl rfl (Nat.le_of_ble_eq_true rfl) (c_X10_needRule G ex n σ z1 z2 z3 (g 0) (g 3) (g 4) (g 5) (g 6) r hc0 hg_1 (by omega) (by omega)) (fun E σx hx => by rw [hQ]; exact A_out hg (by decide) (by decide) (by obtain ⟨hs, hE, hx⟩ := hx; exact ⟨hs, ⟨hE, hx⟩⟩)) ?_
  rintro _ ⟨r1, rfl, hre, hrl9⟩
  refine (?_ : AJ G K Q 1 6 ex n 5 [some (.ref (q_h G + 0)), some (.int (r))] [] σ)
  subst hre
  have hu := hgw.2.2.2.2.2.1 r1 hrl9
  have hrr := hrl r1 hrl9
  have hon := hrr.2.1
  refine A_aload_n hg dX10_meanValue_5 rfl rfl ?_
  refine A_iload_n hg dX10_meanValue_6 rfl rfl ?_
  refine A_hV (kc2 := 1) (ks2 := 6) (As := [.int (nI (r1))]) (rest := []) hg lk_RX10_225 in_X10_fittedTable se_X10_fittedTable rfl dX10_meanValue_7 ⟨by decide, by decide⟩ rfl rfl ⟨by decide, by decide⟩ hc0 (by omega) rfl rfl (Nat.le_of_ble_eq_true rfl) (c_X10_fittedTable G ex n σ z1 z2 z3 g nm on bm flA n0A gvA gsA lmA vsA nmA onA slA moA nbA bmA skA s2A vaA spA rfA r1 hc0 hm_15 hm_16 hg_1 hg_2 hc_13 hc_14 hm_18 hm_19 hm_20 hm_21 hm_22 hm_23 hm_24 hm_25 (by omega) hgw hrs hTI hrl9) ?_
  rintro _ σ_52 ⟨flB_26, n0B_27, gvB_28, gsB_29, lmB_30, vsB_31, nmB_32, onB_33, slB_34, moB_35, nbB_36, bmB_37, skB_38, s2B_39, vaB_40, spB_41, rfB_42, rfl, hTI2, htz2, hc_43, hc_44, hc_45, hc_46, hc_47, hc_48, hc_49, hc_50, hf_51⟩
  refine (?_ : AJ G K Q 1 6 ex n 10 [some (.ref (q_h G + 0)), some (.int (nI (r1)))] [.ref (q_h G + (46 + 8 * r1))] σ_52)
  have hc_53 : σ_52 0 = o10 G (z1) (z2) (z3) := (hf_51 _ (by omega)).trans hc0
  have hc_54 : σ_52 25 = o0 G (25) (nI (g 0)) (nI (g 3)) (nI (g 4)) (nI (g 5)) (nI (g 6)) := (hf_51 _ (by omega)).trans hg_1
  have hc_55 : σ_52 26 = q_rn G 3 4 (fun j => some (25 + 10 + 2 * j)) := (hf_51 _ (by omega)).trans hg_2
  have hc_56 : σ_52 27 = o6 G (27) (nI (g 1)) (nI (g 2)) := (hf_51 _ (by omega)).trans hg_3
  have hc_57 : σ_52 (27 + 1) = q_an G 8 kd := (hf_51 _ (by omega)).trans hg_4
  have hc_58 : σ_52 (27 + 2) = q_an G 8 fi := (hf_51 _ (by omega)).trans hg_5
  have hc_59 : σ_52 (27 + 3) = q_an G 8 se := (hf_51 _ (by omega)).trans hg_6
  have hc_60 : σ_52 (27 + 4) = q_an G 8 tf := (hf_51 _ (by omega)).trans hg_7
  have hc_61 : σ_52 (27 + 5) = q_an G 8 ts := (hf_51 _ (by omega)).trans hg_8
  have hc_62 : σ_52 (25 + 8) = q_an G 10 ac := (hf_51 _ (by omega)).trans hg_9
  have hc_63 : σ_52 (25 + 9) = q_an G 100 tu := (hf_51 _ (by omega)).trans hg_10
  have hc_64 : ∀ j9 : Nat, j9 < g 0 → σ_52 (25 + 10 + 2 * j9) = o7 G (25 + 10 + 2 * j9) (lN (nm j9)) (lN (on j9)) (nI (s_rule g j9 18)) (nI (s_rule g j9 19)) (nI (s_rule g j9 20)) := fun j9 hj0 => (hf_51 _ (by omega)).trans (hc_13 j9 (by omega))
  have hc_65 : ∀ j9 : Nat, j9 < g 0 → σ_52 (25 + 10 + 2 * j9 + 1) = q_an G 5 (bm j9) := fun j9 hj0 => (hf_51 _ (by omega)).trans (hc_14 j9 (by omega))
  have hc_66 : σ_52 43 = o4 G (43)  := (hf_51 _ (by omega)).trans hm_15
  have hc_67 : σ_52 44 = q_rn G 4 4 (fun j => some (46 + 8 * j)) := (hf_51 _ (by omega)).trans hm_16
  have hc_68 : σ_52 45 = o1 G (h0) (h1) (h2) (h3) (h4) := (hf_51 _ (by omega)).trans hm_17
  obtain ⟨ho9, hsl9, hmo9, hnb9, hbm9, hn09, hst9, hva9, hgv9, hgs9, hlm9, hvs9⟩ := htz2
  refine A_getf (v := .int (nI (vsB_31 r1))) hg fl_RX10_379 dX10_meanValue_10 (hc_43 r1 (by omega)) (by omega) rfl ?_
  refine A_i2d hg dX10_meanValue_13 ?_
  refine A_ldc2d (v := 4655107931631517696) hg dX10_meanValue_14 (q_mt 1246 (by decide +kernel)) ?_
  refine A_ddiv hg dX10_meanValue_17 (hdd _) ?_
  rw [hQ]
  exact A_dreturn hg (by decide) (by decide) rfl dX10_meanValue_18 ⟨rfl, ⟨r1, (congrArg (fun z => some (Value.double (FP.ddiv (FP.i2d (nI z)) 4655107931631517696))) (hvs9.trans (x_vs_eq _ _))), rfl, hrl9, ⟨(h0), (h1), (h2), (h3), (h4), flB_26, n0B_27, gvB_28, gsB_29, lmB_30, vsB_31, nmB_32, onB_33, slB_34, moB_35, nbB_36, bmB_37, skB_38, s2B_39, vaB_40, spB_41, rfB_42, hc_66, hc_67, hc_68, hc_43, hc_44, hc_45, hc_46, hc_47, hc_48, hc_49, hc_50, hTI2⟩, (fun i hi => (hf_51 i (by omega)))⟩⟩
end
