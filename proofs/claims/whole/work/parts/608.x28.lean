section
theorem x_us_un {g kd fi se : Nat → Nat} (h : x_p g kd fi se) : ∀ m : Nat, m ≤ s_np g → x_us fi se (g 1) m = s_un g m
  | 0, _ => rfl
  | m + 1, hm => by show x_us fi se (g 1) m + (fi (x_pl (g 1) m) + se (x_pl (g 1) m)) = s_un g m + (s_x g m + s_y g m); rw [x_us_un h m (by omega), x_p_x h (by omega), x_p_y h (by omega)]
set_option maxRecDepth 100000 in
set_option maxHeartbeats 4000000 in
theorem c_X10_count (G : GL) (ex : Bool) (n : Nat) (σ : Nat → va_E) (z1 : Int32) (z2 : Int32) (z3 : Int32) (g : Nat → Nat) (nx : Nat) (m : Nat) (x : Int32) (hc0 : σ 0 = o10 G (z1) (z2) (z3)) (hc1 : σ 78 = o2 G (78) (nI (nx)) (nI (m))) (hn9 : 279 ≤ n) (hG : x_gm G σ 25 g) (hM : x_mx G σ) : CtX G yX10_count cX10_count 2 (some .int) ⟨6, 1, 6, 143⟩ [.ref (q_h G + 0), .int (x)] ex n σ (fun v9 σ2 => ∃ (x1 : Nat), v9 = some (.int (nI (s_countA g m x1))) ∧ (x = nI x1) ∧ (x1 ≤ 12) ∧ (x_mx G σ2) ∧ (∀ i : Nat, i < 43 ∨ 77 < i → σ2 i = σ i)) (fun E σ2 => σ2 = σ ∧ ((E = "java/lang/IllegalArgumentException" ∧ (∀ j : Nat, 0 ≤ j → j ≤ 12 → x = nI j → False)))) := by
  refine q_enter [some (.ref (q_h G + 0)), some (.int (x))] (by decide) (Nat.le_of_ble_eq_true rfl) rfl ?_
  intro K hg
  obtain ⟨Q, hQ⟩ : ∃ Q, Q = q_Q G K ex n 1 6 (fun v9 n' σ' => n' = n ∧ (fun v9 σ2 => ∃ (x1 : Nat), v9 = some (.int (nI (s_countA g m x1))) ∧ (x = nI x1) ∧ (x1 ≤ 12) ∧ (x_mx G σ2) ∧ (∀ i : Nat, i < 43 ∨ 77 < i → σ2 i = σ i)) v9 σ') (fun E σ2 => σ2 = σ ∧ ((E = "java/lang/IllegalArgumentException" ∧ (∀ j : Nat, 0 ≤ j → j ≤ 12 → x = nI j → False)))) := ⟨_, rfl⟩
  refine (?_ : AJ G K (q_Q G K ex n 1 6 _ _) 0 0 ex n 0 _ _ σ)
  rw [← hQ]
  obtain ⟨kd, fi, se, tf, ts, ac, tu, nm, on, sl, mo, nb, bm, ⟨hg_1, hg_2, hg_3, hg_4, hg_5, hg_6, hg_7, hg_8, hg_9, hg_10, hg_11, hg_12⟩, hgr⟩ := hG
  obtain ⟨hgw, hxp, htp, hrl, hac, htu⟩ := hgr
  have hrs := x_rl_rs hrl
  have hg0 := hgw.1
  have hg1 := hgw.2.1
  have hg2 := hgw.2.2.1
  have hg3 := hgw.2.2.2.1
  have hg6 := hgw.2.2.2.2.1
  have hnp : s_np g = g 1 + g 2 := rfl
  have hc_13 : ∀ j9 : Nat, j9 < g 0 → σ (25 + 10 + 2 * j9) = o7 G (25 + 10 + 2 * j9) (lN (nm j9)) (lN (on j9)) (nI (s_rule g j9 18)) (nI (s_rule g j9 19)) (nI (s_rule g j9 20)) := fun j9 hj => (hg_11 j9 (by omega)).trans (by rw [(hrl j9 hj).2.2.2.1, (hrl j9 hj).2.2.2.2.1, (hrl j9 hj).2.2.2.2.2.1])
  have hc_14 : ∀ j9 : Nat, j9 < g 0 → σ (25 + 10 + 2 * j9 + 1) = q_an G 5 (bm j9) := fun j9 hj => hg_12 j9 (by omega)
  obtain ⟨h0, h1, h2, h3, h4, flA, n0A, gvA, gsA, lmA, vsA, nmA, onA, slA, moA, nbA, bmA, skA, s2A, vaA, spA, rfA, hm_15, hm_16, hm_17, hm_18, hm_19, hm_20, hm_21, hm_22, hm_23, hm_24, hm_25, hTI⟩ := hM
  refine A_iload_n hg dX10_count_0 rfl rfl ?_
  by_cases hd1 : (x).toInt < 0 ∨ 12 < (x).toInt
  · skip
    refine A_tableOut (tgt := 217) hg dX10_count_1 hd1 (by decide) ?_
    rw [hQ]
    exact A_throwS (text := "there is no such number of the whole") (names := ["java/lang/RuntimeException", "java/lang/Exception"]) hg (by decide +kernel) (by decide +kernel) tw_IllegalArgumentException.2.2.1 tw_IllegalArgumentException.2.2.2 (q_mt 895 (by decide +kernel)) tw_IllegalArgumentException.1 tw_IllegalArgumentException.2.1 dX10_count_217 dX10_count_220 dX10_count_221 dX10_count_223 dX10_count_226 ⟨by decide, by decide, by decide, by decide⟩ (by decide) (by decide) ⟨rfl, ⟨rfl, (x_swD (by decide) hd1)⟩⟩
  · skip
    obtain ⟨k1, hk1, hx1⟩ := q_sw 0 12 hd1
    match k1, hk1, hx1 with
    | 0, _, hx1 =>
      refine A_tableIn (tgt := 68) (off := 67) hg dX10_count_1 (by rw [hx1]; decide) (by rw [hx1]; decide) (by rw [hx1]; rfl) (by decide) ?_
      refine A_aload_n hg dX10_count_68 rfl rfl ?_
      refine A_getf (v := .ref (q_h G + 25)) hg fl_RX10_40 dX10_count_69 hc0 (by omega) rfl ?_
      refine A_getf (v := .int (nI (g 0))) hg fl_RX10_125 dX10_count_72 hg_1 (by omega) rfl ?_
      rw [hQ]
      exact A_ireturn hg (by decide) (by decide) rfl dX10_count_75 ⟨rfl, ⟨0, (by rfl), (x_swN (by decide) hx1), (by decide), ⟨(h0), (h1), (h2), (h3), (h4), flA, n0A, gvA, gsA, lmA, vsA, nmA, onA, slA, moA, nbA, bmA, skA, s2A, vaA, spA, rfA, hm_15, hm_16, hm_17, hm_18, hm_19, hm_20, hm_21, hm_22, hm_23, hm_24, hm_25, hTI⟩, (fun _ _ => rfl)⟩⟩
    | 1, _, hx1 =>
      refine A_tableIn (tgt := 76) (off := 75) hg dX10_count_1 (by rw [hx1]; decide) (by rw [hx1]; decide) (by rw [hx1]; rfl) (by decide) ?_
      refine A_aload_n hg dX10_count_76 rfl rfl ?_
      refine A_getf (v := .ref (q_h G + 25)) hg fl_RX10_40 dX10_count_77 hc0 (by omega) rfl ?_
      refine A_getf (v := .ref (q_h G + 27)) hg fl_RX10_118 dX10_count_80 hg_1 (by omega) rfl ?_
      refine A_getf (v := .int (nI (g 1))) hg fl_RX10_128 dX10_count_83 hg_3 (by omega) rfl ?_
      rw [hQ]
      exact A_ireturn hg (by decide) (by decide) rfl dX10_count_86 ⟨rfl, ⟨1, (by rfl), (x_swN (by decide) hx1), (by decide), ⟨(h0), (h1), (h2), (h3), (h4), flA, n0A, gvA, gsA, lmA, vsA, nmA, onA, slA, moA, nbA, bmA, skA, s2A, vaA, spA, rfA, hm_15, hm_16, hm_17, hm_18, hm_19, hm_20, hm_21, hm_22, hm_23, hm_24, hm_25, hTI⟩, (fun _ _ => rfl)⟩⟩
    | 2, _, hx1 =>
      refine A_tableIn (tgt := 87) (off := 86) hg dX10_count_1 (by rw [hx1]; decide) (by rw [hx1]; decide) (by rw [hx1]; rfl) (by decide) ?_
      refine A_aload_n hg dX10_count_87 rfl rfl ?_
      refine A_getf (v := .ref (q_h G + 25)) hg fl_RX10_40 dX10_count_88 hc0 (by omega) rfl ?_
      refine A_getf (v := .ref (q_h G + 27)) hg fl_RX10_118 dX10_count_91 hg_1 (by omega) rfl ?_
      refine A_getf (v := .int (nI (g 2))) hg fl_RX10_131 dX10_count_94 hg_3 (by omega) rfl ?_
      rw [hQ]
      exact A_ireturn hg (by decide) (by decide) rfl dX10_count_97 ⟨rfl, ⟨2, (by rfl), (x_swN (by decide) hx1), (by decide), ⟨(h0), (h1), (h2), (h3), (h4), flA, n0A, gvA, gsA, lmA, vsA, nmA, onA, slA, moA, nbA, bmA, skA, s2A, vaA, spA, rfA, hm_15, hm_16, hm_17, hm_18, hm_19, hm_20, hm_21, hm_22, hm_23, hm_24, hm_25, hTI⟩, (fun _ _ => rfl)⟩⟩
    | 3, _, hx1 =>
      refine A_tableIn (tgt := 98) (off := 97) hg dX10_count_1 (by rw [hx1]; decide) (by rw [hx1]; decide) (by rw [hx1]; rfl) (by decide) ?_
      refine A_aload_n hg dX10_count_98 rfl rfl ?_
      refine A_getf (v := .ref (q_h G + 25)) hg fl_RX10_40 dX10_count_99 hc0 (by omega) rfl ?_
      refine A_getf (v := .int (nI (g 3))) hg fl_RX10_134 dX10_count_102 hg_1 (by omega) rfl ?_
      rw [hQ]
      exact A_ireturn hg (by decide) (by decide) rfl dX10_count_105 ⟨rfl, ⟨3, (by rfl), (x_swN (by decide) hx1), (by decide), ⟨(h0), (h1), (h2), (h3), (h4), flA, n0A, gvA, gsA, lmA, vsA, nmA, onA, slA, moA, nbA, bmA, skA, s2A, vaA, spA, rfA, hm_15, hm_16, hm_17, hm_18, hm_19, hm_20, hm_21, hm_22, hm_23, hm_24, hm_25, hTI⟩, (fun _ _ => rfl)⟩⟩
    | 4, _, hx1 =>
      refine A_tableIn (tgt := 106) (off := 105) hg dX10_count_1 (by rw [hx1]; decide) (by rw [hx1]; decide) (by rw [hx1]; rfl) (by decide) ?_
      refine A_aload_n hg dX10_count_106 rfl rfl ?_
      refine A_getf (v := .ref (q_h G + 25)) hg fl_RX10_40 dX10_count_107 hc0 (by omega) rfl ?_
      refine A_getf (v := .int (nI (g 4))) hg fl_RX10_137 dX10_count_110 hg_1 (by omega) rfl ?_
      rw [hQ]
      exact A_ireturn hg (by decide) (by decide) rfl dX10_count_113 ⟨rfl, ⟨4, (by rfl), (x_swN (by decide) hx1), (by decide), ⟨(h0), (h1), (h2), (h3), (h4), flA, n0A, gvA, gsA, lmA, vsA, nmA, onA, slA, moA, nbA, bmA, skA, s2A, vaA, spA, rfA, hm_15, hm_16, hm_17, hm_18, hm_19, hm_20, hm_21, hm_22, hm_23, hm_24, hm_25, hTI⟩, (fun _ _ => rfl)⟩⟩
    | 5, _, hx1 =>
      refine A_tableIn (tgt := 114) (off := 113) hg dX10_count_1 (by rw [hx1]; decide) (by rw [hx1]; decide) (by rw [hx1]; rfl) (by decide) ?_
      refine A_aload_n hg dX10_count_114 rfl rfl ?_
      refine A_hV (kc2 := 0) (ks2 := 0) (As := []) (rest := []) hg lk_RX10_140 in_X10_fittedMix se_X10_fittedMix rfl dX10_count_115 ⟨by decide, by decide⟩ rfl rfl ⟨by decide, by decide⟩ hc0 (by omega) rfl rfl (Nat.le_of_ble_eq_true rfl) (c_X10_fittedMix G ex n σ z1 z2 z3 g kd fi se nm on bm flA n0A gvA gsA lmA vsA nmA onA slA moA nbA bmA skA s2A vaA spA rfA hc0 hm_15 hm_16 hg_1 hg_2 hg_3 hg_4 hg_5 hg_6 hc_13 hc_14 hm_18 hm_19 hm_20 hm_21 hm_22 hm_23 hm_24 hm_25 (by omega) hgw hxp hrs hTI) ?_
      rintro _ σ_52 ⟨flB_26, n0B_27, gvB_28, gsB_29, lmB_30, vsB_31, nmB_32, onB_33, slB_34, moB_35, nbB_36, bmB_37, skB_38, s2B_39, vaB_40, spB_41, rfB_42, rfl, hTI2, hTF2, hc_43, hc_44, hc_45, hc_46, hc_47, hc_48, hc_49, hc_50, hf_51⟩
      refine (?_ : AJ G K Q 0 0 ex n 118 [some (.ref (q_h G + 0)), some (.int (x))] [.ref (q_h G + 43)] σ_52)
      have hc_53 : σ_52 0 = o10 G (z1) (z2) (z3) := (hf_51 _ (by omega)).trans hc0
      have hc_54 : σ_52 78 = o2 G (78) (nI (nx)) (nI (m)) := (hf_51 _ (by omega)).trans hc1
      have hc_55 : σ_52 25 = o0 G (25) (nI (g 0)) (nI (g 3)) (nI (g 4)) (nI (g 5)) (nI (g 6)) := (hf_51 _ (by omega)).trans hg_1
      have hc_56 : σ_52 26 = q_rn G 3 4 (fun j => some (25 + 10 + 2 * j)) := (hf_51 _ (by omega)).trans hg_2
      have hc_57 : σ_52 27 = o6 G (27) (nI (g 1)) (nI (g 2)) := (hf_51 _ (by omega)).trans hg_3
      have hc_58 : σ_52 (27 + 1) = q_an G 8 kd := (hf_51 _ (by omega)).trans hg_4
      have hc_59 : σ_52 (27 + 2) = q_an G 8 fi := (hf_51 _ (by omega)).trans hg_5
      have hc_60 : σ_52 (27 + 3) = q_an G 8 se := (hf_51 _ (by omega)).trans hg_6
      have hc_61 : σ_52 (27 + 4) = q_an G 8 tf := (hf_51 _ (by omega)).trans hg_7
      have hc_62 : σ_52 (27 + 5) = q_an G 8 ts := (hf_51 _ (by omega)).trans hg_8
      have hc_63 : σ_52 (25 + 8) = q_an G 10 ac := (hf_51 _ (by omega)).trans hg_9
      have hc_64 : σ_52 (25 + 9) = q_an G 100 tu := (hf_51 _ (by omega)).trans hg_10
      have hc_65 : ∀ j9 : Nat, j9 < g 0 → σ_52 (25 + 10 + 2 * j9) = o7 G (25 + 10 + 2 * j9) (lN (nm j9)) (lN (on j9)) (nI (s_rule g j9 18)) (nI (s_rule g j9 19)) (nI (s_rule g j9 20)) := fun j9 hj0 => (hf_51 _ (by omega)).trans (hc_13 j9 (by omega))
      have hc_66 : ∀ j9 : Nat, j9 < g 0 → σ_52 (25 + 10 + 2 * j9 + 1) = q_an G 5 (bm j9) := fun j9 hj0 => (hf_51 _ (by omega)).trans (hc_14 j9 (by omega))
      have hc_67 : σ_52 43 = o4 G (43)  := (hf_51 _ (by omega)).trans hm_15
      have hc_68 : σ_52 44 = q_rn G 4 4 (fun j => some (46 + 8 * j)) := (hf_51 _ (by omega)).trans hm_16
      have hc_69 : σ_52 45 = o1 G (h0) (h1) (h2) (h3) (h4) := (hf_51 _ (by omega)).trans hm_17
      refine A_aload_n hg dX10_count_118 rfl rfl ?_
      refine A_getf (v := .ref (q_h G + 25)) hg fl_RX10_40 dX10_count_119 hc_53 (by omega) rfl ?_
      refine A_getf (v := .ref (q_h G + 27)) hg fl_RX10_118 dX10_count_122 hc_55 (by omega) rfl ?_
      refine A_eV (kc2 := 0) (ks2 := 0) (As := [.ref (q_h G + 27)]) (rest := []) hg lk_RX10_144 in_X4_totalOf se_X4_totalOf rfl dX10_count_125 ⟨by decide, by decide⟩ rfl rfl ⟨by decide, by decide⟩ hc_67 (by omega) rfl rfl (Nat.le_of_ble_eq_true rfl) (c_X4_totalOf G ex n σ_52 27 g kd fi se flB_26 n0B_27 gvB_28 gsB_29 lmB_30 vsB_31 nmB_32 onB_33 slB_34 moB_35 nbB_36 bmB_37 skB_38 s2B_39 vaB_40 spB_41 rfB_42 hc_67 hc_68 hc_57 hc_58 hc_59 hc_60 hc_43 hc_44 hc_45 hc_46 hc_47 hc_48 hc_49 hc_50 (by omega) (Or.inl rfl) hgw hxp hTF2) ?_
      rw [hQ]
      exact A_ireturn hg (by decide) (by decide) rfl dX10_count_128 ⟨rfl, ⟨5, (by rfl), (x_swN (by decide) hx1), (by decide), ⟨(h0), (h1), (h2), (h3), (h4), flB_26, n0B_27, gvB_28, gsB_29, lmB_30, vsB_31, nmB_32, onB_33, slB_34, moB_35, nbB_36, bmB_37, skB_38, s2B_39, vaB_40, spB_41, rfB_42, hc_67, hc_68, hc_69, hc_43, hc_44, hc_45, hc_46, hc_47, hc_48, hc_49, hc_50, hTI2⟩, (fun i hi => (hf_51 i (by omega)))⟩⟩
    | 6, _, hx1 =>
      refine A_tableIn (tgt := 129) (off := 128) hg dX10_count_1 (by rw [hx1]; decide) (by rw [hx1]; decide) (by rw [hx1]; rfl) (by decide) ?_
      refine A_aload_n hg dX10_count_129 rfl rfl ?_
      refine A_hV (kc2 := 0) (ks2 := 0) (As := []) (rest := []) hg lk_RX10_140 in_X10_fittedMix se_X10_fittedMix rfl dX10_count_130 ⟨by decide, by decide⟩ rfl rfl ⟨by decide, by decide⟩ hc0 (by omega) rfl rfl (Nat.le_of_ble_eq_true rfl) (c_X10_fittedMix G ex n σ z1 z2 z3 g kd fi se nm on bm flA n0A gvA gsA lmA vsA nmA onA slA moA nbA bmA skA s2A vaA spA rfA hc0 hm_15 hm_16 hg_1 hg_2 hg_3 hg_4 hg_5 hg_6 hc_13 hc_14 hm_18 hm_19 hm_20 hm_21 hm_22 hm_23 hm_24 hm_25 (by omega) hgw hxp hrs hTI) ?_
      rintro _ σ_96 ⟨flB_70, n0B_71, gvB_72, gsB_73, lmB_74, vsB_75, nmB_76, onB_77, slB_78, moB_79, nbB_80, bmB_81, skB_82, s2B_83, vaB_84, spB_85, rfB_86, rfl, hTI2, hTF2, hc_87, hc_88, hc_89, hc_90, hc_91, hc_92, hc_93, hc_94, hf_95⟩
      refine (?_ : AJ G K Q 0 0 ex n 133 [some (.ref (q_h G + 0)), some (.int (x))] [.ref (q_h G + 43)] σ_96)
      have hc_97 : σ_96 0 = o10 G (z1) (z2) (z3) := (hf_95 _ (by omega)).trans hc0
      have hc_98 : σ_96 78 = o2 G (78) (nI (nx)) (nI (m)) := (hf_95 _ (by omega)).trans hc1
      have hc_99 : σ_96 25 = o0 G (25) (nI (g 0)) (nI (g 3)) (nI (g 4)) (nI (g 5)) (nI (g 6)) := (hf_95 _ (by omega)).trans hg_1
      have hc_100 : σ_96 26 = q_rn G 3 4 (fun j => some (25 + 10 + 2 * j)) := (hf_95 _ (by omega)).trans hg_2
      have hc_101 : σ_96 27 = o6 G (27) (nI (g 1)) (nI (g 2)) := (hf_95 _ (by omega)).trans hg_3
      have hc_102 : σ_96 (27 + 1) = q_an G 8 kd := (hf_95 _ (by omega)).trans hg_4
      have hc_103 : σ_96 (27 + 2) = q_an G 8 fi := (hf_95 _ (by omega)).trans hg_5
      have hc_104 : σ_96 (27 + 3) = q_an G 8 se := (hf_95 _ (by omega)).trans hg_6
      have hc_105 : σ_96 (27 + 4) = q_an G 8 tf := (hf_95 _ (by omega)).trans hg_7
      have hc_106 : σ_96 (27 + 5) = q_an G 8 ts := (hf_95 _ (by omega)).trans hg_8
      have hc_107 : σ_96 (25 + 8) = q_an G 10 ac := (hf_95 _ (by omega)).trans hg_9
      have hc_108 : σ_96 (25 + 9) = q_an G 100 tu := (hf_95 _ (by omega)).trans hg_10
      have hc_109 : ∀ j9 : Nat, j9 < g 0 → σ_96 (25 + 10 + 2 * j9) = o7 G (25 + 10 + 2 * j9) (lN (nm j9)) (lN (on j9)) (nI (s_rule g j9 18)) (nI (s_rule g j9 19)) (nI (s_rule g j9 20)) := fun j9 hj0 => (hf_95 _ (by omega)).trans (hc_13 j9 (by omega))
      have hc_110 : ∀ j9 : Nat, j9 < g 0 → σ_96 (25 + 10 + 2 * j9 + 1) = q_an G 5 (bm j9) := fun j9 hj0 => (hf_95 _ (by omega)).trans (hc_14 j9 (by omega))
      have hc_111 : σ_96 43 = o4 G (43)  := (hf_95 _ (by omega)).trans hm_15
      have hc_112 : σ_96 44 = q_rn G 4 4 (fun j => some (46 + 8 * j)) := (hf_95 _ (by omega)).trans hm_16
      have hc_113 : σ_96 45 = o1 G (h0) (h1) (h2) (h3) (h4) := (hf_95 _ (by omega)).trans hm_17
      refine A_aload_n hg dX10_count_133 rfl rfl ?_
      refine A_getf (v := .ref (q_h G + 25)) hg fl_RX10_40 dX10_count_134 hc_97 (by omega) rfl ?_
      refine A_getf (v := .ref (q_h G + 27)) hg fl_RX10_118 dX10_count_137 hc_99 (by omega) rfl ?_
      refine A_eV (kc2 := 0) (ks2 := 0) (As := [.ref (q_h G + 27)]) (rest := []) hg lk_RX10_148 in_X4_allMoves se_X4_allMoves rfl dX10_count_140 ⟨by decide, by decide⟩ rfl rfl ⟨by decide, by decide⟩ hc_111 (by omega) rfl rfl (Nat.le_of_ble_eq_true rfl) (c_X4_allMoves G ex n σ_96 27 g kd fi se flB_70 n0B_71 gvB_72 gsB_73 lmB_74 vsB_75 nmB_76 onB_77 slB_78 moB_79 nbB_80 bmB_81 skB_82 s2B_83 vaB_84 spB_85 rfB_86 hc_111 hc_112 hc_101 hc_102 hc_103 hc_104 hc_87 hc_88 hc_89 hc_90 hc_91 hc_92 hc_93 hc_94 (by omega) (Or.inl rfl) hgw hxp hTF2) ?_
      rw [hQ]
      exact A_ireturn hg (by decide) (by decide) rfl dX10_count_143 ⟨rfl, ⟨6, (by rfl), (x_swN (by decide) hx1), (by decide), ⟨(h0), (h1), (h2), (h3), (h4), flB_70, n0B_71, gvB_72, gsB_73, lmB_74, vsB_75, nmB_76, onB_77, slB_78, moB_79, nbB_80, bmB_81, skB_82, s2B_83, vaB_84, spB_85, rfB_86, hc_111, hc_112, hc_113, hc_87, hc_88, hc_89, hc_90, hc_91, hc_92, hc_93, hc_94, hTI2⟩, (fun i hi => (hf_95 i (by omega)))⟩⟩
    | 7, _, hx1 =>
      refine A_tableIn (tgt := 144) (off := 143) hg dX10_count_1 (by rw [hx1]; decide) (by rw [hx1]; decide) (by rw [hx1]; rfl) (by decide) ?_
      refine A_aload_n hg dX10_count_144 rfl rfl ?_
      refine A_hV (kc2 := 0) (ks2 := 0) (As := []) (rest := []) hg lk_RX10_140 in_X10_fittedMix se_X10_fittedMix rfl dX10_count_145 ⟨by decide, by decide⟩ rfl rfl ⟨by decide, by decide⟩ hc0 (by omega) rfl rfl (Nat.le_of_ble_eq_true rfl) (c_X10_fittedMix G ex n σ z1 z2 z3 g kd fi se nm on bm flA n0A gvA gsA lmA vsA nmA onA slA moA nbA bmA skA s2A vaA spA rfA hc0 hm_15 hm_16 hg_1 hg_2 hg_3 hg_4 hg_5 hg_6 hc_13 hc_14 hm_18 hm_19 hm_20 hm_21 hm_22 hm_23 hm_24 hm_25 (by omega) hgw hxp hrs hTI) ?_
      rintro _ σ_140 ⟨flB_114, n0B_115, gvB_116, gsB_117, lmB_118, vsB_119, nmB_120, onB_121, slB_122, moB_123, nbB_124, bmB_125, skB_126, s2B_127, vaB_128, spB_129, rfB_130, rfl, hTI2, hTF2, hc_131, hc_132, hc_133, hc_134, hc_135, hc_136, hc_137, hc_138, hf_139⟩
      refine (?_ : AJ G K Q 0 0 ex n 148 [some (.ref (q_h G + 0)), some (.int (x))] [.ref (q_h G + 43)] σ_140)
      have hc_141 : σ_140 0 = o10 G (z1) (z2) (z3) := (hf_139 _ (by omega)).trans hc0
      have hc_142 : σ_140 78 = o2 G (78) (nI (nx)) (nI (m)) := (hf_139 _ (by omega)).trans hc1
      have hc_143 : σ_140 25 = o0 G (25) (nI (g 0)) (nI (g 3)) (nI (g 4)) (nI (g 5)) (nI (g 6)) := (hf_139 _ (by omega)).trans hg_1
      have hc_144 : σ_140 26 = q_rn G 3 4 (fun j => some (25 + 10 + 2 * j)) := (hf_139 _ (by omega)).trans hg_2
      have hc_145 : σ_140 27 = o6 G (27) (nI (g 1)) (nI (g 2)) := (hf_139 _ (by omega)).trans hg_3
      have hc_146 : σ_140 (27 + 1) = q_an G 8 kd := (hf_139 _ (by omega)).trans hg_4
      have hc_147 : σ_140 (27 + 2) = q_an G 8 fi := (hf_139 _ (by omega)).trans hg_5
      have hc_148 : σ_140 (27 + 3) = q_an G 8 se := (hf_139 _ (by omega)).trans hg_6
      have hc_149 : σ_140 (27 + 4) = q_an G 8 tf := (hf_139 _ (by omega)).trans hg_7
      have hc_150 : σ_140 (27 + 5) = q_an G 8 ts := (hf_139 _ (by omega)).trans hg_8
      have hc_151 : σ_140 (25 + 8) = q_an G 10 ac := (hf_139 _ (by omega)).trans hg_9
      have hc_152 : σ_140 (25 + 9) = q_an G 100 tu := (hf_139 _ (by omega)).trans hg_10
      have hc_153 : ∀ j9 : Nat, j9 < g 0 → σ_140 (25 + 10 + 2 * j9) = o7 G (25 + 10 + 2 * j9) (lN (nm j9)) (lN (on j9)) (nI (s_rule g j9 18)) (nI (s_rule g j9 19)) (nI (s_rule g j9 20)) := fun j9 hj0 => (hf_139 _ (by omega)).trans (hc_13 j9 (by omega))
      have hc_154 : ∀ j9 : Nat, j9 < g 0 → σ_140 (25 + 10 + 2 * j9 + 1) = q_an G 5 (bm j9) := fun j9 hj0 => (hf_139 _ (by omega)).trans (hc_14 j9 (by omega))
      have hc_155 : σ_140 43 = o4 G (43)  := (hf_139 _ (by omega)).trans hm_15
      have hc_156 : σ_140 44 = q_rn G 4 4 (fun j => some (46 + 8 * j)) := (hf_139 _ (by omega)).trans hm_16
      have hc_157 : σ_140 45 = o1 G (h0) (h1) (h2) (h3) (h4) := (hf_139 _ (by omega)).trans hm_17
      refine A_aload_n hg dX10_count_148 rfl rfl ?_
      refine A_getf (v := .ref (q_h G + 25)) hg fl_RX10_40 dX10_count_149 hc_141 (by omega) rfl ?_
      refine A_getf (v := .ref (q_h G + 27)) hg fl_RX10_118 dX10_count_152 hc_143 (by omega) rfl ?_
      refine A_eV (kc2 := 0) (ks2 := 0) (As := [.ref (q_h G + 27)]) (rest := []) hg lk_RX10_151 in_X4_allWinningMoves se_X4_allWinningMoves rfl dX10_count_155 ⟨by decide, by decide⟩ rfl rfl ⟨by decide, by decide⟩ hc_155 (by omega) rfl rfl (Nat.le_of_ble_eq_true rfl) (c_X4_allWinningMoves G ex n σ_140 27 g kd fi se flB_114 n0B_115 gvB_116 gsB_117 lmB_118 vsB_119 nmB_120 onB_121 slB_122 moB_123 nbB_124 bmB_125 skB_126 s2B_127 vaB_128 spB_129 rfB_130 hc_155 hc_156 hc_145 hc_146 hc_147 hc_148 hc_131 hc_132 hc_133 hc_134 hc_135 hc_136 hc_137 hc_138 (by omega) (Or.inl rfl) hgw hxp hTF2) ?_
      rw [hQ]
      exact A_ireturn hg (by decide) (by decide) rfl dX10_count_158 ⟨rfl, ⟨7, (by rfl), (x_swN (by decide) hx1), (by decide), ⟨(h0), (h1), (h2), (h3), (h4), flB_114, n0B_115, gvB_116, gsB_117, lmB_118, vsB_119, nmB_120, onB_121, slB_122, moB_123, nbB_124, bmB_125, skB_126, s2B_127, vaB_128, spB_129, rfB_130, hc_155, hc_156, hc_157, hc_131, hc_132, hc_133, hc_134, hc_135, hc_136, hc_137, hc_138, hTI2⟩, (fun i hi => (hf_139 i (by omega)))⟩⟩
    | 8, _, hx1 =>
      refine A_tableIn (tgt := 159) (off := 158) hg dX10_count_1 (by rw [hx1]; decide) (by rw [hx1]; decide) (by rw [hx1]; rfl) (by decide) ?_
      refine A_aload_n hg dX10_count_159 rfl rfl ?_
      refine A_hV (kc2 := 0) (ks2 := 0) (As := []) (rest := []) hg lk_RX10_140 in_X10_fittedMix se_X10_fittedMix rfl dX10_count_160 ⟨by decide, by decide⟩ rfl rfl ⟨by decide, by decide⟩ hc0 (by omega) rfl rfl (Nat.le_of_ble_eq_true rfl) (c_X10_fittedMix G ex n σ z1 z2 z3 g kd fi se nm on bm flA n0A gvA gsA lmA vsA nmA onA slA moA nbA bmA skA s2A vaA spA rfA hc0 hm_15 hm_16 hg_1 hg_2 hg_3 hg_4 hg_5 hg_6 hc_13 hc_14 hm_18 hm_19 hm_20 hm_21 hm_22 hm_23 hm_24 hm_25 (by omega) hgw hxp hrs hTI) ?_
      rintro _ σ_184 ⟨flB_158, n0B_159, gvB_160, gsB_161, lmB_162, vsB_163, nmB_164, onB_165, slB_166, moB_167, nbB_168, bmB_169, skB_170, s2B_171, vaB_172, spB_173, rfB_174, rfl, hTI2, hTF2, hc_175, hc_176, hc_177, hc_178, hc_179, hc_180, hc_181, hc_182, hf_183⟩
      refine (?_ : AJ G K Q 0 0 ex n 163 [some (.ref (q_h G + 0)), some (.int (x))] [.ref (q_h G + 43)] σ_184)
      have hc_185 : σ_184 0 = o10 G (z1) (z2) (z3) := (hf_183 _ (by omega)).trans hc0
      have hc_186 : σ_184 78 = o2 G (78) (nI (nx)) (nI (m)) := (hf_183 _ (by omega)).trans hc1
      have hc_187 : σ_184 25 = o0 G (25) (nI (g 0)) (nI (g 3)) (nI (g 4)) (nI (g 5)) (nI (g 6)) := (hf_183 _ (by omega)).trans hg_1
      have hc_188 : σ_184 26 = q_rn G 3 4 (fun j => some (25 + 10 + 2 * j)) := (hf_183 _ (by omega)).trans hg_2
      have hc_189 : σ_184 27 = o6 G (27) (nI (g 1)) (nI (g 2)) := (hf_183 _ (by omega)).trans hg_3
      have hc_190 : σ_184 (27 + 1) = q_an G 8 kd := (hf_183 _ (by omega)).trans hg_4
      have hc_191 : σ_184 (27 + 2) = q_an G 8 fi := (hf_183 _ (by omega)).trans hg_5
      have hc_192 : σ_184 (27 + 3) = q_an G 8 se := (hf_183 _ (by omega)).trans hg_6
      have hc_193 : σ_184 (27 + 4) = q_an G 8 tf := (hf_183 _ (by omega)).trans hg_7
      have hc_194 : σ_184 (27 + 5) = q_an G 8 ts := (hf_183 _ (by omega)).trans hg_8
      have hc_195 : σ_184 (25 + 8) = q_an G 10 ac := (hf_183 _ (by omega)).trans hg_9
      have hc_196 : σ_184 (25 + 9) = q_an G 100 tu := (hf_183 _ (by omega)).trans hg_10
      have hc_197 : ∀ j9 : Nat, j9 < g 0 → σ_184 (25 + 10 + 2 * j9) = o7 G (25 + 10 + 2 * j9) (lN (nm j9)) (lN (on j9)) (nI (s_rule g j9 18)) (nI (s_rule g j9 19)) (nI (s_rule g j9 20)) := fun j9 hj0 => (hf_183 _ (by omega)).trans (hc_13 j9 (by omega))
      have hc_198 : ∀ j9 : Nat, j9 < g 0 → σ_184 (25 + 10 + 2 * j9 + 1) = q_an G 5 (bm j9) := fun j9 hj0 => (hf_183 _ (by omega)).trans (hc_14 j9 (by omega))
      have hc_199 : σ_184 43 = o4 G (43)  := (hf_183 _ (by omega)).trans hm_15
      have hc_200 : σ_184 44 = q_rn G 4 4 (fun j => some (46 + 8 * j)) := (hf_183 _ (by omega)).trans hm_16
      have hc_201 : σ_184 45 = o1 G (h0) (h1) (h2) (h3) (h4) := (hf_183 _ (by omega)).trans hm_17
      refine A_aload_n hg dX10_count_163 rfl rfl ?_
      refine A_getf (v := .ref (q_h G + 25)) hg fl_RX10_40 dX10_count_164 hc_185 (by omega) rfl ?_
      refine A_getf (v := .ref (q_h G + 27)) hg fl_RX10_118 dX10_count_167 hc_187 (by omega) rfl ?_
      refine A_hV (kc2 := 0) (ks2 := 0) (As := [.ref (q_h G + 27)]) (rest := []) hg lk_RX10_154 in_X4_isOver se_X4_isOver rfl dX10_count_170 ⟨by decide, by decide⟩ rfl rfl ⟨by decide, by decide⟩ hc_199 (by omega) rfl rfl (Nat.le_of_ble_eq_true rfl) (c_X4_isOver G ex n σ_184 27 g kd fi se flB_158 n0B_159 gvB_160 gsB_161 lmB_162 vsB_163 nmB_164 onB_165 slB_166 moB_167 nbB_168 bmB_169 skB_170 s2B_171 vaB_172 spB_173 rfB_174 h0 h1 h2 h3 h4 hc_199 hc_200 hc_189 hc_190 hc_191 hc_192 hc_175 hc_176 hc_177 hc_178 hc_179 hc_180 hc_181 hc_182 hc_201 (by omega) (Or.inl rfl) hgw hxp hTF2) ?_
      rintro _ σ_206 ⟨h3x_202, h4x_203, rfl, hc_204, hf_205⟩
      refine (?_ : AJ G K Q 0 0 ex n 173 [some (.ref (q_h G + 0)), some (.int (x))] [.int (q_b (s_over g))] σ_206)
      have hc_207 : σ_206 0 = o10 G (z1) (z2) (z3) := (hf_205 _ (by omega)).trans hc_185
      have hc_208 : σ_206 78 = o2 G (78) (nI (nx)) (nI (m)) := (hf_205 _ (by omega)).trans hc_186
      have hc_209 : σ_206 25 = o0 G (25) (nI (g 0)) (nI (g 3)) (nI (g 4)) (nI (g 5)) (nI (g 6)) := (hf_205 _ (by omega)).trans hc_187
      have hc_210 : σ_206 26 = q_rn G 3 4 (fun j => some (25 + 10 + 2 * j)) := (hf_205 _ (by omega)).trans hc_188
      have hc_211 : σ_206 27 = o6 G (27) (nI (g 1)) (nI (g 2)) := (hf_205 _ (by omega)).trans hc_189
      have hc_212 : σ_206 (27 + 1) = q_an G 8 kd := (hf_205 _ (by omega)).trans hc_190
      have hc_213 : σ_206 (27 + 2) = q_an G 8 fi := (hf_205 _ (by omega)).trans hc_191
      have hc_214 : σ_206 (27 + 3) = q_an G 8 se := (hf_205 _ (by omega)).trans hc_192
      have hc_215 : σ_206 (27 + 4) = q_an G 8 tf := (hf_205 _ (by omega)).trans hc_193
      have hc_216 : σ_206 (27 + 5) = q_an G 8 ts := (hf_205 _ (by omega)).trans hc_194
      have hc_217 : σ_206 (25 + 8) = q_an G 10 ac := (hf_205 _ (by omega)).trans hc_195
      have hc_218 : σ_206 (25 + 9) = q_an G 100 tu := (hf_205 _ (by omega)).trans hc_196
      have hc_219 : ∀ j9 : Nat, j9 < g 0 → σ_206 (25 + 10 + 2 * j9) = o7 G (25 + 10 + 2 * j9) (lN (nm j9)) (lN (on j9)) (nI (s_rule g j9 18)) (nI (s_rule g j9 19)) (nI (s_rule g j9 20)) := fun j9 hj0 => (hf_205 _ (by omega)).trans (hc_197 j9 (by omega))
      have hc_220 : ∀ j9 : Nat, j9 < g 0 → σ_206 (25 + 10 + 2 * j9 + 1) = q_an G 5 (bm j9) := fun j9 hj0 => (hf_205 _ (by omega)).trans (hc_198 j9 (by omega))
      have hc_221 : σ_206 43 = o4 G (43)  := (hf_205 _ (by omega)).trans hc_199
      have hc_222 : σ_206 44 = q_rn G 4 4 (fun j => some (46 + 8 * j)) := (hf_205 _ (by omega)).trans hc_200
      have hc_223 : ∀ j9 : Nat, j9 < 4 → σ_206 (46 + 8 * j9) = o8 G (46 + 8 * j9) (nI (flB_158 j9)) (nI (n0B_159 j9)) (nI (gvB_160 j9)) (nI (gsB_161 j9)) (nI (lmB_162 j9)) (nI (vsB_163 j9)) := fun j9 hj0 => (hf_205 _ (by omega)).trans (hc_175 j9 (by omega))
      have hc_224 : ∀ j9 : Nat, j9 < 4 → σ_206 (46 + 8 * j9 + 1) = o7 G (46 + 8 * j9 + 1) (lN (nmB_164 j9)) (lN (onB_165 j9)) (nI (slB_166 j9)) (nI (moB_167 j9)) (nI (nbB_168 j9)) := fun j9 hj0 => (hf_205 _ (by omega)).trans (hc_176 j9 (by omega))
      have hc_225 : ∀ j9 : Nat, j9 < 4 → σ_206 (46 + 8 * j9 + 2) = q_an G 5 (bmB_169 j9) := fun j9 hj0 => (hf_205 _ (by omega)).trans (hc_177 j9 (by omega))
      have hc_226 : ∀ j9 : Nat, j9 < 4 → σ_206 (46 + 8 * j9 + 3) = q_an G 1681 (skB_170 j9) := fun j9 hj0 => (hf_205 _ (by omega)).trans (hc_178 j9 (by omega))
      have hc_227 : ∀ j9 : Nat, j9 < 4 → σ_206 (46 + 8 * j9 + 4) = q_an G 1681 (s2B_171 j9) := fun j9 hj0 => (hf_205 _ (by omega)).trans (hc_179 j9 (by omega))
      have hc_228 : ∀ j9 : Nat, j9 < 4 → σ_206 (46 + 8 * j9 + 5) = q_an G 1681 (vaB_172 j9) := fun j9 hj0 => (hf_205 _ (by omega)).trans (hc_180 j9 (by omega))
      have hc_229 : ∀ j9 : Nat, j9 < 4 → σ_206 (46 + 8 * j9 + 6) = q_an G 1681 (spB_173 j9) := fun j9 hj0 => (hf_205 _ (by omega)).trans (hc_181 j9 (by omega))
      have hc_230 : ∀ j9 : Nat, j9 < 4 → σ_206 (46 + 8 * j9 + 7) = q_an G 1681 (rfB_174 j9) := fun j9 hj0 => (hf_205 _ (by omega)).trans (hc_182 j9 (by omega))
      refine A_if_eqB (tgt := 180) hg dX10_count_173 (by decide) (fun c173 => ?_) (fun c173 => ?_)
      · skip
        refine A_iconst (v := (nI (0))) hg dX10_count_180 (by decide) ?_
        rw [hQ]
        exact A_ireturn hg (by decide) (by decide) rfl dX10_count_181 ⟨rfl, ⟨8, (by show _ = some (Value.int (nI (if s_over g = true then 1 else 0))); rw [c173]; rfl), (x_swN (by decide) hx1), (by decide), ⟨(h0), (h1), (h2), (h3x_202), (h4x_203), flB_158, n0B_159, gvB_160, gsB_161, lmB_162, vsB_163, nmB_164, onB_165, slB_166, moB_167, nbB_168, bmB_169, skB_170, s2B_171, vaB_172, spB_173, rfB_174, hc_221, hc_222, hc_204, hc_223, hc_224, hc_225, hc_226, hc_227, hc_228, hc_229, hc_230, hTI2⟩, (fun i hi => ((hf_205 i (by omega)).trans (hf_183 i (by omega))))⟩⟩
      · skip
        refine A_iconst (v := (nI (1))) hg dX10_count_176 (by decide) ?_
        refine A_goto (tgt := 181) hg dX10_count_177 (by decide) ?_
        rw [hQ]
        exact A_ireturn hg (by decide) (by decide) rfl dX10_count_181 ⟨rfl, ⟨8, (by show _ = some (Value.int (nI (if s_over g = true then 1 else 0))); rw [c173]; rfl), (x_swN (by decide) hx1), (by decide), ⟨(h0), (h1), (h2), (h3x_202), (h4x_203), flB_158, n0B_159, gvB_160, gsB_161, lmB_162, vsB_163, nmB_164, onB_165, slB_166, moB_167, nbB_168, bmB_169, skB_170, s2B_171, vaB_172, spB_173, rfB_174, hc_221, hc_222, hc_204, hc_223, hc_224, hc_225, hc_226, hc_227, hc_228, hc_229, hc_230, hTI2⟩, (fun i hi => ((hf_205 i (by omega)).trans (hf_183 i (by omega))))⟩⟩
    | 9, _, hx1 =>
      refine A_tableIn (tgt := 182) (off := 181) hg dX10_count_1 (by rw [hx1]; decide) (by rw [hx1]; decide) (by rw [hx1]; rfl) (by decide) ?_
      refine A_aload_n hg dX10_count_182 rfl rfl ?_
      refine A_getf (v := .ref (q_h G + 25)) hg fl_RX10_40 dX10_count_183 hc0 (by omega) rfl ?_
      refine A_getf (v := .int (nI (g 5))) hg fl_RX10_158 dX10_count_186 hg_1 (by omega) rfl ?_
      rw [hQ]
      exact A_ireturn hg (by decide) (by decide) rfl dX10_count_189 ⟨rfl, ⟨9, (by rfl), (x_swN (by decide) hx1), (by decide), ⟨(h0), (h1), (h2), (h3), (h4), flA, n0A, gvA, gsA, lmA, vsA, nmA, onA, slA, moA, nbA, bmA, skA, s2A, vaA, spA, rfA, hm_15, hm_16, hm_17, hm_18, hm_19, hm_20, hm_21, hm_22, hm_23, hm_24, hm_25, hTI⟩, (fun _ _ => rfl)⟩⟩
    | 10, _, hx1 =>
      refine A_tableIn (tgt := 190) (off := 189) hg dX10_count_1 (by rw [hx1]; decide) (by rw [hx1]; decide) (by rw [hx1]; rfl) (by decide) ?_
      refine A_aload_n hg dX10_count_190 rfl rfl ?_
      refine A_getf (v := .ref (q_h G + 78)) hg fl_RX10_54 dX10_count_191 hc0 (by omega) rfl ?_
      refine A_getf (v := .int (nI (m))) hg fl_RX10_161 dX10_count_194 hc1 (by omega) rfl ?_
      rw [hQ]
      exact A_ireturn hg (by decide) (by decide) rfl dX10_count_197 ⟨rfl, ⟨10, (by rfl), (x_swN (by decide) hx1), (by decide), ⟨(h0), (h1), (h2), (h3), (h4), flA, n0A, gvA, gsA, lmA, vsA, nmA, onA, slA, moA, nbA, bmA, skA, s2A, vaA, spA, rfA, hm_15, hm_16, hm_17, hm_18, hm_19, hm_20, hm_21, hm_22, hm_23, hm_24, hm_25, hTI⟩, (fun _ _ => rfl)⟩⟩
    | 11, _, hx1 =>
      refine A_tableIn (tgt := 198) (off := 197) hg dX10_count_1 (by rw [hx1]; decide) (by rw [hx1]; decide) (by rw [hx1]; rfl) (by decide) ?_
      refine A_aload_n hg dX10_count_198 rfl rfl ?_
      refine A_getf (v := .ref (q_h G + 25)) hg fl_RX10_40 dX10_count_199 hc0 (by omega) rfl ?_
      refine A_getf (v := .ref (q_h G + 27)) hg fl_RX10_118 dX10_count_202 hg_1 (by omega) rfl ?_
      refine A_eV (kc2 := 0) (ks2 := 0) (As := []) (rest := []) hg lk_RX10_163 in_X6_units se_X6_units rfl dX10_count_205 ⟨by decide, by decide⟩ rfl rfl ⟨by decide, by decide⟩ hg_3 (by omega) rfl rfl (Nat.le_of_ble_eq_true rfl) (c_X6_units G ex n σ 27 (g 1) (g 2) fi se hg_3 hg_5 hg_6 (by omega) (by omega) (by omega)) ?_
      rw [hQ]
      exact A_ireturn hg (by decide) (by decide) rfl dX10_count_208 ⟨rfl, ⟨11, (congrArg (fun z => some (Value.int (nI z))) (x_us_un hxp (s_np g) (Nat.le_refl _))), (x_swN (by decide) hx1), (by decide), ⟨(h0), (h1), (h2), (h3), (h4), flA, n0A, gvA, gsA, lmA, vsA, nmA, onA, slA, moA, nbA, bmA, skA, s2A, vaA, spA, rfA, hm_15, hm_16, hm_17, hm_18, hm_19, hm_20, hm_21, hm_22, hm_23, hm_24, hm_25, hTI⟩, (fun _ _ => rfl)⟩⟩
    | 12, _, hx1 =>
      refine A_tableIn (tgt := 209) (off := 208) hg dX10_count_1 (by rw [hx1]; decide) (by rw [hx1]; decide) (by rw [hx1]; rfl) (by decide) ?_
      refine A_aload_n hg dX10_count_209 rfl rfl ?_
      refine A_getf (v := .ref (q_h G + 25)) hg fl_RX10_40 dX10_count_210 hc0 (by omega) rfl ?_
      refine A_getf (v := .int (nI (g 6))) hg fl_RX10_166 dX10_count_213 hg_1 (by omega) rfl ?_
      rw [hQ]
      exact A_ireturn hg (by decide) (by decide) rfl dX10_count_216 ⟨rfl, ⟨12, (by rfl), (x_swN (by decide) hx1), (by decide), ⟨(h0), (h1), (h2), (h3), (h4), flA, n0A, gvA, gsA, lmA, vsA, nmA, onA, slA, moA, nbA, bmA, skA, s2A, vaA, spA, rfA, hm_15, hm_16, hm_17, hm_18, hm_19, hm_20, hm_21, hm_22, hm_23, hm_24, hm_25, hTI⟩, (fun _ _ => rfl)⟩⟩
    | k + 13, h, _ => exact absurd h (by omega)
def x_hn (G : GL) (σ : Nat → va_E) : Prop := ∃ e0 e1 e2 e3 e4 : Int32, σ 242 = o1 G e0 e1 e2 e3 e4
theorem x_hn_e {G : GL} {σ σ2 : Nat → va_E} (e : σ2 242 = σ 242) (h : x_hn G σ) : x_hn G σ2 := by
  obtain ⟨a, b, c, d, f, h⟩ := h
  exact ⟨a, b, c, d, f, e.trans h⟩
theorem x_adv3 {g : Nat → Nat} {x : Nat} (hg : s_gwf g) (h : s_adv g = true) (hx : x = 3) : s_advA g x = (if s_aw g = true then 1 else 0) := by
  rw [hx]; unfold s_advA
  rw [if_neg (by decide), if_neg (by decide), if_neg (by decide), x_aw hg]
  by_cases ht : s_tot g = 0
  · rw [if_pos ht, if_neg (by rw [ht]; decide)]
  · rw [if_neg ht, if_pos (decide_eq_true ht)]
set_option maxRecDepth 100000 in
set_option maxHeartbeats 4000000 in
theorem c_X10_advice (G : GL) (ex : Bool) (n : Nat) (σ : Nat → va_E) (z1 : Int32) (z2 : Int32) (z3 : Int32) (g : Nat → Nat) (x : Int32) (hc0 : σ 0 = o10 G (z1) (z2) (z3)) (hn9 : 279 ≤ n) (hG : x_gm G σ 25 g) (hM : x_mx G σ) (hH : x_hn G σ) : CtX G yX10_advice cX10_advice 2 (some .int) ⟨7, 1, 6, 140⟩ [.ref (q_h G + 0), .int (x)] ex n σ (fun v9 σ2 => (∃ (x1 : Nat), v9 = some (.int (nI (s_advA g x1))) ∧ (x = nI x1) ∧ (x1 ≤ 3) ∧ (s_adv g = true) ∧ (x_mx G σ2) ∧ (x_hn G σ2) ∧ (∀ i : Nat, i < 43 ∨ (77 < i ∧ i ≠ 242) → σ2 i = σ i)) ∨ (∃ (x1 : Nat), v9 = some (.int (q_d (0))) ∧ (x = nI x1) ∧ (x1 ≤ 3) ∧ (s_adv g = false) ∧ (x_mx G σ2) ∧ (x_hn G σ2) ∧ (∀ i : Nat, i < 43 ∨ (77 < i ∧ i ≠ 242) → σ2 i = σ i))) (fun E σ2 => σ2 = σ ∧ ((E = "java/lang/IllegalArgumentException" ∧ (∀ j : Nat, 0 ≤ j → j ≤ 3 → x = nI j → False)))) := by
  refine q_enter [some (.ref (q_h G + 0)), some (.int (x))] (by decide) (Nat.le_of_ble_eq_true rfl) rfl ?_
  intro K hg
  obtain ⟨Q, hQ⟩ : ∃ Q, Q = q_Q G K ex n 1 6 (fun v9 n' σ' => n' = n ∧ (fun v9 σ2 => (∃ (x1 : Nat), v9 = some (.int (nI (s_advA g x1))) ∧ (x = nI x1) ∧ (x1 ≤ 3) ∧ (s_adv g = true) ∧ (x_mx G σ2) ∧ (x_hn G σ2) ∧ (∀ i : Nat, i < 43 ∨ (77 < i ∧ i ≠ 242) → σ2 i = σ i)) ∨ (∃ (x1 : Nat), v9 = some (.int (q_d (0))) ∧ (x = nI x1) ∧ (x1 ≤ 3) ∧ (s_adv g = false) ∧ (x_mx G σ2) ∧ (x_hn G σ2) ∧ (∀ i : Nat, i < 43 ∨ (77 < i ∧ i ≠ 242) → σ2 i = σ i))) v9 σ') (fun E σ2 => σ2 = σ ∧ ((E = "java/lang/IllegalArgumentException" ∧ (∀ j : Nat, 0 ≤ j → j ≤ 3 → x = nI j → False)))) := ⟨_, rfl⟩
  refine (?_ : AJ G K (q_Q G K ex n 1 6 _ _) 0 0 ex n 0 _ _ σ)
  rw [← hQ]
  obtain ⟨kd, fi, se, tf, ts, ac, tu, nm, on, sl, mo, nb, bm, ⟨hg_1, hg_2, hg_3, hg_4, hg_5, hg_6, hg_7, hg_8, hg_9, hg_10, hg_11, hg_12⟩, hgr⟩ := hG
  obtain ⟨hgw, hxp, htp, hrl, hac, htu⟩ := hgr
  have hrs := x_rl_rs hrl
  have hg0 := hgw.1
  have hg1 := hgw.2.1
  have hg2 := hgw.2.2.1
  have hg3 := hgw.2.2.2.1
  have hg6 := hgw.2.2.2.2.1
  have hnp : s_np g = g 1 + g 2 := rfl
  have hc_13 : ∀ j9 : Nat, j9 < g 0 → σ (25 + 10 + 2 * j9) = o7 G (25 + 10 + 2 * j9) (lN (nm j9)) (lN (on j9)) (nI (s_rule g j9 18)) (nI (s_rule g j9 19)) (nI (s_rule g j9 20)) := fun j9 hj => (hg_11 j9 (by omega)).trans (by rw [(hrl j9 hj).2.2.2.1, (hrl j9 hj).2.2.2.2.1, (hrl j9 hj).2.2.2.2.2.1])
  have hc_14 : ∀ j9 : Nat, j9 < g 0 → σ (25 + 10 + 2 * j9 + 1) = q_an G 5 (bm j9) := fun j9 hj => hg_12 j9 (by omega)
  obtain ⟨h0, h1, h2, h3, h4, flA, n0A, gvA, gsA, lmA, vsA, nmA, onA, slA, moA, nbA, bmA, skA, s2A, vaA, spA, rfA, hm_15, hm_16, hm_17, hm_18, hm_19, hm_20, hm_21, hm_22, hm_23, hm_24, hm_25, hTI⟩ := hM
  obtain ⟨e0, e1, e2, e3, e4, hh_26⟩ := hH
  refine A_iload_n hg dX10_advice_0 rfl rfl ?_
  refine A_iconst (v := (nI (0))) hg dX10_advice_1 (by decide) ?_
  refine A_iconst (v := (nI (3))) hg dX10_advice_2 (by decide) ?_
  refine A_pSX (kc2 := 1) (ks2 := 6) (As := [.int (x), .int (nI (0)), .int (nI (3))]) (rest := []) hg lk_RX10_179 st_X10_needRange dX10_advice_3 ⟨by decide, by decide⟩ rfl rfl ⟨by decide, by decide⟩ rfl rfl (Nat.le_of_ble_eq_true rfl) (c_X10_needRange G ex n σ x 0 3 (by omega) (by omega)) (fun E σx hx => by rw [hQ]; exact A_out hg (by decide) (by decide) (by obtain ⟨hs, hE, hx⟩ := hx; exact ⟨hs, ⟨hE, hx⟩⟩)) ?_
  rintro _ ⟨x1, rfl, hxe, hx0, hx3⟩
  refine (?_ : AJ G K Q 1 6 ex n 6 [some (.ref (q_h G + 0)), some (.int (x))] [] σ)
  subst hxe
  refine A_aload_n hg dX10_advice_6 rfl rfl ?_
  refine A_hV (kc2 := 1) (ks2 := 6) (As := []) (rest := []) hg lk_RX10_140 in_X10_fittedMix se_X10_fittedMix rfl dX10_advice_7 ⟨by decide, by decide⟩ rfl rfl ⟨by decide, by decide⟩ hc0 (by omega) rfl rfl (Nat.le_of_ble_eq_true rfl) (c_X10_fittedMix G ex n σ z1 z2 z3 g kd fi se nm on bm flA n0A gvA gsA lmA vsA nmA onA slA moA nbA bmA skA s2A vaA spA rfA hc0 hm_15 hm_16 hg_1 hg_2 hg_3 hg_4 hg_5 hg_6 hc_13 hc_14 hm_18 hm_19 hm_20 hm_21 hm_22 hm_23 hm_24 hm_25 (by omega) hgw hxp hrs hTI) ?_
  rintro _ σ_53 ⟨flB_27, n0B_28, gvB_29, gsB_30, lmB_31, vsB_32, nmB_33, onB_34, slB_35, moB_36, nbB_37, bmB_38, skB_39, s2B_40, vaB_41, spB_42, rfB_43, rfl, hTI2, hTF2, hc_44, hc_45, hc_46, hc_47, hc_48, hc_49, hc_50, hc_51, hf_52⟩
  refine (?_ : AJ G K Q 1 6 ex n 10 [some (.ref (q_h G + 0)), some (.int (nI (x1)))] [.ref (q_h G + 43)] σ_53)
  have hc_54 : σ_53 0 = o10 G (z1) (z2) (z3) := (hf_52 _ (by omega)).trans hc0
  have hc_55 : σ_53 25 = o0 G (25) (nI (g 0)) (nI (g 3)) (nI (g 4)) (nI (g 5)) (nI (g 6)) := (hf_52 _ (by omega)).trans hg_1
  have hc_56 : σ_53 26 = q_rn G 3 4 (fun j => some (25 + 10 + 2 * j)) := (hf_52 _ (by omega)).trans hg_2
  have hc_57 : σ_53 27 = o6 G (27) (nI (g 1)) (nI (g 2)) := (hf_52 _ (by omega)).trans hg_3
  have hc_58 : σ_53 (27 + 1) = q_an G 8 kd := (hf_52 _ (by omega)).trans hg_4
  have hc_59 : σ_53 (27 + 2) = q_an G 8 fi := (hf_52 _ (by omega)).trans hg_5
  have hc_60 : σ_53 (27 + 3) = q_an G 8 se := (hf_52 _ (by omega)).trans hg_6
  have hc_61 : σ_53 (27 + 4) = q_an G 8 tf := (hf_52 _ (by omega)).trans hg_7
  have hc_62 : σ_53 (27 + 5) = q_an G 8 ts := (hf_52 _ (by omega)).trans hg_8
  have hc_63 : σ_53 (25 + 8) = q_an G 10 ac := (hf_52 _ (by omega)).trans hg_9
  have hc_64 : σ_53 (25 + 9) = q_an G 100 tu := (hf_52 _ (by omega)).trans hg_10
  have hc_65 : ∀ j9 : Nat, j9 < g 0 → σ_53 (25 + 10 + 2 * j9) = o7 G (25 + 10 + 2 * j9) (lN (nm j9)) (lN (on j9)) (nI (s_rule g j9 18)) (nI (s_rule g j9 19)) (nI (s_rule g j9 20)) := fun j9 hj0 => (hf_52 _ (by omega)).trans (hc_13 j9 (by omega))
  have hc_66 : ∀ j9 : Nat, j9 < g 0 → σ_53 (25 + 10 + 2 * j9 + 1) = q_an G 5 (bm j9) := fun j9 hj0 => (hf_52 _ (by omega)).trans (hc_14 j9 (by omega))
  have hc_67 : σ_53 43 = o4 G (43)  := (hf_52 _ (by omega)).trans hm_15
  have hc_68 : σ_53 44 = q_rn G 4 4 (fun j => some (46 + 8 * j)) := (hf_52 _ (by omega)).trans hm_16
  have hc_69 : σ_53 45 = o1 G (h0) (h1) (h2) (h3) (h4) := (hf_52 _ (by omega)).trans hm_17
  have hc_70 : σ_53 242 = o1 G (e0) (e1) (e2) (e3) (e4) := (hf_52 _ (by omega)).trans hh_26
  refine A_aload_n hg dX10_advice_10 rfl rfl ?_
  refine A_getf (v := .ref (q_h G + 25)) hg fl_RX10_40 dX10_advice_11 hc_54 (by omega) rfl ?_
  refine A_getf (v := .ref (q_h G + 27)) hg fl_RX10_118 dX10_advice_14 hc_55 (by omega) rfl ?_
  refine A_aload_n hg dX10_advice_17 rfl rfl ?_
  refine A_getf (v := .ref (q_h G + 242)) hg fl_RX10_90 dX10_advice_18 hc_54 (by omega) rfl ?_
  refine A_vV (kc2 := 1) (ks2 := 6) (As := [.ref (q_h G + 27), .ref (q_h G + 242)]) (rest := []) hg lk_RX10_327 in_X4_advise se_X4_advise rfl dX10_advice_21 ⟨by decide, by decide⟩ rfl rfl ⟨by decide, by decide⟩ hc_67 (by omega) rfl rfl (Nat.le_of_ble_eq_true rfl) (c_X4_advise G ex n σ_53 27 g kd fi se flB_27 n0B_28 gvB_29 gsB_30 lmB_31 vsB_32 nmB_33 onB_34 slB_35 moB_36 nbB_37 bmB_38 skB_39 s2B_40 vaB_41 spB_42 rfB_43 242 e0 e1 e2 e3 e4 hc_67 hc_68 hc_57 hc_58 hc_59 hc_60 hc_44 hc_45 hc_46 hc_47 hc_48 hc_49 hc_50 hc_51 hc_70 (by omega) (Or.inl rfl) hgw hxp hTF2 (Or.inr rfl)) ?_
  rintro σ_73 ⟨px, kx, lx, hadv9, hc_71, hf_72⟩
  have hc_74 : σ_73 0 = o10 G (z1) (z2) (z3) := (hf_72 _ (by omega)).trans hc_54
  have hc_75 : σ_73 25 = o0 G (25) (nI (g 0)) (nI (g 3)) (nI (g 4)) (nI (g 5)) (nI (g 6)) := (hf_72 _ (by omega)).trans hc_55
  have hc_76 : σ_73 26 = q_rn G 3 4 (fun j => some (25 + 10 + 2 * j)) := (hf_72 _ (by omega)).trans hc_56
  have hc_77 : σ_73 27 = o6 G (27) (nI (g 1)) (nI (g 2)) := (hf_72 _ (by omega)).trans hc_57
  have hc_78 : σ_73 (27 + 1) = q_an G 8 kd := (hf_72 _ (by omega)).trans hc_58
  have hc_79 : σ_73 (27 + 2) = q_an G 8 fi := (hf_72 _ (by omega)).trans hc_59
  have hc_80 : σ_73 (27 + 3) = q_an G 8 se := (hf_72 _ (by omega)).trans hc_60
  have hc_81 : σ_73 (27 + 4) = q_an G 8 tf := (hf_72 _ (by omega)).trans hc_61
  have hc_82 : σ_73 (27 + 5) = q_an G 8 ts := (hf_72 _ (by omega)).trans hc_62
  have hc_83 : σ_73 (25 + 8) = q_an G 10 ac := (hf_72 _ (by omega)).trans hc_63
  have hc_84 : σ_73 (25 + 9) = q_an G 100 tu := (hf_72 _ (by omega)).trans hc_64
  have hc_85 : ∀ j9 : Nat, j9 < g 0 → σ_73 (25 + 10 + 2 * j9) = o7 G (25 + 10 + 2 * j9) (lN (nm j9)) (lN (on j9)) (nI (s_rule g j9 18)) (nI (s_rule g j9 19)) (nI (s_rule g j9 20)) := fun j9 hj0 => (hf_72 _ (by omega)).trans (hc_65 j9 (by omega))
  have hc_86 : ∀ j9 : Nat, j9 < g 0 → σ_73 (25 + 10 + 2 * j9 + 1) = q_an G 5 (bm j9) := fun j9 hj0 => (hf_72 _ (by omega)).trans (hc_66 j9 (by omega))
  have hc_87 : σ_73 43 = o4 G (43)  := (hf_72 _ (by omega)).trans hc_67
  have hc_88 : σ_73 44 = q_rn G 4 4 (fun j => some (46 + 8 * j)) := (hf_72 _ (by omega)).trans hc_68
  have hc_89 : σ_73 45 = o1 G (h0) (h1) (h2) (h3) (h4) := (hf_72 _ (by omega)).trans hc_69
  have hc_90 : ∀ j9 : Nat, j9 < 4 → σ_73 (46 + 8 * j9) = o8 G (46 + 8 * j9) (nI (flB_27 j9)) (nI (n0B_28 j9)) (nI (gvB_29 j9)) (nI (gsB_30 j9)) (nI (lmB_31 j9)) (nI (vsB_32 j9)) := fun j9 hj0 => (hf_72 _ (by omega)).trans (hc_44 j9 (by omega))
  have hc_91 : ∀ j9 : Nat, j9 < 4 → σ_73 (46 + 8 * j9 + 1) = o7 G (46 + 8 * j9 + 1) (lN (nmB_33 j9)) (lN (onB_34 j9)) (nI (slB_35 j9)) (nI (moB_36 j9)) (nI (nbB_37 j9)) := fun j9 hj0 => (hf_72 _ (by omega)).trans (hc_45 j9 (by omega))
  have hc_92 : ∀ j9 : Nat, j9 < 4 → σ_73 (46 + 8 * j9 + 2) = q_an G 5 (bmB_38 j9) := fun j9 hj0 => (hf_72 _ (by omega)).trans (hc_46 j9 (by omega))
  have hc_93 : ∀ j9 : Nat, j9 < 4 → σ_73 (46 + 8 * j9 + 3) = q_an G 1681 (skB_39 j9) := fun j9 hj0 => (hf_72 _ (by omega)).trans (hc_47 j9 (by omega))
  have hc_94 : ∀ j9 : Nat, j9 < 4 → σ_73 (46 + 8 * j9 + 4) = q_an G 1681 (s2B_40 j9) := fun j9 hj0 => (hf_72 _ (by omega)).trans (hc_48 j9 (by omega))
  have hc_95 : ∀ j9 : Nat, j9 < 4 → σ_73 (46 + 8 * j9 + 5) = q_an G 1681 (vaB_41 j9) := fun j9 hj0 => (hf_72 _ (by omega)).trans (hc_49 j9 (by omega))
  have hc_96 : ∀ j9 : Nat, j9 < 4 → σ_73 (46 + 8 * j9 + 6) = q_an G 1681 (spB_42 j9) := fun j9 hj0 => (hf_72 _ (by omega)).trans (hc_50 j9 (by omega))
  have hc_97 : ∀ j9 : Nat, j9 < 4 → σ_73 (46 + 8 * j9 + 7) = q_an G 1681 (rfB_43 j9) := fun j9 hj0 => (hf_72 _ (by omega)).trans (hc_51 j9 (by omega))
  refine A_aload_n hg dX10_advice_24 rfl rfl ?_
  refine A_getf (v := .ref (q_h G + 242)) hg fl_RX10_90 dX10_advice_25 hc_74 (by omega) rfl ?_
  refine A_getf (v := .int (q_b (s_adv g))) hg fl_RX10_331 dX10_advice_28 hc_71 (by omega) rfl ?_
  refine A_if_neB (tgt := 36) hg dX10_advice_31 (by decide) (fun c31 => ?_) (fun c31 => ?_)
  · skip
    refine A_iload_n hg dX10_advice_36 rfl rfl ?_
    by_cases hd37 : (nI (x1)).toInt < 0 ∨ 2 < (nI (x1)).toInt
    · skip
      refine A_tableOut (tgt := 88) hg dX10_advice_37 hd37 (by decide) ?_
      refine A_aload_n hg dX10_advice_88 rfl rfl ?_
      refine A_getf (v := .ref (q_h G + 242)) hg fl_RX10_90 dX10_advice_89 hc_74 (by omega) rfl ?_
      refine A_getf (v := .int (q_b (s_aw g))) hg fl_RX10_344 dX10_advice_92 hc_71 (by omega) rfl ?_
      refine A_if_eqB (tgt := 102) hg dX10_advice_95 (by decide) (fun c95 => ?_) (fun c95 => ?_)
      · skip
        refine A_iconst (v := (nI (0))) hg dX10_advice_102 (by decide) ?_
        rw [hQ]
        exact A_ireturn hg (by decide) (by decide) rfl dX10_advice_103 ⟨rfl, Or.inl (⟨x1, (by obtain ⟨ha1, ha2, ha3⟩ := hadv9 c31; rw [x_adv3 hgw c31 (q_swD (m := 3) hx3 rfl (by decide) rfl hd37), c95]; rfl), rfl, hx3, (c31 : s_adv g = true), ⟨(h0), (h1), (h2), (h3), (h4), flB_27, n0B_28, gvB_29, gsB_30, lmB_31, vsB_32, nmB_33, onB_34, slB_35, moB_36, nbB_37, bmB_38, skB_39, s2B_40, vaB_41, spB_42, rfB_43, hc_87, hc_88, hc_89, hc_90, hc_91, hc_92, hc_93, hc_94, hc_95, hc_96, hc_97, hTI2⟩, ⟨_, _, _, _, _, hc_71⟩, (fun i hi => ((hf_72 i (by omega)).trans (hf_52 i (by omega))))⟩)⟩
      · skip
        refine A_iconst (v := (nI (1))) hg dX10_advice_98 (by decide) ?_
        refine A_goto (tgt := 103) hg dX10_advice_99 (by decide) ?_
        rw [hQ]
        exact A_ireturn hg (by decide) (by decide) rfl dX10_advice_103 ⟨rfl, Or.inl (⟨x1, (by obtain ⟨ha1, ha2, ha3⟩ := hadv9 c31; rw [x_adv3 hgw c31 (q_swD (m := 3) hx3 rfl (by decide) rfl hd37), c95]; rfl), rfl, hx3, (c31 : s_adv g = true), ⟨(h0), (h1), (h2), (h3), (h4), flB_27, n0B_28, gvB_29, gsB_30, lmB_31, vsB_32, nmB_33, onB_34, slB_35, moB_36, nbB_37, bmB_38, skB_39, s2B_40, vaB_41, spB_42, rfB_43, hc_87, hc_88, hc_89, hc_90, hc_91, hc_92, hc_93, hc_94, hc_95, hc_96, hc_97, hTI2⟩, ⟨_, _, _, _, _, hc_71⟩, (fun i hi => ((hf_72 i (by omega)).trans (hf_52 i (by omega))))⟩)⟩
    · skip
      obtain ⟨k37, hk37, hx37⟩ := q_sw 0 2 hd37
      match k37, hk37, hx37 with
      | 0, _, hx37 =>
        refine A_tableIn (tgt := 64) (off := 27) hg dX10_advice_37 (by rw [hx37]; decide) (by rw [hx37]; decide) (by rw [hx37]; rfl) (by decide) ?_
        refine A_aload_n hg dX10_advice_64 rfl rfl ?_
        refine A_getf (v := .ref (q_h G + 242)) hg fl_RX10_90 dX10_advice_65 hc_74 (by omega) rfl ?_
        refine A_getf (v := .int (px)) hg fl_RX10_335 dX10_advice_68 hc_71 (by omega) rfl ?_
        rw [hQ]
        exact A_ireturn hg (by decide) (by decide) rfl dX10_advice_71 ⟨rfl, Or.inl (⟨x1, (by obtain ⟨ha1, ha2, ha3⟩ := hadv9 c31; show some (Value.int px) = _; rw [q_swN (by omega) hx37, ha1]; rfl), rfl, hx3, (c31 : s_adv g = true), ⟨(h0), (h1), (h2), (h3), (h4), flB_27, n0B_28, gvB_29, gsB_30, lmB_31, vsB_32, nmB_33, onB_34, slB_35, moB_36, nbB_37, bmB_38, skB_39, s2B_40, vaB_41, spB_42, rfB_43, hc_87, hc_88, hc_89, hc_90, hc_91, hc_92, hc_93, hc_94, hc_95, hc_96, hc_97, hTI2⟩, ⟨_, _, _, _, _, hc_71⟩, (fun i hi => ((hf_72 i (by omega)).trans (hf_52 i (by omega))))⟩)⟩
      | 1, _, hx37 =>
        refine A_tableIn (tgt := 72) (off := 35) hg dX10_advice_37 (by rw [hx37]; decide) (by rw [hx37]; decide) (by rw [hx37]; rfl) (by decide) ?_
        refine A_aload_n hg dX10_advice_72 rfl rfl ?_
        refine A_getf (v := .ref (q_h G + 242)) hg fl_RX10_90 dX10_advice_73 hc_74 (by omega) rfl ?_
        refine A_getf (v := .int (kx)) hg fl_RX10_338 dX10_advice_76 hc_71 (by omega) rfl ?_
        rw [hQ]
        exact A_ireturn hg (by decide) (by decide) rfl dX10_advice_79 ⟨rfl, Or.inl (⟨x1, (by obtain ⟨ha1, ha2, ha3⟩ := hadv9 c31; show some (Value.int kx) = _; rw [q_swN (by omega) hx37, ha2]; rfl), rfl, hx3, (c31 : s_adv g = true), ⟨(h0), (h1), (h2), (h3), (h4), flB_27, n0B_28, gvB_29, gsB_30, lmB_31, vsB_32, nmB_33, onB_34, slB_35, moB_36, nbB_37, bmB_38, skB_39, s2B_40, vaB_41, spB_42, rfB_43, hc_87, hc_88, hc_89, hc_90, hc_91, hc_92, hc_93, hc_94, hc_95, hc_96, hc_97, hTI2⟩, ⟨_, _, _, _, _, hc_71⟩, (fun i hi => ((hf_72 i (by omega)).trans (hf_52 i (by omega))))⟩)⟩
      | 2, _, hx37 =>
        refine A_tableIn (tgt := 80) (off := 43) hg dX10_advice_37 (by rw [hx37]; decide) (by rw [hx37]; decide) (by rw [hx37]; rfl) (by decide) ?_
        refine A_aload_n hg dX10_advice_80 rfl rfl ?_
        refine A_getf (v := .ref (q_h G + 242)) hg fl_RX10_90 dX10_advice_81 hc_74 (by omega) rfl ?_
        refine A_getf (v := .int (lx)) hg fl_RX10_341 dX10_advice_84 hc_71 (by omega) rfl ?_
        rw [hQ]
        exact A_ireturn hg (by decide) (by decide) rfl dX10_advice_87 ⟨rfl, Or.inl (⟨x1, (by obtain ⟨ha1, ha2, ha3⟩ := hadv9 c31; show some (Value.int lx) = _; rw [q_swN (by omega) hx37, ha3]; rfl), rfl, hx3, (c31 : s_adv g = true), ⟨(h0), (h1), (h2), (h3), (h4), flB_27, n0B_28, gvB_29, gsB_30, lmB_31, vsB_32, nmB_33, onB_34, slB_35, moB_36, nbB_37, bmB_38, skB_39, s2B_40, vaB_41, spB_42, rfB_43, hc_87, hc_88, hc_89, hc_90, hc_91, hc_92, hc_93, hc_94, hc_95, hc_96, hc_97, hTI2⟩, ⟨_, _, _, _, _, hc_71⟩, (fun i hi => ((hf_72 i (by omega)).trans (hf_52 i (by omega))))⟩)⟩
      | k + 3, h, _ => exact absurd h (by omega)
  · skip
    refine A_iconst (v := (q_d (0))) hg dX10_advice_34 (by decide) ?_
    rw [hQ]
    exact A_ireturn hg (by decide) (by decide) rfl dX10_advice_35 ⟨rfl, Or.inr ((⟨x1, rfl, rfl, hx3, (c31 : s_adv g = false), ⟨(h0), (h1), (h2), (h3), (h4), flB_27, n0B_28, gvB_29, gsB_30, lmB_31, vsB_32, nmB_33, onB_34, slB_35, moB_36, nbB_37, bmB_38, skB_39, s2B_40, vaB_41, spB_42, rfB_43, hc_87, hc_88, hc_89, hc_90, hc_91, hc_92, hc_93, hc_94, hc_95, hc_96, hc_97, hTI2⟩, ⟨_, _, _, _, _, hc_71⟩, (fun i hi => ((hf_72 i (by omega)).trans (hf_52 i (by omega))))⟩))⟩
end
