section
theorem x_mvs_f (g : Nat → Nat) (p : Nat) : s_cc (x_okt g p 0) (s_x g p + 1) (s_y g p + 1) = s_mvs g p false := by
  rw [x_okt_0]; rfl
theorem x_tx {g tf ts : Nat → Nat} {p : Nat} (hg : s_gwf g) (h : x_tp g tf ts) (hp : p < s_np g) : tf (x_pl (g 1) p) = s_tx g p := by
  unfold s_np at hp
  unfold s_tx
  by_cases hb : p < g 1
  · rw [if_pos hb, x_pl_b hb, (h.1 p hb).1]
  · rw [if_neg hb, x_pl_g hb, (h.2 (p - g 1) (by omega)).1]
set_option maxRecDepth 100000 in
set_option maxHeartbeats 4000000 in
theorem c_X10_part (G : GL) (ex : Bool) (n : Nat) (σ : Nat → va_E) (z1 : Int32) (z2 : Int32) (z3 : Int32) (g : Nat → Nat) (p : Int32) (x : Int32) (hc0 : σ 0 = o10 G (z1) (z2) (z3)) (hn9 : 279 ≤ n) (hG : x_gm G σ 25 g) (hM : x_mx G σ) : CtX G yX10_part cX10_part 5 (some .int) ⟨7, 2, 12, 140⟩ [.ref (q_h G + 0), .int (p), .int (x)] ex n σ (fun v9 σ2 => ∃ (p1 : Nat), ∃ (x1 : Nat), v9 = some (.int (s_partA g p1 x1)) ∧ (p = nI p1) ∧ (p1 < s_np g) ∧ (x = nI x1) ∧ (x1 ≤ 8) ∧ (x_mx G σ2) ∧ (∀ i : Nat, i < 43 ∨ 77 < i → σ2 i = σ i)) (fun E σ2 => σ2 = σ ∧ ((E = "java/lang/IndexOutOfBoundsException" ∧ (∀ j : Nat, j < s_np g → p = nI j → False)) ∨ (E = "java/lang/IllegalArgumentException" ∧ (∃ p1 : Nat, p = nI p1 ∧ p1 < s_np g ∧ (∀ j : Nat, 0 ≤ j → j ≤ 8 → x = nI j → False))))) := by
  refine q_enter [some (.ref (q_h G + 0)), some (.int (p)), some (.int (x)), none, none] (by decide) (Nat.le_of_ble_eq_true rfl) rfl ?_
  intro K hg
  obtain ⟨Q, hQ⟩ : ∃ Q, Q = q_Q G K ex n 2 12 (fun v9 n' σ' => n' = n ∧ (fun v9 σ2 => ∃ (p1 : Nat), ∃ (x1 : Nat), v9 = some (.int (s_partA g p1 x1)) ∧ (p = nI p1) ∧ (p1 < s_np g) ∧ (x = nI x1) ∧ (x1 ≤ 8) ∧ (x_mx G σ2) ∧ (∀ i : Nat, i < 43 ∨ 77 < i → σ2 i = σ i)) v9 σ') (fun E σ2 => σ2 = σ ∧ ((E = "java/lang/IndexOutOfBoundsException" ∧ (∀ j : Nat, j < s_np g → p = nI j → False)) ∨ (E = "java/lang/IllegalArgumentException" ∧ (∃ p1 : Nat, p = nI p1 ∧ p1 < s_np g ∧ (∀ j : Nat, 0 ≤ j → j ≤ 8 → x = nI j → False))))) := ⟨_, rfl⟩
  refine (?_ : AJ G K (q_Q G K ex n 2 12 _ _) 0 0 ex n 0 _ _ σ)
  rw [← hQ]
  obtain ⟨kd, fi, se, tf, ts, ac, tu, nm, on, sl, mo, nb, bm, ⟨hg_1, hg_2, hg_3, hg_4, hg_5, hg_6, hg_7, hg_8, hg_9, hg_10, hg_11, hg_12⟩, hgr⟩ := hG
  obtain ⟨hgw, hxp, htp, hrl, hac, htu⟩ := hgr
  have hrs := x_rl_rs hrl
  have hg0 := hgw.1
  have hg1 := hgw.2.1
  have hg2 := hgw.2.2.1
  have hg3 := hgw.2.2.2.1
  have hg6 := hgw.2.2.2.2.1
  have hnp : s_np g = g 1 + g 2 := rfl
  have hc_13 : ∀ j9 : Nat, j9 < g 0 → σ (25 + 10 + 2 * j9) = o7 G (25 + 10 + 2 * j9) (lN (nm j9)) (lN (on j9)) (nI (s_rule g j9 18)) (nI (s_rule g j9 19)) (nI (s_rule g j9 20)) := fun j9 hj => (hg_11 j9 (by omega)).trans (by rw [(hrl j9 hj).2.2.2.1, (hrl j9 hj).2.2.2.2.1, (hrl j9 hj).2.2.2.2.2.1])
  have hc_14 : ∀ j9 : Nat, j9 < g 0 → σ (25 + 10 + 2 * j9 + 1) = q_an G 5 (bm j9) := fun j9 hj => hg_12 j9 (by omega)
  obtain ⟨h0, h1, h2, h3, h4, flA, n0A, gvA, gsA, lmA, vsA, nmA, onA, slA, moA, nbA, bmA, skA, s2A, vaA, spA, rfA, hm_15, hm_16, hm_17, hm_18, hm_19, hm_20, hm_21, hm_22, hm_23, hm_24, hm_25, hTI⟩ := hM
  refine A_aload_n hg dX10_part_0 rfl rfl ?_
  refine A_iload_n hg dX10_part_1 rfl rfl ?_
  refine A_pVX (kc2 := 1) (ks2 := 6) (As := [.int (p)]) (rest := []) hg lk_RX10_257 in_X10_needPart se_X10_needPart rfl dX10_part_2 ⟨by decide, by decide⟩ rfl rfl ⟨by decide, by decide⟩ hc0 (by omega) rfl rfl (Nat.le_of_ble_eq_true rfl) (c_X10_needPart G ex n σ z1 z2 z3 (g 0) (g 3) (g 4) (g 5) (g 6) (g 1) (g 2) p hc0 hg_1 hg_3 (by omega) (by omega) (by omega)) (fun E σx hx => by rw [hQ]; exact A_out hg (by decide) (by decide) (by obtain ⟨hs, hE, hx⟩ := hx; exact ⟨hs, Or.inl (⟨hE, hx⟩)⟩)) ?_
  rintro _ ⟨p1, rfl, hpe, hpl9⟩
  refine (?_ : AJ G K Q 1 6 ex n 5 [some (.ref (q_h G + 0)), some (.int (p)), some (.int (x)), none, none] [] σ)
  subst hpe
  have hpp : p1 < s_np g := hpl9
  refine A_aload_n hg dX10_part_5 rfl rfl ?_
  refine A_getf (v := .ref (q_h G + 25)) hg fl_RX10_40 dX10_part_6 hc0 (by omega) rfl ?_
  refine A_getf (v := .ref (q_h G + 27)) hg fl_RX10_118 dX10_part_9 hg_1 (by omega) rfl ?_
  refine A_astore_n hg dX10_part_12 rfl (by decide) (q_c1d rfl) ?_
  refine A_eq (ls2 := [some (.ref (q_h G + 0)), some (.int (nI (p1))), some (.int (x)), some (.ref (q_h G + 27)), none]) (st2 := []) (pc2 := 0) rfl rfl ?_
  refine A_aload_n hg dX10_part_13 rfl rfl ?_
  refine A_iload_n hg dX10_part_14 rfl rfl ?_
  refine A_eV (kc2 := 1) (ks2 := 6) (As := [.int (nI (p1))]) (rest := []) hg lk_RX10_260 in_X6_isBoard se_X6_isBoard rfl dX10_part_15 ⟨by decide, by decide⟩ rfl rfl ⟨by decide, by decide⟩ hg_3 (by omega) rfl rfl (Nat.le_of_ble_eq_true rfl) (c_X6_isBoard G ex n σ 27 (g 1) (g 2) p1 hg_3 (by omega) (by omega) (by omega)) ?_
  refine A_istore hg dX10_part_18 (by decide) (q_c1d rfl) ?_
  refine A_eq (ls2 := [some (.ref (q_h G + 0)), some (.int (nI (p1))), some (.int (x)), some (.ref (q_h G + 27)), some (.int (q_b (decide (p1 < (g 1)))))]) (st2 := []) (pc2 := 0) rfl rfl ?_
  refine A_iload_n hg dX10_part_20 rfl rfl ?_
  by_cases hd21 : (x).toInt < 0 ∨ 8 < (x).toInt
  · skip
    refine A_tableOut (tgt := 162) hg dX10_part_21 hd21 (by decide) ?_
    rw [hQ]
    exact A_throwSW (text := "there is no such number of a part") (names := ["java/lang/RuntimeException", "java/lang/Exception"]) hg (by decide +kernel) (by decide +kernel) tw_IllegalArgumentException.2.2.1 tw_IllegalArgumentException.2.2.2 (q_mt 1055 (by decide +kernel)) tw_IllegalArgumentException.1 tw_IllegalArgumentException.2.1 dX10_part_162 dX10_part_165 dX10_part_166 dX10_part_169 dX10_part_172 ⟨by decide, by decide, by decide, by decide⟩ (by decide) (by decide) ⟨rfl, Or.inr (⟨rfl, p1, rfl, hpl9, (x_swD (by decide) hd21)⟩)⟩
  · skip
    obtain ⟨k21, hk21, hx21⟩ := q_sw 0 8 hd21
    match k21, hk21, hx21 with
    | 0, _, hx21 =>
      refine A_tableIn (tgt := 72) (off := 51) hg dX10_part_21 (by rw [hx21]; decide) (by rw [hx21]; decide) (by rw [hx21]; rfl) (by decide) ?_
      refine A_iload hg dX10_part_72 rfl ?_
      refine A_if_eqB (tgt := 81) hg dX10_part_74 (by decide) (fun c74 => ?_) (fun c74 => ?_)
      · skip
        refine A_iconst (v := (nI (1))) hg dX10_part_81 (by decide) ?_
        rw [hQ]
        exact A_ireturn hg (by decide) (by decide) rfl dX10_part_82 ⟨rfl, ⟨p1, 0, (by show _ = some (Value.int (nI (if p1 < g 1 then 0 else 1))); first | rw [if_pos (of_decide_eq_true c74)] | rw [if_neg (of_decide_eq_false c74)]), rfl, hpl9, (x_swN (by decide) hx21), (by decide), ⟨(h0), (h1), (h2), (h3), (h4), flA, n0A, gvA, gsA, lmA, vsA, nmA, onA, slA, moA, nbA, bmA, skA, s2A, vaA, spA, rfA, hm_15, hm_16, hm_17, hm_18, hm_19, hm_20, hm_21, hm_22, hm_23, hm_24, hm_25, hTI⟩, (fun _ _ => rfl)⟩⟩
      · skip
        refine A_iconst (v := (nI (0))) hg dX10_part_77 (by decide) ?_
        refine A_goto (tgt := 82) hg dX10_part_78 (by decide) ?_
        rw [hQ]
        exact A_ireturn hg (by decide) (by decide) rfl dX10_part_82 ⟨rfl, ⟨p1, 0, (by show _ = some (Value.int (nI (if p1 < g 1 then 0 else 1))); first | rw [if_pos (of_decide_eq_true c74)] | rw [if_neg (of_decide_eq_false c74)]), rfl, hpl9, (x_swN (by decide) hx21), (by decide), ⟨(h0), (h1), (h2), (h3), (h4), flA, n0A, gvA, gsA, lmA, vsA, nmA, onA, slA, moA, nbA, bmA, skA, s2A, vaA, spA, rfA, hm_15, hm_16, hm_17, hm_18, hm_19, hm_20, hm_21, hm_22, hm_23, hm_24, hm_25, hTI⟩, (fun _ _ => rfl)⟩⟩
    | 1, _, hx21 =>
      refine A_tableIn (tgt := 83) (off := 62) hg dX10_part_21 (by rw [hx21]; decide) (by rw [hx21]; decide) (by rw [hx21]; rfl) (by decide) ?_
      refine A_aload_n hg dX10_part_83 rfl rfl ?_
      refine A_iload_n hg dX10_part_84 rfl rfl ?_
      refine A_eV (kc2 := 1) (ks2 := 6) (As := [.int (nI (p1))]) (rest := []) hg lk_RX10_264 in_X6_kindOf se_X6_kindOf rfl dX10_part_85 ⟨by decide, by decide⟩ rfl rfl ⟨by decide, by decide⟩ hg_3 (by omega) rfl rfl (Nat.le_of_ble_eq_true rfl) (c_X6_kindOf G ex n σ 27 (g 1) (g 2) kd p1 hg_3 hg_4 (by omega) (by omega) (by omega)) ?_
      rw [hQ]
      exact A_ireturn hg (by decide) (by decide) rfl dX10_part_88 ⟨rfl, ⟨p1, 1, (by rw [x_p_k hxp hpp]; rfl), rfl, hpl9, (x_swN (by decide) hx21), (by decide), ⟨(h0), (h1), (h2), (h3), (h4), flA, n0A, gvA, gsA, lmA, vsA, nmA, onA, slA, moA, nbA, bmA, skA, s2A, vaA, spA, rfA, hm_15, hm_16, hm_17, hm_18, hm_19, hm_20, hm_21, hm_22, hm_23, hm_24, hm_25, hTI⟩, (fun _ _ => rfl)⟩⟩
    | 2, _, hx21 =>
      refine A_tableIn (tgt := 89) (off := 68) hg dX10_part_21 (by rw [hx21]; decide) (by rw [hx21]; decide) (by rw [hx21]; rfl) (by decide) ?_
      refine A_aload_n hg dX10_part_89 rfl rfl ?_
      refine A_iload_n hg dX10_part_90 rfl rfl ?_
      refine A_eV (kc2 := 1) (ks2 := 6) (As := [.int (nI (p1))]) (rest := []) hg lk_RX10_267 in_X6_firstOf se_X6_firstOf rfl dX10_part_91 ⟨by decide, by decide⟩ rfl rfl ⟨by decide, by decide⟩ hg_3 (by omega) rfl rfl (Nat.le_of_ble_eq_true rfl) (c_X6_firstOf G ex n σ 27 (g 1) (g 2) fi p1 hg_3 hg_5 (by omega) (by omega) (by omega)) ?_
      rw [hQ]
      exact A_ireturn hg (by decide) (by decide) rfl dX10_part_94 ⟨rfl, ⟨p1, 2, (by rw [x_p_x hxp hpp]; rfl), rfl, hpl9, (x_swN (by decide) hx21), (by decide), ⟨(h0), (h1), (h2), (h3), (h4), flA, n0A, gvA, gsA, lmA, vsA, nmA, onA, slA, moA, nbA, bmA, skA, s2A, vaA, spA, rfA, hm_15, hm_16, hm_17, hm_18, hm_19, hm_20, hm_21, hm_22, hm_23, hm_24, hm_25, hTI⟩, (fun _ _ => rfl)⟩⟩
    | 3, _, hx21 =>
      refine A_tableIn (tgt := 95) (off := 74) hg dX10_part_21 (by rw [hx21]; decide) (by rw [hx21]; decide) (by rw [hx21]; rfl) (by decide) ?_
      refine A_iload hg dX10_part_95 rfl ?_
      refine A_if_eqB (tgt := 108) hg dX10_part_97 (by decide) (fun c97 => ?_) (fun c97 => ?_)
      · skip
        refine A_iconst (v := (q_d (0))) hg dX10_part_108 (by decide) ?_
        rw [hQ]
        exact A_ireturn hg (by decide) (by decide) rfl dX10_part_109 ⟨rfl, ⟨p1, 3, (by show _ = some (Value.int (if p1 < g 1 then nI (g (133 + 5 * p1 + 2)) else q_d 0)); first | rw [if_pos (of_decide_eq_true c97), x_pl_b (of_decide_eq_true c97), (hxp.1 p1 (of_decide_eq_true c97)).2.2] | rw [if_neg (of_decide_eq_false c97)]), rfl, hpl9, (x_swN (by decide) hx21), (by decide), ⟨(h0), (h1), (h2), (h3), (h4), flA, n0A, gvA, gsA, lmA, vsA, nmA, onA, slA, moA, nbA, bmA, skA, s2A, vaA, spA, rfA, hm_15, hm_16, hm_17, hm_18, hm_19, hm_20, hm_21, hm_22, hm_23, hm_24, hm_25, hTI⟩, (fun _ _ => rfl)⟩⟩
      · skip
        refine A_aload_n hg dX10_part_100 rfl rfl ?_
        refine A_iload_n hg dX10_part_101 rfl rfl ?_
        refine A_eV (kc2 := 1) (ks2 := 6) (As := [.int (nI (p1))]) (rest := []) hg lk_RX10_270 in_X6_secondOf se_X6_secondOf rfl dX10_part_102 ⟨by decide, by decide⟩ rfl rfl ⟨by decide, by decide⟩ hg_3 (by omega) rfl rfl (Nat.le_of_ble_eq_true rfl) (c_X6_secondOf G ex n σ 27 (g 1) (g 2) se p1 hg_3 hg_6 (by omega) (by omega) (by omega)) ?_
        refine A_goto (tgt := 109) hg dX10_part_105 (by decide) ?_
        rw [hQ]
        exact A_ireturn hg (by decide) (by decide) rfl dX10_part_109 ⟨rfl, ⟨p1, 3, (by show _ = some (Value.int (if p1 < g 1 then nI (g (133 + 5 * p1 + 2)) else q_d 0)); first | rw [if_pos (of_decide_eq_true c97), x_pl_b (of_decide_eq_true c97), (hxp.1 p1 (of_decide_eq_true c97)).2.2] | rw [if_neg (of_decide_eq_false c97)]), rfl, hpl9, (x_swN (by decide) hx21), (by decide), ⟨(h0), (h1), (h2), (h3), (h4), flA, n0A, gvA, gsA, lmA, vsA, nmA, onA, slA, moA, nbA, bmA, skA, s2A, vaA, spA, rfA, hm_15, hm_16, hm_17, hm_18, hm_19, hm_20, hm_21, hm_22, hm_23, hm_24, hm_25, hTI⟩, (fun _ _ => rfl)⟩⟩
    | 4, _, hx21 =>
      refine A_tableIn (tgt := 110) (off := 89) hg dX10_part_21 (by rw [hx21]; decide) (by rw [hx21]; decide) (by rw [hx21]; rfl) (by decide) ?_
      refine A_aload_n hg dX10_part_110 rfl rfl ?_
      refine A_hV (kc2 := 1) (ks2 := 6) (As := []) (rest := []) hg lk_RX10_140 in_X10_fittedMix se_X10_fittedMix rfl dX10_part_111 ⟨by decide, by decide⟩ rfl rfl ⟨by decide, by decide⟩ hc0 (by omega) rfl rfl (Nat.le_of_ble_eq_true rfl) (c_X10_fittedMix G ex n σ z1 z2 z3 g kd fi se nm on bm flA n0A gvA gsA lmA vsA nmA onA slA moA nbA bmA skA s2A vaA spA rfA hc0 hm_15 hm_16 hg_1 hg_2 hg_3 hg_4 hg_5 hg_6 hc_13 hc_14 hm_18 hm_19 hm_20 hm_21 hm_22 hm_23 hm_24 hm_25 (by omega) hgw hxp hrs hTI) ?_
      rintro _ σ_52 ⟨flB_26, n0B_27, gvB_28, gsB_29, lmB_30, vsB_31, nmB_32, onB_33, slB_34, moB_35, nbB_36, bmB_37, skB_38, s2B_39, vaB_40, spB_41, rfB_42, rfl, hTI2, hTF2, hc_43, hc_44, hc_45, hc_46, hc_47, hc_48, hc_49, hc_50, hf_51⟩
      refine (?_ : AJ G K Q 1 6 ex n 114 [some (.ref (q_h G + 0)), some (.int (nI (p1))), some (.int (x)), some (.ref (q_h G + 27)), some (.int (q_b (decide (p1 < (g 1)))))] [.ref (q_h G + 43)] σ_52)
      have hc_53 : σ_52 0 = o10 G (z1) (z2) (z3) := (hf_51 _ (by omega)).trans hc0
      have hc_54 : σ_52 25 = o0 G (25) (nI (g 0)) (nI (g 3)) (nI (g 4)) (nI (g 5)) (nI (g 6)) := (hf_51 _ (by omega)).trans hg_1
      have hc_55 : σ_52 26 = q_rn G 3 4 (fun j => some (25 + 10 + 2 * j)) := (hf_51 _ (by omega)).trans hg_2
      have hc_56 : σ_52 27 = o6 G (27) (nI (g 1)) (nI (g 2)) := (hf_51 _ (by omega)).trans hg_3
      have hc_57 : σ_52 (27 + 1) = q_an G 8 kd := (hf_51 _ (by omega)).trans hg_4
      have hc_58 : σ_52 (27 + 2) = q_an G 8 fi := (hf_51 _ (by omega)).trans hg_5
      have hc_59 : σ_52 (27 + 3) = q_an G 8 se := (hf_51 _ (by omega)).trans hg_6
      have hc_60 : σ_52 (27 + 4) = q_an G 8 tf := (hf_51 _ (by omega)).trans hg_7
      have hc_61 : σ_52 (27 + 5) = q_an G 8 ts := (hf_51 _ (by omega)).trans hg_8
      have hc_62 : σ_52 (25 + 8) = q_an G 10 ac := (hf_51 _ (by omega)).trans hg_9
      have hc_63 : σ_52 (25 + 9) = q_an G 100 tu := (hf_51 _ (by omega)).trans hg_10
      have hc_64 : ∀ j9 : Nat, j9 < g 0 → σ_52 (25 + 10 + 2 * j9) = o7 G (25 + 10 + 2 * j9) (lN (nm j9)) (lN (on j9)) (nI (s_rule g j9 18)) (nI (s_rule g j9 19)) (nI (s_rule g j9 20)) := fun j9 hj0 => (hf_51 _ (by omega)).trans (hc_13 j9 (by omega))
      have hc_65 : ∀ j9 : Nat, j9 < g 0 → σ_52 (25 + 10 + 2 * j9 + 1) = q_an G 5 (bm j9) := fun j9 hj0 => (hf_51 _ (by omega)).trans (hc_14 j9 (by omega))
      have hc_66 : σ_52 43 = o4 G (43)  := (hf_51 _ (by omega)).trans hm_15
      have hc_67 : σ_52 44 = q_rn G 4 4 (fun j => some (46 + 8 * j)) := (hf_51 _ (by omega)).trans hm_16
      have hc_68 : σ_52 45 = o1 G (h0) (h1) (h2) (h3) (h4) := (hf_51 _ (by omega)).trans hm_17
      refine A_aload_n hg dX10_part_114 rfl rfl ?_
      refine A_iload_n hg dX10_part_115 rfl rfl ?_
      refine A_eV (kc2 := 1) (ks2 := 6) (As := [.ref (q_h G + 27), .int (nI (p1))]) (rest := []) hg lk_RX10_273 in_X4_valueOf se_X4_valueOf rfl dX10_part_116 ⟨by decide, by decide⟩ rfl rfl ⟨by decide, by decide⟩ hc_66 (by omega) rfl rfl (Nat.le_of_ble_eq_true rfl) (c_X4_valueOf G ex n σ_52 27 g kd fi se flB_26 n0B_27 gvB_28 gsB_29 lmB_30 vsB_31 nmB_32 onB_33 slB_34 moB_35 nbB_36 bmB_37 skB_38 s2B_39 vaB_40 spB_41 rfB_42 p1 hc_66 hc_67 hc_56 hc_57 hc_58 hc_59 hc_43 hc_44 hc_45 hc_46 hc_47 hc_48 hc_49 hc_50 (by omega) (Or.inl rfl) hgw hxp hTF2 (by omega)) ?_
      rw [hQ]
      exact A_ireturn hg (by decide) (by decide) rfl dX10_part_119 ⟨rfl, ⟨p1, 4, (by rfl), rfl, hpl9, (x_swN (by decide) hx21), (by decide), ⟨(h0), (h1), (h2), (h3), (h4), flB_26, n0B_27, gvB_28, gsB_29, lmB_30, vsB_31, nmB_32, onB_33, slB_34, moB_35, nbB_36, bmB_37, skB_38, s2B_39, vaB_40, spB_41, rfB_42, hc_66, hc_67, hc_68, hc_43, hc_44, hc_45, hc_46, hc_47, hc_48, hc_49, hc_50, hTI2⟩, (fun i hi => (hf_51 i (by omega)))⟩⟩
    | 5, _, hx21 =>
      refine A_tableIn (tgt := 120) (off := 99) hg dX10_part_21 (by rw [hx21]; decide) (by rw [hx21]; decide) (by rw [hx21]; rfl) (by decide) ?_
      refine A_aload_n hg dX10_part_120 rfl rfl ?_
      refine A_hV (kc2 := 1) (ks2 := 6) (As := []) (rest := []) hg lk_RX10_140 in_X10_fittedMix se_X10_fittedMix rfl dX10_part_121 ⟨by decide, by decide⟩ rfl rfl ⟨by decide, by decide⟩ hc0 (by omega) rfl rfl (Nat.le_of_ble_eq_true rfl) (c_X10_fittedMix G ex n σ z1 z2 z3 g kd fi se nm on bm flA n0A gvA gsA lmA vsA nmA onA slA moA nbA bmA skA s2A vaA spA rfA hc0 hm_15 hm_16 hg_1 hg_2 hg_3 hg_4 hg_5 hg_6 hc_13 hc_14 hm_18 hm_19 hm_20 hm_21 hm_22 hm_23 hm_24 hm_25 (by omega) hgw hxp hrs hTI) ?_
      rintro _ σ_95 ⟨flB_69, n0B_70, gvB_71, gsB_72, lmB_73, vsB_74, nmB_75, onB_76, slB_77, moB_78, nbB_79, bmB_80, skB_81, s2B_82, vaB_83, spB_84, rfB_85, rfl, hTI2, hTF2, hc_86, hc_87, hc_88, hc_89, hc_90, hc_91, hc_92, hc_93, hf_94⟩
      refine (?_ : AJ G K Q 1 6 ex n 124 [some (.ref (q_h G + 0)), some (.int (nI (p1))), some (.int (x)), some (.ref (q_h G + 27)), some (.int (q_b (decide (p1 < (g 1)))))] [.ref (q_h G + 43)] σ_95)
      have hc_96 : σ_95 0 = o10 G (z1) (z2) (z3) := (hf_94 _ (by omega)).trans hc0
      have hc_97 : σ_95 25 = o0 G (25) (nI (g 0)) (nI (g 3)) (nI (g 4)) (nI (g 5)) (nI (g 6)) := (hf_94 _ (by omega)).trans hg_1
      have hc_98 : σ_95 26 = q_rn G 3 4 (fun j => some (25 + 10 + 2 * j)) := (hf_94 _ (by omega)).trans hg_2
      have hc_99 : σ_95 27 = o6 G (27) (nI (g 1)) (nI (g 2)) := (hf_94 _ (by omega)).trans hg_3
      have hc_100 : σ_95 (27 + 1) = q_an G 8 kd := (hf_94 _ (by omega)).trans hg_4
      have hc_101 : σ_95 (27 + 2) = q_an G 8 fi := (hf_94 _ (by omega)).trans hg_5
      have hc_102 : σ_95 (27 + 3) = q_an G 8 se := (hf_94 _ (by omega)).trans hg_6
      have hc_103 : σ_95 (27 + 4) = q_an G 8 tf := (hf_94 _ (by omega)).trans hg_7
      have hc_104 : σ_95 (27 + 5) = q_an G 8 ts := (hf_94 _ (by omega)).trans hg_8
      have hc_105 : σ_95 (25 + 8) = q_an G 10 ac := (hf_94 _ (by omega)).trans hg_9
      have hc_106 : σ_95 (25 + 9) = q_an G 100 tu := (hf_94 _ (by omega)).trans hg_10
      have hc_107 : ∀ j9 : Nat, j9 < g 0 → σ_95 (25 + 10 + 2 * j9) = o7 G (25 + 10 + 2 * j9) (lN (nm j9)) (lN (on j9)) (nI (s_rule g j9 18)) (nI (s_rule g j9 19)) (nI (s_rule g j9 20)) := fun j9 hj0 => (hf_94 _ (by omega)).trans (hc_13 j9 (by omega))
      have hc_108 : ∀ j9 : Nat, j9 < g 0 → σ_95 (25 + 10 + 2 * j9 + 1) = q_an G 5 (bm j9) := fun j9 hj0 => (hf_94 _ (by omega)).trans (hc_14 j9 (by omega))
      have hc_109 : σ_95 43 = o4 G (43)  := (hf_94 _ (by omega)).trans hm_15
      have hc_110 : σ_95 44 = q_rn G 4 4 (fun j => some (46 + 8 * j)) := (hf_94 _ (by omega)).trans hm_16
      have hc_111 : σ_95 45 = o1 G (h0) (h1) (h2) (h3) (h4) := (hf_94 _ (by omega)).trans hm_17
      refine A_aload_n hg dX10_part_124 rfl rfl ?_
      refine A_iload_n hg dX10_part_125 rfl rfl ?_
      refine A_iconst (v := (q_d (0))) hg dX10_part_126 (by decide) ?_
      refine A_eV (kc2 := 1) (ks2 := 6) (As := [.ref (q_h G + 27), .int (nI (p1)), .int (q_d (0))]) (rest := []) hg lk_RX10_277 in_X4_movesTo se_X4_movesTo rfl dX10_part_127 ⟨by decide, by decide⟩ rfl rfl ⟨by decide, by decide⟩ hc_109 (by omega) rfl rfl (Nat.le_of_ble_eq_true rfl) (c_X4_movesTo G ex n σ_95 27 g kd fi se flB_69 n0B_70 gvB_71 gsB_72 lmB_73 vsB_74 nmB_75 onB_76 slB_77 moB_78 nbB_79 bmB_80 skB_81 s2B_82 vaB_83 spB_84 rfB_85 0 p1 hc_109 hc_110 hc_99 hc_100 hc_101 hc_102 hc_86 hc_87 hc_88 hc_89 hc_90 hc_91 hc_92 hc_93 (by omega) (Or.inl rfl) hgw hxp hTF2 (by omega) (by decide)) ?_
      rw [hQ]
      exact A_ireturn hg (by decide) (by decide) rfl dX10_part_130 ⟨rfl, ⟨p1, 5, (by rw [x_mvs_f]; rfl), rfl, hpl9, (x_swN (by decide) hx21), (by decide), ⟨(h0), (h1), (h2), (h3), (h4), flB_69, n0B_70, gvB_71, gsB_72, lmB_73, vsB_74, nmB_75, onB_76, slB_77, moB_78, nbB_79, bmB_80, skB_81, s2B_82, vaB_83, spB_84, rfB_85, hc_109, hc_110, hc_111, hc_86, hc_87, hc_88, hc_89, hc_90, hc_91, hc_92, hc_93, hTI2⟩, (fun i hi => (hf_94 i (by omega)))⟩⟩
    | 6, _, hx21 =>
      refine A_tableIn (tgt := 131) (off := 110) hg dX10_part_21 (by rw [hx21]; decide) (by rw [hx21]; decide) (by rw [hx21]; rfl) (by decide) ?_
      refine A_aload_n hg dX10_part_131 rfl rfl ?_
      refine A_hV (kc2 := 1) (ks2 := 6) (As := []) (rest := []) hg lk_RX10_140 in_X10_fittedMix se_X10_fittedMix rfl dX10_part_132 ⟨by decide, by decide⟩ rfl rfl ⟨by decide, by decide⟩ hc0 (by omega) rfl rfl (Nat.le_of_ble_eq_true rfl) (c_X10_fittedMix G ex n σ z1 z2 z3 g kd fi se nm on bm flA n0A gvA gsA lmA vsA nmA onA slA moA nbA bmA skA s2A vaA spA rfA hc0 hm_15 hm_16 hg_1 hg_2 hg_3 hg_4 hg_5 hg_6 hc_13 hc_14 hm_18 hm_19 hm_20 hm_21 hm_22 hm_23 hm_24 hm_25 (by omega) hgw hxp hrs hTI) ?_
      rintro _ σ_138 ⟨flB_112, n0B_113, gvB_114, gsB_115, lmB_116, vsB_117, nmB_118, onB_119, slB_120, moB_121, nbB_122, bmB_123, skB_124, s2B_125, vaB_126, spB_127, rfB_128, rfl, hTI2, hTF2, hc_129, hc_130, hc_131, hc_132, hc_133, hc_134, hc_135, hc_136, hf_137⟩
      refine (?_ : AJ G K Q 1 6 ex n 135 [some (.ref (q_h G + 0)), some (.int (nI (p1))), some (.int (x)), some (.ref (q_h G + 27)), some (.int (q_b (decide (p1 < (g 1)))))] [.ref (q_h G + 43)] σ_138)
      have hc_139 : σ_138 0 = o10 G (z1) (z2) (z3) := (hf_137 _ (by omega)).trans hc0
      have hc_140 : σ_138 25 = o0 G (25) (nI (g 0)) (nI (g 3)) (nI (g 4)) (nI (g 5)) (nI (g 6)) := (hf_137 _ (by omega)).trans hg_1
      have hc_141 : σ_138 26 = q_rn G 3 4 (fun j => some (25 + 10 + 2 * j)) := (hf_137 _ (by omega)).trans hg_2
      have hc_142 : σ_138 27 = o6 G (27) (nI (g 1)) (nI (g 2)) := (hf_137 _ (by omega)).trans hg_3
      have hc_143 : σ_138 (27 + 1) = q_an G 8 kd := (hf_137 _ (by omega)).trans hg_4
      have hc_144 : σ_138 (27 + 2) = q_an G 8 fi := (hf_137 _ (by omega)).trans hg_5
      have hc_145 : σ_138 (27 + 3) = q_an G 8 se := (hf_137 _ (by omega)).trans hg_6
      have hc_146 : σ_138 (27 + 4) = q_an G 8 tf := (hf_137 _ (by omega)).trans hg_7
      have hc_147 : σ_138 (27 + 5) = q_an G 8 ts := (hf_137 _ (by omega)).trans hg_8
      have hc_148 : σ_138 (25 + 8) = q_an G 10 ac := (hf_137 _ (by omega)).trans hg_9
      have hc_149 : σ_138 (25 + 9) = q_an G 100 tu := (hf_137 _ (by omega)).trans hg_10
      have hc_150 : ∀ j9 : Nat, j9 < g 0 → σ_138 (25 + 10 + 2 * j9) = o7 G (25 + 10 + 2 * j9) (lN (nm j9)) (lN (on j9)) (nI (s_rule g j9 18)) (nI (s_rule g j9 19)) (nI (s_rule g j9 20)) := fun j9 hj0 => (hf_137 _ (by omega)).trans (hc_13 j9 (by omega))
      have hc_151 : ∀ j9 : Nat, j9 < g 0 → σ_138 (25 + 10 + 2 * j9 + 1) = q_an G 5 (bm j9) := fun j9 hj0 => (hf_137 _ (by omega)).trans (hc_14 j9 (by omega))
      have hc_152 : σ_138 43 = o4 G (43)  := (hf_137 _ (by omega)).trans hm_15
      have hc_153 : σ_138 44 = q_rn G 4 4 (fun j => some (46 + 8 * j)) := (hf_137 _ (by omega)).trans hm_16
      have hc_154 : σ_138 45 = o1 G (h0) (h1) (h2) (h3) (h4) := (hf_137 _ (by omega)).trans hm_17
      refine A_aload_n hg dX10_part_135 rfl rfl ?_
      refine A_iload_n hg dX10_part_136 rfl rfl ?_
      refine A_eV (kc2 := 1) (ks2 := 6) (As := [.ref (q_h G + 27), .int (nI (p1))]) (rest := []) hg lk_RX10_281 in_X4_winningMoves se_X4_winningMoves rfl dX10_part_137 ⟨by decide, by decide⟩ rfl rfl ⟨by decide, by decide⟩ hc_152 (by omega) rfl rfl (Nat.le_of_ble_eq_true rfl) (c_X4_winningMoves G ex n σ_138 27 g kd fi se flB_112 n0B_113 gvB_114 gsB_115 lmB_116 vsB_117 nmB_118 onB_119 slB_120 moB_121 nbB_122 bmB_123 skB_124 s2B_125 vaB_126 spB_127 rfB_128 p1 hc_152 hc_153 hc_142 hc_143 hc_144 hc_145 hc_129 hc_130 hc_131 hc_132 hc_133 hc_134 hc_135 hc_136 (by omega) (Or.inl rfl) hgw hxp hTF2 (by omega)) ?_
      rw [hQ]
      exact A_ireturn hg (by decide) (by decide) rfl dX10_part_140 ⟨rfl, ⟨p1, 6, (by rfl), rfl, hpl9, (x_swN (by decide) hx21), (by decide), ⟨(h0), (h1), (h2), (h3), (h4), flB_112, n0B_113, gvB_114, gsB_115, lmB_116, vsB_117, nmB_118, onB_119, slB_120, moB_121, nbB_122, bmB_123, skB_124, s2B_125, vaB_126, spB_127, rfB_128, hc_152, hc_153, hc_154, hc_129, hc_130, hc_131, hc_132, hc_133, hc_134, hc_135, hc_136, hTI2⟩, (fun i hi => (hf_137 i (by omega)))⟩⟩
    | 7, _, hx21 =>
      refine A_tableIn (tgt := 141) (off := 120) hg dX10_part_21 (by rw [hx21]; decide) (by rw [hx21]; decide) (by rw [hx21]; rfl) (by decide) ?_
      refine A_aload_n hg dX10_part_141 rfl rfl ?_
      refine A_iload_n hg dX10_part_142 rfl rfl ?_
      refine A_eV (kc2 := 1) (ks2 := 6) (As := [.int (nI (p1))]) (rest := []) hg lk_RX10_284 in_X6_toldFirstOf se_X6_toldFirstOf rfl dX10_part_143 ⟨by decide, by decide⟩ rfl rfl ⟨by decide, by decide⟩ hg_3 (by omega) rfl rfl (Nat.le_of_ble_eq_true rfl) (c_X6_toldFirstOf G ex n σ 27 (g 1) (g 2) tf p1 hg_3 hg_7 (by omega) (by omega) (by omega)) ?_
      rw [hQ]
      exact A_ireturn hg (by decide) (by decide) rfl dX10_part_146 ⟨rfl, ⟨p1, 7, (by show _ = some (Value.int (nI (s_tx g p1))); rw [x_tx hgw htp hpp]), rfl, hpl9, (x_swN (by decide) hx21), (by decide), ⟨(h0), (h1), (h2), (h3), (h4), flA, n0A, gvA, gsA, lmA, vsA, nmA, onA, slA, moA, nbA, bmA, skA, s2A, vaA, spA, rfA, hm_15, hm_16, hm_17, hm_18, hm_19, hm_20, hm_21, hm_22, hm_23, hm_24, hm_25, hTI⟩, (fun _ _ => rfl)⟩⟩
    | 8, _, hx21 =>
      refine A_tableIn (tgt := 147) (off := 126) hg dX10_part_21 (by rw [hx21]; decide) (by rw [hx21]; decide) (by rw [hx21]; rfl) (by decide) ?_
      refine A_iload hg dX10_part_147 rfl ?_
      refine A_if_eqB (tgt := 160) hg dX10_part_149 (by decide) (fun c149 => ?_) (fun c149 => ?_)
      · skip
        refine A_iconst (v := (q_d (0))) hg dX10_part_160 (by decide) ?_
        rw [hQ]
        exact A_ireturn hg (by decide) (by decide) rfl dX10_part_161 ⟨rfl, ⟨p1, 8, (by show _ = some (Value.int (if p1 < g 1 then nI (g (133 + 5 * p1 + 4)) else q_d 0)); first | rw [if_pos (of_decide_eq_true c149), x_pl_b (of_decide_eq_true c149), (htp.1 p1 (of_decide_eq_true c149)).2] | rw [if_neg (of_decide_eq_false c149)]), rfl, hpl9, (x_swN (by decide) hx21), (by decide), ⟨(h0), (h1), (h2), (h3), (h4), flA, n0A, gvA, gsA, lmA, vsA, nmA, onA, slA, moA, nbA, bmA, skA, s2A, vaA, spA, rfA, hm_15, hm_16, hm_17, hm_18, hm_19, hm_20, hm_21, hm_22, hm_23, hm_24, hm_25, hTI⟩, (fun _ _ => rfl)⟩⟩
      · skip
        refine A_aload_n hg dX10_part_152 rfl rfl ?_
        refine A_iload_n hg dX10_part_153 rfl rfl ?_
        refine A_eV (kc2 := 1) (ks2 := 6) (As := [.int (nI (p1))]) (rest := []) hg lk_RX10_287 in_X6_toldSecondOf se_X6_toldSecondOf rfl dX10_part_154 ⟨by decide, by decide⟩ rfl rfl ⟨by decide, by decide⟩ hg_3 (by omega) rfl rfl (Nat.le_of_ble_eq_true rfl) (c_X6_toldSecondOf G ex n σ 27 (g 1) (g 2) ts p1 hg_3 hg_8 (by omega) (by omega) (by omega)) ?_
        refine A_goto (tgt := 161) hg dX10_part_157 (by decide) ?_
        rw [hQ]
        exact A_ireturn hg (by decide) (by decide) rfl dX10_part_161 ⟨rfl, ⟨p1, 8, (by show _ = some (Value.int (if p1 < g 1 then nI (g (133 + 5 * p1 + 4)) else q_d 0)); first | rw [if_pos (of_decide_eq_true c149), x_pl_b (of_decide_eq_true c149), (htp.1 p1 (of_decide_eq_true c149)).2] | rw [if_neg (of_decide_eq_false c149)]), rfl, hpl9, (x_swN (by decide) hx21), (by decide), ⟨(h0), (h1), (h2), (h3), (h4), flA, n0A, gvA, gsA, lmA, vsA, nmA, onA, slA, moA, nbA, bmA, skA, s2A, vaA, spA, rfA, hm_15, hm_16, hm_17, hm_18, hm_19, hm_20, hm_21, hm_22, hm_23, hm_24, hm_25, hTI⟩, (fun _ _ => rfl)⟩⟩
    | k + 9, h, _ => exact absurd h (by omega)
end
