/-! THE LAW: its loop, its way from the entry -/
section
theorem ls_cmp {L i : Nat} (hL : L ≤ 3072) (hi : i ≤ 4000) : nI L - nI 6 < nI i ↔ L < i + 6 := by
  rw [Int32.lt_iff_toInt_lt, Int32.toInt_sub, nI_toInt (by omega), nI_toInt (by omega), nI_toInt (by omega), Int.bmod_def]
  split <;> omega
theorem iv_next {G : GL} {σ : Nat → va_E} {J : Nat} (h : iv G σ J) : iv G σ (J + 1) := by
  refine iv_el h ?_
  intro il z2 z3 f lo o g nx m ps kp sn F wk as sh a fb nv ns mk va sp lp mc z ss ou oL oD
  intro q0 q1 q2 q3 q4 q5 q6 q7 q8 q9 q10 q11 q12 q13 q14 q15 q16 q17 q18 q19 q20 q21 q22 q23 q24 q25 q26 q27 q28 q29 q30 q31 q32 q33 q34 q35 q36 q37 q38 q39 q40 q41 q42 q43 q44 q45 q46 q47 q48 q49 q50 q51 q52 q53
  exact iv_mk il z2 z3 f lo o g nx m ps kp sn F wk as sh a fb nv ns mk va sp lp mc z ss ou oL oD q0 q1 q2 q3 q4 q5 q6 q7 q8 q9 q10 q11 q12 q13 q14 q15 q16 q17 q18 q19 q20 q21 q22 q23 q24 q25 q26 q27 q28 q29 q30 q31 q32 q33 q34 q35 q36 q37 q38 q39 q40 q41 q42 q43 q44 q45 q46 q47 q48 q49 (by omega) q51 q52 q53
set_option maxHeartbeats 4000000 in
theorem law_loop (G : GL) (K : KC) (Q : State → Prop) (hh : List (Nat × Nat × Nat × Nat)) (hg : Gd G K RL code 9 ret room_1 hh) (bS L : Nat) (xs : Nat → Int32) (hX : q_scr G K bS L xs) (hL : L ≤ 3072) (hfd : q_fdn) (hdd : q_ddn) (hf2 : q_f2n) (hds : q_dcs)
    (hend : ∀ (kc ks : Nat) (ls : List (Option Value)) (σ : Nat → va_E), kc ≤ 601024 → ks ≤ 7293034 → AJ G K Q kc ks false 296 3068 ls [] σ) :
    ∀ (fu J : Nat) (σ : Nat → va_E), L < 6 * J + 6 * fu + 6 → 6 * J ≤ 4000 → iv G σ J → AJ G K Q (300 + 8 * J) (72000 + 48 * J) false 296 28 [some (.ref bS), some (.ref (q_h G + 0)), some (.ref (q_h G + 279)), some (.ref (q_h G + 294)), some (.ref (q_h G + 295)), some (.int (nI (6 * J))), none, none, none] [] σ := by
  intro fu
  induction fu with
  | zero =>
    intro J σ hfu hJ4 hI
    refine A_iload hg dL_law_28 rfl ?_
    refine A_aload_n hg dL_law_30 rfl rfl ?_
    refine A_slen hg hX dL_law_31 ?_
    refine A_bipush (v := nI 6) hg dL_law_32 (by decide) ?_
    refine A_isub hg dL_law_34 ?_
    refine A_icmp_gt (tgt := 3068) hg dL_law_35 (by decide) (fun c => ?_) (fun c => absurd ((ls_cmp hL hJ4).mpr (by omega)) c)
    exact hend _ _ _ _ (by omega) (by omega)
  | succ fu ih =>
    intro J σ hfu hJ4 hI
    refine A_iload hg dL_law_28 rfl ?_
    refine A_aload_n hg dL_law_30 rfl rfl ?_
    refine A_slen hg hX dL_law_31 ?_
    refine A_bipush (v := nI 6) hg dL_law_32 (by decide) ?_
    refine A_isub hg dL_law_34 ?_
    refine A_icmp_gt (tgt := 3068) hg dL_law_35 (by decide) (fun c => hend _ _ _ _ (by omega) (by omega)) (fun c => ?_)
    have hi5 : 6 * J + 5 < L := by
      have := mt (ls_cmp hL hJ4).mpr c
      omega
    refine A_aload_n hg dL_law_38 rfl rfl ?_
    refine A_iload hg dL_law_39 rfl ?_
    refine A_sld hg hX (6 * J) (by omega) dL_law_41 ?_
    refine A_bipush (v := nI 63) hg dL_law_42 (by decide) ?_
    refine A_iand hg dL_law_44 ?_
    have hnxt : ∀ σ9 : Nat → va_E, iv G σ9 (J + 1) → AJ G K Q (300 + 8 * J + 8) (72000 + 48 * J + 48) false 296 3062 [some (.ref bS), some (.ref (q_h G + 0)), some (.ref (q_h G + 279)), some (.ref (q_h G + 294)), some (.ref (q_h G + 295)), some (.int (nI (6 * J))), none, none, none] [] σ9 := by
      intro σ9 hI9
      refine A_iincN (k' := 6) hg dL_law_3062 (by decide) rfl (by decide) (q_c1d rfl) ?_
      refine A_eq (ls2 := [some (.ref bS), some (.ref (q_h G + 0)), some (.ref (q_h G + 279)), some (.ref (q_h G + 294)), some (.ref (q_h G + 295)), some (.int (nI (6 * (J + 1)))), none, none, none]) (st2 := []) (pc2 := 0) rfl rfl ?_
      refine A_goto (tgt := 28) hg dL_law_3065 (by decide) ?_
      refine A_wide (kc2 := 300 + 8 * (J + 1)) (ks2 := 72000 + 48 * (J + 1)) (by omega) (by omega) ?_
      exact ih (J + 1) σ9 (by omega) (by omega) hI9
    generalize xs (6 * J) &&& nI 63 = v9
    by_cases hd45 : v9.toInt < 0 ∨ 45 < v9.toInt
    · refine A_tableOut (tgt := 3062) hg dL_law_45 hd45 (by decide) ?_
      refine A_wide (kc2 := 300 + 8 * J + 8) (ks2 := 72000 + 48 * J + 48) (by omega) (by omega) ?_
      exact hnxt _ (iv_next hI)
    · obtain ⟨k45, hk45, hx45⟩ := q_sw 0 45 hd45
      match k45, hk45, hx45 with
      | 0, _, hx45 =>
        refine A_tableIn (tgt := 244) (off := 199) hg dL_law_45 (by rw [hx45]; decide) (by rw [hx45]; decide) (by rw [hx45]; rfl) (by decide) ?_
        exact law_c0 G K Q hh hg bS L xs hX (6 * J) _ _ J hi5 (by omega) (by omega) (by omega) σ hI (by omega) hfd hdd hf2 hds hnxt
      | 1, _, hx45 =>
        refine A_tableIn (tgt := 317) (off := 272) hg dL_law_45 (by rw [hx45]; decide) (by rw [hx45]; decide) (by rw [hx45]; rfl) (by decide) ?_
        exact law_c1 G K Q hh hg bS L xs hX (6 * J) _ _ J hi5 (by omega) (by omega) (by omega) σ hI (by omega) hfd hdd hf2 hds hnxt
      | 2, _, hx45 =>
        refine A_tableIn (tgt := 342) (off := 297) hg dL_law_45 (by rw [hx45]; decide) (by rw [hx45]; decide) (by rw [hx45]; rfl) (by decide) ?_
        exact law_c2 G K Q hh hg bS L xs hX (6 * J) _ _ J hi5 (by omega) (by omega) (by omega) σ hI (by omega) hfd hdd hf2 hds hnxt
      | 3, _, hx45 =>
        refine A_tableIn (tgt := 355) (off := 310) hg dL_law_45 (by rw [hx45]; decide) (by rw [hx45]; decide) (by rw [hx45]; rfl) (by decide) ?_
        exact law_c3 G K Q hh hg bS L xs hX (6 * J) _ _ J hi5 (by omega) (by omega) (by omega) σ hI (by omega) hfd hdd hf2 hds hnxt
      | 4, _, hx45 =>
        refine A_tableIn (tgt := 368) (off := 323) hg dL_law_45 (by rw [hx45]; decide) (by rw [hx45]; decide) (by rw [hx45]; rfl) (by decide) ?_
        exact law_c4 G K Q hh hg bS L xs hX (6 * J) _ _ J hi5 (by omega) (by omega) (by omega) σ hI (by omega) hfd hdd hf2 hds hnxt
      | 5, _, hx45 =>
        refine A_tableIn (tgt := 381) (off := 336) hg dL_law_45 (by rw [hx45]; decide) (by rw [hx45]; decide) (by rw [hx45]; rfl) (by decide) ?_
        exact law_c5 G K Q hh hg bS L xs hX (6 * J) _ _ J hi5 (by omega) (by omega) (by omega) σ hI (by omega) hfd hdd hf2 hds hnxt
      | 6, _, hx45 =>
        refine A_tableIn (tgt := 437) (off := 392) hg dL_law_45 (by rw [hx45]; decide) (by rw [hx45]; decide) (by rw [hx45]; rfl) (by decide) ?_
        exact law_c6 G K Q hh hg bS L xs hX (6 * J) _ _ J hi5 (by omega) (by omega) (by omega) σ hI (by omega) hfd hdd hf2 hds hnxt
      | 7, _, hx45 =>
        refine A_tableIn (tgt := 505) (off := 460) hg dL_law_45 (by rw [hx45]; decide) (by rw [hx45]; decide) (by rw [hx45]; rfl) (by decide) ?_
        exact law_c7 G K Q hh hg bS L xs hX (6 * J) _ _ J hi5 (by omega) (by omega) (by omega) σ hI (by omega) hfd hdd hf2 hds hnxt
      | 8, _, hx45 =>
        refine A_tableIn (tgt := 573) (off := 528) hg dL_law_45 (by rw [hx45]; decide) (by rw [hx45]; decide) (by rw [hx45]; rfl) (by decide) ?_
        exact law_c8 G K Q hh hg bS L xs hX (6 * J) _ _ J hi5 (by omega) (by omega) (by omega) σ hI (by omega) hfd hdd hf2 hds hnxt
      | 9, _, hx45 =>
        refine A_tableIn (tgt := 641) (off := 596) hg dL_law_45 (by rw [hx45]; decide) (by rw [hx45]; decide) (by rw [hx45]; rfl) (by decide) ?_
        exact law_c9 G K Q hh hg bS L xs hX (6 * J) _ _ J hi5 (by omega) (by omega) (by omega) σ hI (by omega) hfd hdd hf2 hds hnxt
      | 10, _, hx45 =>
        refine A_tableIn (tgt := 709) (off := 664) hg dL_law_45 (by rw [hx45]; decide) (by rw [hx45]; decide) (by rw [hx45]; rfl) (by decide) ?_
        exact law_c10 G K Q hh hg bS L xs hX (6 * J) _ _ J hi5 (by omega) (by omega) (by omega) σ hI (by omega) hfd hdd hf2 hds hnxt
      | 11, _, hx45 =>
        refine A_tableIn (tgt := 805) (off := 760) hg dL_law_45 (by rw [hx45]; decide) (by rw [hx45]; decide) (by rw [hx45]; rfl) (by decide) ?_
        exact law_c11 G K Q hh hg bS L xs hX (6 * J) _ _ J hi5 (by omega) (by omega) (by omega) σ hI (by omega) hfd hdd hf2 hds hnxt
      | 12, _, hx45 =>
        refine A_tableIn (tgt := 873) (off := 828) hg dL_law_45 (by rw [hx45]; decide) (by rw [hx45]; decide) (by rw [hx45]; rfl) (by decide) ?_
        exact law_c12 G K Q hh hg bS L xs hX (6 * J) _ _ J hi5 (by omega) (by omega) (by omega) σ hI (by omega) hfd hdd hf2 hds hnxt
      | 13, _, hx45 =>
        refine A_tableIn (tgt := 941) (off := 896) hg dL_law_45 (by rw [hx45]; decide) (by rw [hx45]; decide) (by rw [hx45]; rfl) (by decide) ?_
        exact law_c13 G K Q hh hg bS L xs hX (6 * J) _ _ J hi5 (by omega) (by omega) (by omega) σ hI (by omega) hfd hdd hf2 hds hnxt
      | 14, _, hx45 =>
        refine A_tableIn (tgt := 1028) (off := 983) hg dL_law_45 (by rw [hx45]; decide) (by rw [hx45]; decide) (by rw [hx45]; rfl) (by decide) ?_
        exact law_c14 G K Q hh hg bS L xs hX (6 * J) _ _ J hi5 (by omega) (by omega) (by omega) σ hI (by omega) hfd hdd hf2 hds hnxt
      | 15, _, hx45 =>
        refine A_tableIn (tgt := 1108) (off := 1063) hg dL_law_45 (by rw [hx45]; decide) (by rw [hx45]; decide) (by rw [hx45]; rfl) (by decide) ?_
        exact law_c15 G K Q hh hg bS L xs hX (6 * J) _ _ J hi5 (by omega) (by omega) (by omega) σ hI (by omega) hfd hdd hf2 hds hnxt
      | 16, _, hx45 =>
        refine A_tableIn (tgt := 1188) (off := 1143) hg dL_law_45 (by rw [hx45]; decide) (by rw [hx45]; decide) (by rw [hx45]; rfl) (by decide) ?_
        exact law_c16 G K Q hh hg bS L xs hX (6 * J) _ _ J hi5 (by omega) (by omega) (by omega) σ hI (by omega) hfd hdd hf2 hds hnxt
      | 17, _, hx45 =>
        refine A_tableIn (tgt := 1268) (off := 1223) hg dL_law_45 (by rw [hx45]; decide) (by rw [hx45]; decide) (by rw [hx45]; rfl) (by decide) ?_
        exact law_c17 G K Q hh hg bS L xs hX (6 * J) _ _ J hi5 (by omega) (by omega) (by omega) σ hI (by omega) hfd hdd hf2 hds hnxt
      | 18, _, hx45 =>
        refine A_tableIn (tgt := 1364) (off := 1319) hg dL_law_45 (by rw [hx45]; decide) (by rw [hx45]; decide) (by rw [hx45]; rfl) (by decide) ?_
        exact law_c18 G K Q hh hg bS L xs hX (6 * J) _ _ J hi5 (by omega) (by omega) (by omega) σ hI (by omega) hfd hdd hf2 hds hnxt
      | 19, _, hx45 =>
        refine A_tableIn (tgt := 1432) (off := 1387) hg dL_law_45 (by rw [hx45]; decide) (by rw [hx45]; decide) (by rw [hx45]; rfl) (by decide) ?_
        exact law_c19 G K Q hh hg bS L xs hX (6 * J) _ _ J hi5 (by omega) (by omega) (by omega) σ hI (by omega) hfd hdd hf2 hds hnxt
      | 20, _, hx45 =>
        refine A_tableIn (tgt := 1528) (off := 1483) hg dL_law_45 (by rw [hx45]; decide) (by rw [hx45]; decide) (by rw [hx45]; rfl) (by decide) ?_
        exact law_c20 G K Q hh hg bS L xs hX (6 * J) _ _ J hi5 (by omega) (by omega) (by omega) σ hI (by omega) hfd hdd hf2 hds hnxt
      | 21, _, hx45 =>
        refine A_tableIn (tgt := 1596) (off := 1551) hg dL_law_45 (by rw [hx45]; decide) (by rw [hx45]; decide) (by rw [hx45]; rfl) (by decide) ?_
        exact law_c21 G K Q hh hg bS L xs hX (6 * J) _ _ J hi5 (by omega) (by omega) (by omega) σ hI (by omega) hfd hdd hf2 hds hnxt
      | 22, _, hx45 =>
        refine A_tableIn (tgt := 1663) (off := 1618) hg dL_law_45 (by rw [hx45]; decide) (by rw [hx45]; decide) (by rw [hx45]; rfl) (by decide) ?_
        exact law_c22 G K Q hh hg bS L xs hX (6 * J) _ _ J hi5 (by omega) (by omega) (by omega) σ hI (by omega) hfd hdd hf2 hds hnxt
      | 23, _, hx45 =>
        refine A_tableIn (tgt := 1731) (off := 1686) hg dL_law_45 (by rw [hx45]; decide) (by rw [hx45]; decide) (by rw [hx45]; rfl) (by decide) ?_
        exact law_c23 G K Q hh hg bS L xs hX (6 * J) _ _ J hi5 (by omega) (by omega) (by omega) σ hI (by omega) hfd hdd hf2 hds hnxt
      | 24, _, hx45 =>
        refine A_tableIn (tgt := 1799) (off := 1754) hg dL_law_45 (by rw [hx45]; decide) (by rw [hx45]; decide) (by rw [hx45]; rfl) (by decide) ?_
        exact law_c24 G K Q hh hg bS L xs hX (6 * J) _ _ J hi5 (by omega) (by omega) (by omega) σ hI (by omega) hfd hdd hf2 hds hnxt
      | 25, _, hx45 =>
        refine A_tableIn (tgt := 1855) (off := 1810) hg dL_law_45 (by rw [hx45]; decide) (by rw [hx45]; decide) (by rw [hx45]; rfl) (by decide) ?_
        exact law_c25 G K Q hh hg bS L xs hX (6 * J) _ _ J hi5 (by omega) (by omega) (by omega) σ hI (by omega) hfd hdd hf2 hds hnxt
      | 26, _, hx45 =>
        refine A_tableIn (tgt := 1911) (off := 1866) hg dL_law_45 (by rw [hx45]; decide) (by rw [hx45]; decide) (by rw [hx45]; rfl) (by decide) ?_
        exact law_c26 G K Q hh hg bS L xs hX (6 * J) _ _ J hi5 (by omega) (by omega) (by omega) σ hI (by omega) hfd hdd hf2 hds hnxt
      | 27, _, hx45 =>
        refine A_tableIn (tgt := 1967) (off := 1922) hg dL_law_45 (by rw [hx45]; decide) (by rw [hx45]; decide) (by rw [hx45]; rfl) (by decide) ?_
        exact law_c27 G K Q hh hg bS L xs hX (6 * J) _ _ J hi5 (by omega) (by omega) (by omega) σ hI (by omega) hfd hdd hf2 hds hnxt
      | 28, _, hx45 =>
        refine A_tableIn (tgt := 1980) (off := 1935) hg dL_law_45 (by rw [hx45]; decide) (by rw [hx45]; decide) (by rw [hx45]; rfl) (by decide) ?_
        exact law_c28 G K Q hh hg bS L xs hX (6 * J) _ _ J hi5 (by omega) (by omega) (by omega) σ hI (by omega) hfd hdd hf2 hds hnxt
      | 29, _, hx45 =>
        refine A_tableIn (tgt := 1993) (off := 1948) hg dL_law_45 (by rw [hx45]; decide) (by rw [hx45]; decide) (by rw [hx45]; rfl) (by decide) ?_
        exact law_c29 G K Q hh hg bS L xs hX (6 * J) _ _ J hi5 (by omega) (by omega) (by omega) σ hI (by omega) hfd hdd hf2 hds hnxt
      | 30, _, hx45 =>
        refine A_tableIn (tgt := 2073) (off := 2028) hg dL_law_45 (by rw [hx45]; decide) (by rw [hx45]; decide) (by rw [hx45]; rfl) (by decide) ?_
        exact law_c30 G K Q hh hg bS L xs hX (6 * J) _ _ J hi5 (by omega) (by omega) (by omega) σ hI (by omega) hfd hdd hf2 hds hnxt
      | 31, _, hx45 =>
        refine A_tableIn (tgt := 2153) (off := 2108) hg dL_law_45 (by rw [hx45]; decide) (by rw [hx45]; decide) (by rw [hx45]; rfl) (by decide) ?_
        exact law_c31 G K Q hh hg bS L xs hX (6 * J) _ _ J hi5 (by omega) (by omega) (by omega) σ hI (by omega) hfd hdd hf2 hds hnxt
      | 32, _, hx45 =>
        refine A_tableIn (tgt := 2221) (off := 2176) hg dL_law_45 (by rw [hx45]; decide) (by rw [hx45]; decide) (by rw [hx45]; rfl) (by decide) ?_
        exact law_c32 G K Q hh hg bS L xs hX (6 * J) _ _ J hi5 (by omega) (by omega) (by omega) σ hI (by omega) hfd hdd hf2 hds hnxt
      | 33, _, hx45 =>
        refine A_tableIn (tgt := 2299) (off := 2254) hg dL_law_45 (by rw [hx45]; decide) (by rw [hx45]; decide) (by rw [hx45]; rfl) (by decide) ?_
        exact law_c33 G K Q hh hg bS L xs hX (6 * J) _ _ J hi5 (by omega) (by omega) (by omega) σ hI (by omega) hfd hdd hf2 hds hnxt
      | 34, _, hx45 =>
        refine A_tableIn (tgt := 2376) (off := 2331) hg dL_law_45 (by rw [hx45]; decide) (by rw [hx45]; decide) (by rw [hx45]; rfl) (by decide) ?_
        exact law_c34 G K Q hh hg bS L xs hX (6 * J) _ _ J hi5 (by omega) (by omega) (by omega) σ hI (by omega) hfd hdd hf2 hds hnxt
      | 35, _, hx45 =>
        refine A_tableIn (tgt := 2456) (off := 2411) hg dL_law_45 (by rw [hx45]; decide) (by rw [hx45]; decide) (by rw [hx45]; rfl) (by decide) ?_
        exact law_c35 G K Q hh hg bS L xs hX (6 * J) _ _ J hi5 (by omega) (by omega) (by omega) σ hI (by omega) hfd hdd hf2 hds hnxt
      | 36, _, hx45 =>
        refine A_tableIn (tgt := 2512) (off := 2467) hg dL_law_45 (by rw [hx45]; decide) (by rw [hx45]; decide) (by rw [hx45]; rfl) (by decide) ?_
        exact law_c36 G K Q hh hg bS L xs hX (6 * J) _ _ J hi5 (by omega) (by omega) (by omega) σ hI (by omega) hfd hdd hf2 hds hnxt
      | 37, _, hx45 =>
        refine A_tableIn (tgt := 2620) (off := 2575) hg dL_law_45 (by rw [hx45]; decide) (by rw [hx45]; decide) (by rw [hx45]; rfl) (by decide) ?_
        exact law_c37 G K Q hh hg bS L xs hX (6 * J) _ _ J hi5 (by omega) (by omega) (by omega) σ hI (by omega) hfd hdd hf2 hds hnxt
      | 38, _, hx45 =>
        refine A_tableIn (tgt := 2688) (off := 2643) hg dL_law_45 (by rw [hx45]; decide) (by rw [hx45]; decide) (by rw [hx45]; rfl) (by decide) ?_
        exact law_c38 G K Q hh hg bS L xs hX (6 * J) _ _ J hi5 (by omega) (by omega) (by omega) σ hI (by omega) hfd hdd hf2 hds hnxt
      | 39, _, hx45 =>
        refine A_tableIn (tgt := 2756) (off := 2711) hg dL_law_45 (by rw [hx45]; decide) (by rw [hx45]; decide) (by rw [hx45]; rfl) (by decide) ?_
        exact law_c39 G K Q hh hg bS L xs hX (6 * J) _ _ J hi5 (by omega) (by omega) (by omega) σ hI (by omega) hfd hdd hf2 hds hnxt
      | 40, _, hx45 =>
        refine A_tableIn (tgt := 2812) (off := 2767) hg dL_law_45 (by rw [hx45]; decide) (by rw [hx45]; decide) (by rw [hx45]; rfl) (by decide) ?_
        exact law_c40 G K Q hh hg bS L xs hX (6 * J) _ _ J hi5 (by omega) (by omega) (by omega) σ hI (by omega) hfd hdd hf2 hds hnxt
      | 41, _, hx45 =>
        refine A_tableIn (tgt := 2856) (off := 2811) hg dL_law_45 (by rw [hx45]; decide) (by rw [hx45]; decide) (by rw [hx45]; rfl) (by decide) ?_
        exact law_c41 G K Q hh hg bS L xs hX (6 * J) _ _ J hi5 (by omega) (by omega) (by omega) σ hI (by omega) hfd hdd hf2 hds hnxt
      | 42, _, hx45 =>
        refine A_tableIn (tgt := 2869) (off := 2824) hg dL_law_45 (by rw [hx45]; decide) (by rw [hx45]; decide) (by rw [hx45]; rfl) (by decide) ?_
        exact law_c42 G K Q hh hg bS L xs hX (6 * J) _ _ J hi5 (by omega) (by omega) (by omega) σ hI (by omega) hfd hdd hf2 hds hnxt
      | 43, _, hx45 =>
        refine A_tableIn (tgt := 2925) (off := 2880) hg dL_law_45 (by rw [hx45]; decide) (by rw [hx45]; decide) (by rw [hx45]; rfl) (by decide) ?_
        exact law_c43 G K Q hh hg bS L xs hX (6 * J) _ _ J hi5 (by omega) (by omega) (by omega) σ hI (by omega) hfd hdd hf2 hds hnxt
      | 44, _, hx45 =>
        refine A_tableIn (tgt := 2950) (off := 2905) hg dL_law_45 (by rw [hx45]; decide) (by rw [hx45]; decide) (by rw [hx45]; rfl) (by decide) ?_
        exact law_c44 G K Q hh hg bS L xs hX (6 * J) _ _ J hi5 (by omega) (by omega) (by omega) σ hI (by omega) hfd hdd hf2 hds hnxt
      | 45, _, hx45 =>
        refine A_tableIn (tgt := 3006) (off := 2961) hg dL_law_45 (by rw [hx45]; decide) (by rw [hx45]; decide) (by rw [hx45]; rfl) (by decide) ?_
        exact law_c45 G K Q hh hg bS L xs hX (6 * J) _ _ J hi5 (by omega) (by omega) (by omega) σ hI (by omega) hfd hdd hf2 hds hnxt
      | k + 46, h, _ => exact absurd h (by omega)
set_option maxRecDepth 100000 in
set_option maxHeartbeats 4000000 in
theorem law_main (G : GL) (K : KC) (Q : State → Prop) (hh : List (Nat × Nat × Nat × Nat)) (hg : Gd G K RL code 9 ret room_1 hh) (bS L : Nat) (xs : Nat → Int32) (hX : q_scr G K bS L xs) (hL : L ≤ 3072) (hfd : q_fdn) (hdd : q_ddn) (hf2 : q_f2n) (hds : q_dcs) (hend : ∀ (kc ks : Nat) (ls : List (Option Value)) (σ : Nat → va_E), kc ≤ 601024 → ks ≤ 7293034 → AJ G K Q kc ks false 296 3068 ls [] σ) (σ : Nat → va_E) : AJ G K Q 0 0 true 0 0 [some (.ref bS), none, none, none, none, none, none, none, none] [] σ := by
  refine A_newo (ci := 10) (fs := [.null, .int (nI (0)), .int (nI (0)), .int (nI (0)), .null, .null, .null, .null, .null, .null, .null, .null, .null, .null, .null]) (C := RX10) (T := TX10) (N := 15) hg tyX10 rfl uw_10 tyX10_ok (q_mt 28 (by decide +kernel)) (q_mt 29 (by decide +kernel)) (q_mt 1 (by decide +kernel)) nd_10 (by decide) (by decide) dL_law_0 (fun σ_1 hc_2 hf_3 => ?_)
  have hc_2 : σ_1 0 = .inr (10, [.null, .int (nI (0)), .int (nI (0)), .int (nI (0)), .null, .null, .null, .null, .null, .null, .null, .null, .null, .null, .null]) := hc_2
  refine A_dup hg dL_law_3 rfl ?_
  refine A_callI (id := 0) (As := []) (rest := [.ref (q_h G + 0)]) hg lk_RL_138 rfl in_X10_init dL_law_4 ⟨by decide, by decide⟩ ⟨by decide, by decide⟩ rfl rfl (Nat.le_of_ble_eq_true rfl) (c_X10_init G σ_1 hc_2) q_nx ?_
  rintro _ _ σ_11 ⟨rfl, rfl, ChL2, ChG2, ChM2, ChHi2, ChO2, ChT2, ChH2, ChSn2, hc_4, hc_5, hc_6, hc_7, hc_8, hc_9, hf_10⟩
  refine (?_ : AJ G K Q 279 45681 true 279 7 [some (.ref bS), none, none, none, none, none, none, none, none] [.ref (q_h G + 0)] σ_11)
  refine A_astore_n hg dL_law_7 rfl (by decide) (q_c1d rfl) ?_
  refine A_eq (ls2 := [some (.ref bS), some (.ref (q_h G + 0)), none, none, none, none, none, none, none]) (st2 := []) (pc2 := 0) rfl rfl ?_
  refine A_newo (ci := 11) (fs := [.null, .null, .null, .null, .null, .int (nI (0)), .int (nI (0)), .int (nI (0)), .null, .null, .null, .null, .int (nI (0)), .null, .null, .null, .int (nI (0)), .int (nI (0)), .int (nI (0)), .int (nI (0)), .null, .int (nI (0)), .int (nI (0)), .int (nI (0)), .int (nI (0)), .int (nI (0)), .int (nI (0)), .int (nI (0)), .int (nI (0)), .int (nI (0)), .int (nI (0)), .int (nI (0)), .null, .int (nI (0))]) (C := RX11) (T := TX11) (N := 34) hg tyX11 rfl uw_11 tyX11_ok (q_mt 1396 (by decide +kernel)) (q_mt 1397 (by decide +kernel)) (q_mt 18 (by decide +kernel)) nd_11 (by decide) (by decide) dL_law_8 (fun σ_12 hc_13 hf_14 => ?_)
  have hc_13 : σ_12 279 = .inr (11, [.null, .null, .null, .null, .null, .int (nI (0)), .int (nI (0)), .int (nI (0)), .null, .null, .null, .null, .int (nI (0)), .null, .null, .null, .int (nI (0)), .int (nI (0)), .int (nI (0)), .int (nI (0)), .null, .int (nI (0)), .int (nI (0)), .int (nI (0)), .int (nI (0)), .int (nI (0)), .int (nI (0)), .int (nI (0)), .int (nI (0)), .int (nI (0)), .int (nI (0)), .int (nI (0)), .null, .int (nI (0))]) := hc_13
  have hc_15 : σ_12 0 = o10 G (nI (0)) (nI (0)) (q_d (0)) := (hf_14 _ (by omega)).trans hc_4
  have hc_16 : σ_12 1 = q_an G 600 (fun _ => 0) := (hf_14 _ (by omega)).trans hc_5
  have hc_17 : σ_12 23 = o5 G (23) (nI (0)) := (hf_14 _ (by omega)).trans hc_6
  have hc_18 : σ_12 24 = q_an G 256 (fun _ => 0) := (hf_14 _ (by omega)).trans hc_7
  have hc_19 : σ_12 224 = q_rn G 2 2 (fun j => some (243 + 18 * j)) := (hf_14 _ (by omega)).trans hc_8
  have hc_20 : σ_12 225 = q_bn G 2 (fun _ => 0) := (hf_14 _ (by omega)).trans hc_9
  refine A_dup hg dL_law_11 rfl ?_
  refine A_callI (id := 279) (As := []) (rest := [.ref (q_h G + 279)]) hg lk_RL_141 rfl in_X11_init dL_law_12 ⟨by decide, by decide⟩ ⟨by decide, by decide⟩ rfl rfl (Nat.le_of_ble_eq_true rfl) (c_X11_init G σ_12 hc_13) q_nx ?_
  rintro _ _ σ_37 ⟨rfl, rfl, hc_21, hc_22, hc_23, hc_24, hc_25, hc_26, hc_27, hc_28, hc_29, hc_30, hc_31, hc_32, hc_33, hc_34, hc_35, hf_36⟩
  refine (?_ : AJ G K Q 294 70631 true 294 15 [some (.ref bS), some (.ref (q_h G + 0)), none, none, none, none, none, none, none] [.ref (q_h G + 279)] σ_37)
  have hc_38 : σ_37 0 = o10 G (nI (0)) (nI (0)) (q_d (0)) := (hf_36 _ (by omega)).trans hc_15
  have hc_39 : σ_37 1 = q_an G 600 (fun _ => 0) := (hf_36 _ (by omega)).trans hc_16
  have hc_40 : σ_37 23 = o5 G (23) (nI (0)) := (hf_36 _ (by omega)).trans hc_17
  have hc_41 : σ_37 24 = q_an G 256 (fun _ => 0) := (hf_36 _ (by omega)).trans hc_18
  have hc_42 : σ_37 224 = q_rn G 2 2 (fun j => some (243 + 18 * j)) := (hf_36 _ (by omega)).trans hc_19
  have hc_43 : σ_37 225 = q_bn G 2 (fun _ => 0) := (hf_36 _ (by omega)).trans hc_20
  refine A_astore_n hg dL_law_15 rfl (by decide) (q_c1d rfl) ?_
  refine A_eq (ls2 := [some (.ref bS), some (.ref (q_h G + 0)), some (.ref (q_h G + 279)), none, none, none, none, none, none]) (st2 := []) (pc2 := 0) rfl rfl ?_
  refine A_iconst (v := (nI (1))) hg dL_law_16 (by decide) ?_
  refine A_newa (t := 5) (N := 1) (a0 := (1, .inr (.inl (fun _ => 0)))) hg (by decide) rfl (fun C h => by cases h) (q_mt 2122 (by decide +kernel)) (fun _ => rfl) (by decide) (by decide) (by decide) (by decide) dL_law_17 (fun σ_44 hc_45 hf_46 => ?_)
  have hc_45 : σ_44 294 = q_ln G 1 (fun _ => 0) := hc_45
  have hc_47 : σ_44 0 = o10 G (nI (0)) (nI (0)) (q_d (0)) := (hf_46 _ (by omega)).trans hc_38
  have hc_48 : σ_44 1 = q_an G 600 (fun _ => 0) := (hf_46 _ (by omega)).trans hc_39
  have hc_49 : σ_44 23 = o5 G (23) (nI (0)) := (hf_46 _ (by omega)).trans hc_40
  have hc_50 : σ_44 24 = q_an G 256 (fun _ => 0) := (hf_46 _ (by omega)).trans hc_41
  have hc_51 : σ_44 224 = q_rn G 2 2 (fun j => some (243 + 18 * j)) := (hf_46 _ (by omega)).trans hc_42
  have hc_52 : σ_44 225 = q_bn G 2 (fun _ => 0) := (hf_46 _ (by omega)).trans hc_43
  have hc_53 : σ_44 279 = o11 G (upd (fun _ => nI 0) 23 (q_d (0))) := (hf_46 _ (by omega)).trans hc_21
  have hc_54 : σ_44 280 = q_an G 265 (s_addB (va_up (va_up (va_up (va_up (va_up (va_up (va_up (va_up (va_up rd_g0 17 5) 18 16) 19 12) 20 1) 21 9) 22 14) (17 + 29 * 0 + 18) 1) (17 + 29 * 0 + 19) 40) 0 1) 0 5 8) := (hf_46 _ (by omega)).trans hc_22
  have hc_55 : σ_44 281 = q_an G 265 (fun _ => 0) := (hf_46 _ (by omega)).trans hc_23
  have hc_56 : σ_44 282 = q_an G 265 (fun _ => 0) := (hf_46 _ (by omega)).trans hc_24
  have hc_57 : σ_44 283 = q_an G 530 (fun _ => 0) := (hf_46 _ (by omega)).trans hc_25
  have hc_58 : σ_44 284 = q_an G 2120 (fun _ => 0) := (hf_46 _ (by omega)).trans hc_26
  have hc_59 : σ_44 286 = q_an G 1681 (fun _ => 0) := (hf_46 _ (by omega)).trans hc_27
  have hc_60 : σ_44 287 = q_an G 1681 (fun _ => 0) := (hf_46 _ (by omega)).trans hc_28
  have hc_61 : σ_44 288 = q_an G 2000 (fun _ => 0) := (hf_46 _ (by omega)).trans hc_29
  have hc_62 : σ_44 289 = q_an G 6724 (fun _ => 0) := (hf_46 _ (by omega)).trans hc_30
  have hc_63 : σ_44 290 = q_an G 6724 (fun _ => 0) := (hf_46 _ (by omega)).trans hc_31
  have hc_64 : σ_44 291 = q_an G 80 (fun _ => 0) := (hf_46 _ (by omega)).trans hc_32
  have hc_65 : σ_44 292 = q_an G 600 (fun _ => 0) := (hf_46 _ (by omega)).trans hc_33
  have hc_66 : σ_44 293 = q_an G 300 (fun _ => 0) := (hf_46 _ (by omega)).trans hc_34
  have hc_67 : σ_44 285 = q_bn G 1681 (fun _ => 0) := (hf_46 _ (by omega)).trans hc_35
  refine A_astore_n hg dL_law_19 rfl (by decide) (q_c1d rfl) ?_
  refine A_eq (ls2 := [some (.ref bS), some (.ref (q_h G + 0)), some (.ref (q_h G + 279)), some (.ref (q_h G + 294)), none, none, none, none, none]) (st2 := []) (pc2 := 0) rfl rfl ?_
  refine A_iconst (v := (nI (1))) hg dL_law_20 (by decide) ?_
  refine A_newa (t := 6) (N := 1) (a0 := (1, .inr (.inr (.inr (.inl (fun _ => 0)))))) hg (by decide) rfl (fun C h => by cases h) (q_mt 2123 (by decide +kernel)) (fun _ => rfl) (by decide) (by decide) (by decide) (by decide) dL_law_21 (fun σ_68 hc_69 hf_70 => ?_)
  have hc_69 : σ_68 295 = q_dn G 1 (fun _ => 0) := hc_69
  have hc_71 : σ_68 0 = o10 G (nI (0)) (nI (0)) (q_d (0)) := (hf_70 _ (by omega)).trans hc_47
  have hc_72 : σ_68 1 = q_an G 600 (fun _ => 0) := (hf_70 _ (by omega)).trans hc_48
  have hc_73 : σ_68 23 = o5 G (23) (nI (0)) := (hf_70 _ (by omega)).trans hc_49
  have hc_74 : σ_68 24 = q_an G 256 (fun _ => 0) := (hf_70 _ (by omega)).trans hc_50
  have hc_75 : σ_68 224 = q_rn G 2 2 (fun j => some (243 + 18 * j)) := (hf_70 _ (by omega)).trans hc_51
  have hc_76 : σ_68 225 = q_bn G 2 (fun _ => 0) := (hf_70 _ (by omega)).trans hc_52
  have hc_77 : σ_68 279 = o11 G (upd (fun _ => nI 0) 23 (q_d (0))) := (hf_70 _ (by omega)).trans hc_53
  have hc_78 : σ_68 280 = q_an G 265 (s_addB (va_up (va_up (va_up (va_up (va_up (va_up (va_up (va_up (va_up rd_g0 17 5) 18 16) 19 12) 20 1) 21 9) 22 14) (17 + 29 * 0 + 18) 1) (17 + 29 * 0 + 19) 40) 0 1) 0 5 8) := (hf_70 _ (by omega)).trans hc_54
  have hc_79 : σ_68 281 = q_an G 265 (fun _ => 0) := (hf_70 _ (by omega)).trans hc_55
  have hc_80 : σ_68 282 = q_an G 265 (fun _ => 0) := (hf_70 _ (by omega)).trans hc_56
  have hc_81 : σ_68 283 = q_an G 530 (fun _ => 0) := (hf_70 _ (by omega)).trans hc_57
  have hc_82 : σ_68 284 = q_an G 2120 (fun _ => 0) := (hf_70 _ (by omega)).trans hc_58
  have hc_83 : σ_68 286 = q_an G 1681 (fun _ => 0) := (hf_70 _ (by omega)).trans hc_59
  have hc_84 : σ_68 287 = q_an G 1681 (fun _ => 0) := (hf_70 _ (by omega)).trans hc_60
  have hc_85 : σ_68 288 = q_an G 2000 (fun _ => 0) := (hf_70 _ (by omega)).trans hc_61
  have hc_86 : σ_68 289 = q_an G 6724 (fun _ => 0) := (hf_70 _ (by omega)).trans hc_62
  have hc_87 : σ_68 290 = q_an G 6724 (fun _ => 0) := (hf_70 _ (by omega)).trans hc_63
  have hc_88 : σ_68 291 = q_an G 80 (fun _ => 0) := (hf_70 _ (by omega)).trans hc_64
  have hc_89 : σ_68 292 = q_an G 600 (fun _ => 0) := (hf_70 _ (by omega)).trans hc_65
  have hc_90 : σ_68 293 = q_an G 300 (fun _ => 0) := (hf_70 _ (by omega)).trans hc_66
  have hc_91 : σ_68 285 = q_bn G 1681 (fun _ => 0) := (hf_70 _ (by omega)).trans hc_67
  have hc_92 : σ_68 294 = q_ln G 1 (fun _ => 0) := (hf_70 _ (by omega)).trans hc_45
  refine A_astore hg dL_law_23 (by decide) (q_c1d rfl) ?_
  refine A_eq (ls2 := [some (.ref bS), some (.ref (q_h G + 0)), some (.ref (q_h G + 279)), some (.ref (q_h G + 294)), some (.ref (q_h G + 295)), none, none, none, none]) (st2 := []) (pc2 := 0) rfl rfl ?_
  refine A_iconst (v := (nI (0))) hg dL_law_25 (by decide) ?_
  refine A_istore hg dL_law_26 (by decide) (q_c1d rfl) ?_
  refine A_eq (ls2 := [some (.ref bS), some (.ref (q_h G + 0)), some (.ref (q_h G + 279)), some (.ref (q_h G + 294)), some (.ref (q_h G + 295)), some (.int (nI (0))), none, none, none]) (st2 := []) (pc2 := 0) rfl rfl ?_
  have hI0 : iv G σ_68 0 := iv_mk 0 (nI 0) (q_d 0) (fun _ => 0) 0 (fun _ => 0) x_gI 0 0 (fun _ => x_gI) (fun _ => 0) (fun _ _ => 0) (upd (fun _ => nI 0) 23 (q_d 0)) (fun _ => 0) (fun _ => 0) (fun _ => 0) (fun _ => 0) (fun _ => 0) (fun _ => 0) (fun _ => 0) (fun _ => 0) (fun _ => 0) (fun _ => 0) (fun _ => 0) 0 0 0 (fun _ => 0) (fun _ => 0) (fun _ => 0) hc_71 hc_72 hc_73 hc_74 hc_75 hc_76 hc_77 hc_78 hc_79 hc_80 hc_81 hc_82 hc_91 hc_83 hc_84 hc_85 hc_86 hc_87 hc_88 hc_89 hc_90 hc_92 hc_69 (x_lj_e (fun i _ _ => ((hf_70 i (by omega)).trans ((hf_46 i (by omega)).trans ((hf_36 i (by omega)).trans (hf_14 i (by omega)))))) ChL2) (x_gm_e (fun i _ _ => ((hf_70 i (by omega)).trans ((hf_46 i (by omega)).trans ((hf_36 i (by omega)).trans (hf_14 i (by omega)))))) ChG2) (x_mx_e (fun i _ _ => ((hf_70 i (by omega)).trans ((hf_46 i (by omega)).trans ((hf_36 i (by omega)).trans (hf_14 i (by omega)))))) ChM2) (x_hi_e (fun i _ _ => ((hf_70 i (by omega)).trans ((hf_46 i (by omega)).trans ((hf_36 i (by omega)).trans (hf_14 i (by omega)))))) ChHi2) (x_oj_e (fun i _ _ => ((hf_70 i (by omega)).trans ((hf_46 i (by omega)).trans ((hf_36 i (by omega)).trans (hf_14 i (by omega)))))) ChO2) (x_pj_e (fun i _ _ => ((hf_70 i (by omega)).trans ((hf_46 i (by omega)).trans ((hf_36 i (by omega)).trans (hf_14 i (by omega)))))) ChT2) (iv_hn (fun i _ _ => ((hf_70 i (by omega)).trans ((hf_46 i (by omega)).trans ((hf_36 i (by omega)).trans (hf_14 i (by omega)))))) ChH2) (iv_Sn (fun i _ _ => ((hf_70 i (by omega)).trans ((hf_46 i (by omega)).trans ((hf_36 i (by omega)).trans (hf_14 i (by omega)))))) ChSn2) (fun j hj hk => by cases hk) (by decide) (fun _ => by decide) (by decide) (fun q hq => absurd hq (Nat.not_lt_zero q)) x_gI_bd (fun q hq => absurd hq (Nat.not_lt_zero q)) (fun _ _ => Nat.zero_le 1) (fun j hj => ⟨fun h => (by cases h), fun h => (by rw [Nat.zero_testBit] at h; cases h)⟩) (by decide) (fun j hj hk => by cases hk) rfl rfl rfl rfl rfl rfl rfl rfl (Nat.zero_le _) (fun _ _ => Nat.le_refl 0) ⟨(by decide), fun r _ h => (by rw [Nat.zero_testBit] at h; cases h)⟩ (fun _ _ => by decide)
  refine A_unex ?_
  refine A_wide (kc2 := 300 + 8 * 0) (ks2 := 72000 + 48 * 0) (by decide) (by decide) ?_
  exact law_loop G K Q hh hg bS L xs hX hL hfd hdd hf2 hds hend L 0 σ_68 (by omega) (by omega) hI0
end
