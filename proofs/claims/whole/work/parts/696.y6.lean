section
set_option maxRecDepth 100000 in
set_option maxHeartbeats 4000000 in
theorem law_c30 (G : GL) (K : KC) (Q : State → Prop) (hh : List (Nat × Nat × Nat × Nat)) (hg : Gd G K RL code 9 ret room_1 hh) (bS L : Nat) (xs : Nat → Int32) (hX : q_scr G K bS L xs) (i kc ks J : Nat) (hi : i + 5 < L) (hL31 : L < 2 ^ 31) (hkc : kc + 8 ≤ 601024) (hks : ks + 48 ≤ 7293034) (σ : Nat → va_E) (hI : iv G σ J) (hJ : J < 512) (hfd : q_fdn) (hdd : q_ddn) (hf2 : q_f2n) (hds : q_dcs) (hnxt : ∀ σ9 : Nat → va_E, iv G σ9 (J + 1) → AJ G K Q (kc + 8) (ks + 48) false 296 3062 [some (.ref bS), some (.ref (q_h G + 0)), some (.ref (q_h G + 279)), some (.ref (q_h G + 294)), some (.ref (q_h G + 295)), some (.int (nI (i))), none, none, none] [] σ9) : AJ G K Q kc ks false 296 2073 [some (.ref bS), some (.ref (q_h G + 0)), some (.ref (q_h G + 279)), some (.ref (q_h G + 294)), some (.ref (q_h G + 295)), some (.int (nI (i))), none, none, none] [] σ := by
  refine iv_el hI ?_
  intro il z2 z3 f lo o g nx m ps kp sn F wk as sh a fb nv ns mk va sp lp mc z ss ou oL oD
  intro hv0 hv1 hv2 hv3 hv4 hv5 hv6 hv7 hv8 hv9 hv10 hv11 hv12 hv13 hv14 hv15 hv16 hv17 hv18 hv19 hv20 hv21 hv22
  intro hL hG hM hHi hO hT hH hSn hKp
  intro hil hfb hlo2 hou hgd hps hk1 hkss hss hsn hF5 hF6 hF12 hF16 hF21 hF22 hF23 hF33 hmc hmk hTI hlo
  have hfK : ∀ a b : Nat, a ≤ 8 → b ≤ 48 → kc + a ≤ room_1.cells ∧ ks + b ≤ room_1.slots := fun a b h1 h2 => ⟨by show kc + a ≤ 601024; omega, by show ks + b ≤ 7293034; omega⟩
  have hg9 := iv_g hG
  obtain ⟨hnx8, hm8, hc78⟩ := iv_hi hHi
  have hbb := iv_byte (m := il) hfb
  have hg90 := hg9.1
  have hg96 := hg9.2.2.2.2.1
  have hnp8 := s_np_le hg9
  refine A_aload_n hg dL_law_2073 rfl rfl ?_
  refine A_aload_n hg dL_law_2074 rfl rfl ?_
  refine A_iload hg dL_law_2075 rfl ?_
  refine A_iconst (v := (nI (1))) hg dL_law_2077 (by decide) ?_
  refine A_iaddN hg dL_law_2078 ?_
  refine A_sld hg hX (i + 1) (by omega) dL_law_2079 ?_
  refine A_aload_n hg dL_law_2080 rfl rfl ?_
  refine A_iload hg dL_law_2081 rfl ?_
  refine A_iconst (v := (nI (2))) hg dL_law_2083 (by decide) ?_
  refine A_iaddN hg dL_law_2084 ?_
  refine A_sld hg hX (i + 2) (by omega) dL_law_2085 ?_
  refine A_aload_n hg dL_law_2086 rfl rfl ?_
  refine A_iload hg dL_law_2087 rfl ?_
  refine A_iconst (v := (nI (3))) hg dL_law_2089 (by decide) ?_
  refine A_iaddN hg dL_law_2090 ?_
  refine A_sld hg hX (i + 3) (by omega) dL_law_2091 ?_
  refine A_aload_n hg dL_law_2092 rfl rfl ?_
  refine A_callSH (As := [.ref (q_h G + 0), .int (xs (i + 1)), .int (xs (i + 2)), .int (xs (i + 3)), .ref (q_h G + 294)]) (rest := []) hg lkH_250 stH_L_changedBy dL_law_2093 ⟨by decide, by decide⟩ (hfK 4 24 (by decide) (by decide)) rfl rfl (Nat.le_of_ble_eq_true rfl) (c_L_changedBy G 296 σ (nI (il)) z2 z3 g (xs (i + 1)) (xs (i + 2)) (xs (i + 3)) oL hv0 hv21 (by omega) hG hM hO hgd (by omega)) ?_
  rintro _ σ_1 (⟨r1C, a1C, b1C, rfl, Chre, Chrl, Chke, Chle, Chkl, Chll, Chkp, ChM2, ChO2, hc_2, hf_3⟩ | ⟨rfl, Chxx, he_4⟩ | ⟨rfl, Chxx, he_5⟩)
  · skip
    refine (?_ : AJ G K Q (kc + 4) (ks + 24) false 296 2096 [some (.ref bS), some (.ref (q_h G + 0)), some (.ref (q_h G + 279)), some (.ref (q_h G + 294)), some (.ref (q_h G + 295)), some (.int (nI (i))), none, none, none] [.int (nI (0))] σ_1)
    have hc_6 : σ_1 0 = o10 G (nI (il)) (z2) (z3) := (hf_3 0 (by decide)).trans hv0
    have hc_7 : σ_1 1 = q_an G 600 f := (hf_3 1 (by decide)).trans hv1
    have hc_8 : σ_1 23 = o5 G (23) (nI (lo)) := (hf_3 23 (by decide)).trans hv2
    have hc_9 : σ_1 24 = q_an G 256 o := (hf_3 24 (by decide)).trans hv3
    have hc_10 : σ_1 224 = q_rn G 2 2 (fun j => some (243 + 18 * j)) := (hf_3 224 (by decide)).trans hv4
    have hc_11 : σ_1 225 = q_bn G 2 kp := (hf_3 225 (by decide)).trans hv5
    have hc_12 : σ_1 279 = o11 G F := (hf_3 279 (by decide)).trans hv6
    have hc_13 : σ_1 280 = q_an G 265 g := (hf_3 280 (by decide)).trans hv7
    have hc_14 : σ_1 281 = q_an G 265 wk := (hf_3 281 (by decide)).trans hv8
    have hc_15 : σ_1 282 = q_an G 265 as := (hf_3 282 (by decide)).trans hv9
    have hc_16 : σ_1 283 = q_an G 530 sh := (hf_3 283 (by decide)).trans hv10
    have hc_17 : σ_1 284 = q_an G 2120 a := (hf_3 284 (by decide)).trans hv11
    have hc_18 : σ_1 285 = q_bn G 1681 fb := (hf_3 285 (by decide)).trans hv12
    have hc_19 : σ_1 286 = q_an G 1681 nv := (hf_3 286 (by decide)).trans hv13
    have hc_20 : σ_1 287 = q_an G 1681 ns := (hf_3 287 (by decide)).trans hv14
    have hc_21 : σ_1 288 = q_an G 2000 mk := (hf_3 288 (by decide)).trans hv15
    have hc_22 : σ_1 289 = q_an G 6724 va := (hf_3 289 (by decide)).trans hv16
    have hc_23 : σ_1 290 = q_an G 6724 sp := (hf_3 290 (by decide)).trans hv17
    have hc_24 : σ_1 291 = q_an G 80 lp := (hf_3 291 (by decide)).trans hv18
    have hc_25 : σ_1 292 = q_an G 600 f := (hf_3 292 (by decide)).trans hv19
    have hc_26 : σ_1 293 = q_an G 300 ou := (hf_3 293 (by decide)).trans hv20
    have hc_27 : σ_1 295 = q_dn G 1 oD := (hf_3 295 (by decide)).trans hv22
    refine A_istore hg dL_law_2096 (by decide) (q_c1d rfl) ?_
    refine A_eq (ls2 := [some (.ref bS), some (.ref (q_h G + 0)), some (.ref (q_h G + 279)), some (.ref (q_h G + 294)), some (.ref (q_h G + 295)), some (.int (nI (i))), some (.int (nI (0))), none, none]) (st2 := []) (pc2 := 0) rfl rfl ?_
    refine A_aload_n hg dL_law_2098 rfl rfl ?_
    refine A_aload_n hg dL_law_2099 rfl rfl ?_
    refine A_iload hg dL_law_2100 rfl ?_
    refine A_iconst (v := (nI (1))) hg dL_law_2102 (by decide) ?_
    refine A_iaddN hg dL_law_2103 ?_
    refine A_sld hg hX (i + 1) (by omega) dL_law_2104 ?_
    refine A_aload_n hg dL_law_2105 rfl rfl ?_
    refine A_iload hg dL_law_2106 rfl ?_
    refine A_iconst (v := (nI (2))) hg dL_law_2108 (by decide) ?_
    refine A_iaddN hg dL_law_2109 ?_
    refine A_sld hg hX (i + 2) (by omega) dL_law_2110 ?_
    refine A_aload_n hg dL_law_2111 rfl rfl ?_
    refine A_iload hg dL_law_2112 rfl ?_
    refine A_iconst (v := (nI (3))) hg dL_law_2114 (by decide) ?_
    refine A_iaddN hg dL_law_2115 ?_
    refine A_sld hg hX (i + 3) (by omega) dL_law_2116 ?_
    refine A_hV (kc2 := kc + 4) (ks2 := ks + 24) (As := [.int (xs (i + 1)), .int (xs (i + 2)), .int (xs (i + 3))]) (rest := []) hg lk_RL_252 in_X11_changedBy se_X11_changedBy rfl dL_law_2117 ⟨by decide, by decide⟩ rfl rfl (hfK 4 24 (by decide) (by decide)) hc_12 (by omega) rfl rfl (Nat.le_of_ble_eq_true rfl) (c_X11_changedBy G false 296 σ_1 F g fb nv ns mk va sp lp mc z (xs (i + 1)) (xs (i + 2)) (xs (i + 3)) hc_12 hc_13 hc_18 hc_19 hc_20 hc_21 hc_22 hc_23 hc_24 (by omega) hg9 (by omega) hF12 hF16 hmk hTI hlo) ?_
    rintro _ σ_41 (⟨rfl, Mhno, hc_28, hf_29⟩ | ⟨r1M, rfl, Mhre, Mhrl, Mhnp, hc_30, hf_31⟩ | ⟨r1M, a1M, b1M, fqM, nvqM, nsqM, mkqM, vaqM, spqM, loqM, mcqM, zqM, rfl, Mhre, Mhrl, Mhke, Mhle, Mhkl, Mhll, Mhkp, MhTI, Mhmc, Mhmk, Mhlo, hc_32, hc_33, hc_34, hc_35, hc_36, hc_37, hc_38, hc_39, hf_40⟩)
    · skip
      refine (?_ : AJ G K Q (kc + 4) (ks + 24) false 296 2120 [some (.ref bS), some (.ref (q_h G + 0)), some (.ref (q_h G + 279)), some (.ref (q_h G + 294)), some (.ref (q_h G + 295)), some (.int (nI (i))), some (.int (nI (0))), none, none] [.int (nI (0))] σ_41)
      have hc_28 : σ_41 279 = o11 G (upd F 7 (nI (1))) := hc_28
      have hc_42 : σ_41 0 = o10 G (nI (il)) (z2) (z3) := (hf_29 0 (by decide)).trans hc_6
      have hc_43 : σ_41 1 = q_an G 600 f := (hf_29 1 (by decide)).trans hc_7
      have hc_44 : σ_41 23 = o5 G (23) (nI (lo)) := (hf_29 23 (by decide)).trans hc_8
      have hc_45 : σ_41 24 = q_an G 256 o := (hf_29 24 (by decide)).trans hc_9
      have hc_46 : σ_41 224 = q_rn G 2 2 (fun j => some (243 + 18 * j)) := (hf_29 224 (by decide)).trans hc_10
      have hc_47 : σ_41 225 = q_bn G 2 kp := (hf_29 225 (by decide)).trans hc_11
      have hc_48 : σ_41 280 = q_an G 265 g := (hf_29 280 (by decide)).trans hc_13
      have hc_49 : σ_41 281 = q_an G 265 wk := (hf_29 281 (by decide)).trans hc_14
      have hc_50 : σ_41 282 = q_an G 265 as := (hf_29 282 (by decide)).trans hc_15
      have hc_51 : σ_41 283 = q_an G 530 sh := (hf_29 283 (by decide)).trans hc_16
      have hc_52 : σ_41 284 = q_an G 2120 a := (hf_29 284 (by decide)).trans hc_17
      have hc_53 : σ_41 285 = q_bn G 1681 fb := (hf_29 285 (by decide)).trans hc_18
      have hc_54 : σ_41 286 = q_an G 1681 nv := (hf_29 286 (by decide)).trans hc_19
      have hc_55 : σ_41 287 = q_an G 1681 ns := (hf_29 287 (by decide)).trans hc_20
      have hc_56 : σ_41 288 = q_an G 2000 mk := (hf_29 288 (by decide)).trans hc_21
      have hc_57 : σ_41 289 = q_an G 6724 va := (hf_29 289 (by decide)).trans hc_22
      have hc_58 : σ_41 290 = q_an G 6724 sp := (hf_29 290 (by decide)).trans hc_23
      have hc_59 : σ_41 291 = q_an G 80 lp := (hf_29 291 (by decide)).trans hc_24
      have hc_60 : σ_41 292 = q_an G 600 f := (hf_29 292 (by decide)).trans hc_25
      have hc_61 : σ_41 293 = q_an G 300 ou := (hf_29 293 (by decide)).trans hc_26
      have hc_62 : σ_41 295 = q_dn G 1 oD := (hf_29 295 (by decide)).trans hc_27
      have hc_63 : σ_41 294 = q_ln G 1 (va_up oL 0 ((nI (s_chc (s_rule g r1C) a1C b1C 1681)).toInt64)) := (hf_29 294 (by decide)).trans hc_2
      exact (Mhno r1C (by omega) Chre).elim
    · skip
      refine (?_ : AJ G K Q (kc + 4) (ks + 24) false 296 2120 [some (.ref bS), some (.ref (q_h G + 0)), some (.ref (q_h G + 279)), some (.ref (q_h G + 294)), some (.ref (q_h G + 295)), some (.int (nI (i))), some (.int (nI (0))), none, none] [.int (nI (0))] σ_41)
      have hc_30 : σ_41 279 = o11 G (upd F 7 (nI (2))) := hc_30
      have hc_64 : σ_41 0 = o10 G (nI (il)) (z2) (z3) := (hf_31 0 (by decide)).trans hc_6
      have hc_65 : σ_41 1 = q_an G 600 f := (hf_31 1 (by decide)).trans hc_7
      have hc_66 : σ_41 23 = o5 G (23) (nI (lo)) := (hf_31 23 (by decide)).trans hc_8
      have hc_67 : σ_41 24 = q_an G 256 o := (hf_31 24 (by decide)).trans hc_9
      have hc_68 : σ_41 224 = q_rn G 2 2 (fun j => some (243 + 18 * j)) := (hf_31 224 (by decide)).trans hc_10
      have hc_69 : σ_41 225 = q_bn G 2 kp := (hf_31 225 (by decide)).trans hc_11
      have hc_70 : σ_41 280 = q_an G 265 g := (hf_31 280 (by decide)).trans hc_13
      have hc_71 : σ_41 281 = q_an G 265 wk := (hf_31 281 (by decide)).trans hc_14
      have hc_72 : σ_41 282 = q_an G 265 as := (hf_31 282 (by decide)).trans hc_15
      have hc_73 : σ_41 283 = q_an G 530 sh := (hf_31 283 (by decide)).trans hc_16
      have hc_74 : σ_41 284 = q_an G 2120 a := (hf_31 284 (by decide)).trans hc_17
      have hc_75 : σ_41 285 = q_bn G 1681 fb := (hf_31 285 (by decide)).trans hc_18
      have hc_76 : σ_41 286 = q_an G 1681 nv := (hf_31 286 (by decide)).trans hc_19
      have hc_77 : σ_41 287 = q_an G 1681 ns := (hf_31 287 (by decide)).trans hc_20
      have hc_78 : σ_41 288 = q_an G 2000 mk := (hf_31 288 (by decide)).trans hc_21
      have hc_79 : σ_41 289 = q_an G 6724 va := (hf_31 289 (by decide)).trans hc_22
      have hc_80 : σ_41 290 = q_an G 6724 sp := (hf_31 290 (by decide)).trans hc_23
      have hc_81 : σ_41 291 = q_an G 80 lp := (hf_31 291 (by decide)).trans hc_24
      have hc_82 : σ_41 292 = q_an G 600 f := (hf_31 292 (by decide)).trans hc_25
      have hc_83 : σ_41 293 = q_an G 300 ou := (hf_31 293 (by decide)).trans hc_26
      have hc_84 : σ_41 295 = q_dn G 1 oD := (hf_31 295 (by decide)).trans hc_27
      have hc_85 : σ_41 294 = q_ln G 1 (va_up oL 0 ((nI (s_chc (s_rule g r1C) a1C b1C 1681)).toInt64)) := (hf_31 294 (by decide)).trans hc_2
      have e_r : r1C = r1M := q_nI_inj (by omega) (by omega) (Chre.symm.trans Mhre)
      subst e_r
      exact (Mhnp a1C b1C (by omega) (by omega) (by omega) Chke Chle).elim
    · skip
      refine (?_ : AJ G K Q (kc + 4) (ks + 24) false 296 2120 [some (.ref bS), some (.ref (q_h G + 0)), some (.ref (q_h G + 279)), some (.ref (q_h G + 294)), some (.ref (q_h G + 295)), some (.int (nI (i))), some (.int (nI (0))), none, none] [.int (nI (s_chc (s_rule g r1M) a1M b1M 1681))] σ_41)
      have hc_32 : σ_41 279 = o11 G (upd (upd (upd F 7 (nI (0))) 12 (nI (mcqM))) 16 (nI (zqM))) := hc_32
      have hc_86 : σ_41 0 = o10 G (nI (il)) (z2) (z3) := (hf_40 0 (by decide)).trans hc_6
      have hc_87 : σ_41 1 = q_an G 600 f := (hf_40 1 (by decide)).trans hc_7
      have hc_88 : σ_41 23 = o5 G (23) (nI (lo)) := (hf_40 23 (by decide)).trans hc_8
      have hc_89 : σ_41 24 = q_an G 256 o := (hf_40 24 (by decide)).trans hc_9
      have hc_90 : σ_41 224 = q_rn G 2 2 (fun j => some (243 + 18 * j)) := (hf_40 224 (by decide)).trans hc_10
      have hc_91 : σ_41 225 = q_bn G 2 kp := (hf_40 225 (by decide)).trans hc_11
      have hc_92 : σ_41 280 = q_an G 265 g := (hf_40 280 (by decide)).trans hc_13
      have hc_93 : σ_41 281 = q_an G 265 wk := (hf_40 281 (by decide)).trans hc_14
      have hc_94 : σ_41 282 = q_an G 265 as := (hf_40 282 (by decide)).trans hc_15
      have hc_95 : σ_41 283 = q_an G 530 sh := (hf_40 283 (by decide)).trans hc_16
      have hc_96 : σ_41 284 = q_an G 2120 a := (hf_40 284 (by decide)).trans hc_17
      have hc_97 : σ_41 292 = q_an G 600 f := (hf_40 292 (by decide)).trans hc_25
      have hc_98 : σ_41 293 = q_an G 300 ou := (hf_40 293 (by decide)).trans hc_26
      have hc_99 : σ_41 295 = q_dn G 1 oD := (hf_40 295 (by decide)).trans hc_27
      have hc_100 : σ_41 294 = q_ln G 1 (va_up oL 0 ((nI (s_chc (s_rule g r1C) a1C b1C 1681)).toInt64)) := (hf_40 294 (by decide)).trans hc_2
      have e_r : r1C = r1M := q_nI_inj (by omega) (by omega) (Chre.symm.trans Mhre)
      subst e_r
      have e_k : a1C = a1M := q_nI_inj (by omega) (by omega) (Chke.symm.trans Mhke)
      subst e_k
      have e_l : b1C = b1M := q_nI_inj (by omega) (by omega) (Chle.symm.trans Mhle)
      subst e_l
      refine A_istore hg dL_law_2120 (by decide) (q_c1d rfl) ?_
      refine A_eq (ls2 := [some (.ref bS), some (.ref (q_h G + 0)), some (.ref (q_h G + 279)), some (.ref (q_h G + 294)), some (.ref (q_h G + 295)), some (.int (nI (i))), some (.int (nI (0))), some (.int (nI (s_chc (s_rule g r1C) a1C b1C 1681))), none]) (st2 := []) (pc2 := 0) rfl rfl ?_
      refine A_aload_n hg dL_law_2122 rfl rfl ?_
      refine A_eV (kc2 := kc + 4) (ks2 := ks + 24) (As := []) (rest := []) hg lk_RL_170 in_X11_thrown se_X11_thrown rfl dL_law_2123 ⟨by decide, by decide⟩ rfl rfl (hfK 4 24 (by decide) (by decide)) hc_32 (by omega) rfl rfl (Nat.le_of_ble_eq_true rfl) (c_X11_thrown G false 296 σ_41 (upd (upd (upd F 7 (nI (0))) 12 (nI (mcqM))) 16 (nI (zqM))) hc_32 (by omega)) ?_
      refine A_top (w := .int (nI (0))) (congrArg Value.int rfl) ?_
      refine A_iload hg dL_law_2126 rfl ?_
      refine A_icmp_eqN (tgt := 2133) hg dL_law_2128 (by decide) (by decide) (by decide) (fun c2128 => ?_) (fun c2128 => False.elim (by omega))
      refine A_iload hg dL_law_2133 rfl ?_
      refine A_if_neN (tgt := 2150) hg dL_law_2135 (by decide) (by decide) (fun c2135 => absurd (by decide) c2135) (fun c2135 => ?_)
      refine A_aload_n hg dL_law_2138 rfl rfl ?_
      refine A_iconst (v := (nI (0))) hg dL_law_2139 (by decide) ?_
      refine A_lald (j := 0) hg dL_law_2140 hc_100 (by omega) (by decide) (by decide) ?_
      refine A_top (w := .long ((nI (s_chc (s_rule g r1C) a1C b1C 1681)).toInt64)) (congrArg Value.long iv_up0) ?_
      refine A_iload hg dL_law_2141 rfl ?_
      refine A_i2l (v := (nI (s_chc (s_rule g r1C) a1C b1C 1681)).toInt64) hg dL_law_2143 rfl ?_
      refine A_lcmp hg dL_law_2144 ?_
      refine A_top (w := .int (nI 0)) (congrArg Value.int (lc_self _)) ?_
      refine A_if_eqN (tgt := 2150) hg dL_law_2145 (by decide) (by decide) (fun c2145 => ?_) (fun c2145 => absurd (by decide) c2145)
      refine A_goto (tgt := 3062) hg dL_law_2150 (by decide) ?_
      refine A_drop 6 ?_
      refine A_drop 7 ?_
      refine A_eq (ls2 := [some (.ref bS), some (.ref (q_h G + 0)), some (.ref (q_h G + 279)), some (.ref (q_h G + 294)), some (.ref (q_h G + 295)), some (.int (nI (i))), none, none, none]) (st2 := []) (pc2 := 0) rfl rfl ?_
      refine A_wide (kc2 := kc + 8) (ks2 := ks + 48) (by omega) (by omega) ?_
      exact hnxt _ (iv_mk il z2 z3 f lo o g nx m ps kp sn (upd (upd (upd F 7 (nI (0))) 12 (nI (mcqM))) 16 (nI (zqM))) wk as sh a fqM nvqM nsqM mkqM vaqM spqM loqM mcqM zqM ss ou (va_up oL 0 ((nI (s_chc (s_rule g r1C) a1C b1C 1681)).toInt64)) oD hc_86 hc_87 hc_88 hc_89 hc_90 hc_91 hc_32 hc_92 hc_93 hc_94 hc_95 hc_96 hc_33 hc_34 hc_35 hc_36 hc_37 hc_38 hc_39 hc_97 hc_98 hc_100 hc_99 (x_lj_e (fun i _ _ => ((hf_40 i (by omega)).trans (hf_3 i (by omega)))) hL) (x_gm_e (fun i _ _ => ((hf_40 i (by omega)).trans (hf_3 i (by omega)))) hG) (x_mx_e (fun i _ _ => (hf_40 i (by omega))) ChM2) (x_hi_e (fun i _ _ => ((hf_40 i (by omega)).trans (hf_3 i (by omega)))) hHi) (x_oj_e (fun i _ _ => (hf_40 i (by omega))) ChO2) (x_pj_e (fun i _ _ => ((hf_40 i (by omega)).trans (hf_3 i (by omega)))) hT) (iv_hn (fun i _ _ => ((hf_40 i (by omega)).trans (hf_3 i (by omega)))) hH) (iv_Sn (fun i _ _ => ((hf_40 i (by omega)).trans (hf_3 i (by omega)))) hSn) (iv_Kp (fun i _ _ => ((hf_40 i (by omega)).trans (hf_3 i (by omega)))) hKp) (by omega) hfb (by omega) hou hgd hps hk1 hkss hss hsn hF5 hF6 rfl rfl hF21 hF22 hF23 hF33 (by omega) Mhmk MhTI Mhlo)
  · skip
    rw [he_4]
    refine (?_ : AJ G K Q (kc + 4) (ks + 24) false 296 2096 [some (.ref bS), some (.ref (q_h G + 0)), some (.ref (q_h G + 279)), some (.ref (q_h G + 294)), some (.ref (q_h G + 295)), some (.int (nI (i))), none, none, none] [.int (nI (1))] σ)
    refine A_istore hg dL_law_2096 (by decide) (q_c1d rfl) ?_
    refine A_eq (ls2 := [some (.ref bS), some (.ref (q_h G + 0)), some (.ref (q_h G + 279)), some (.ref (q_h G + 294)), some (.ref (q_h G + 295)), some (.int (nI (i))), some (.int (nI (1))), none, none]) (st2 := []) (pc2 := 0) rfl rfl ?_
    refine A_aload_n hg dL_law_2098 rfl rfl ?_
    refine A_aload_n hg dL_law_2099 rfl rfl ?_
    refine A_iload hg dL_law_2100 rfl ?_
    refine A_iconst (v := (nI (1))) hg dL_law_2102 (by decide) ?_
    refine A_iaddN hg dL_law_2103 ?_
    refine A_sld hg hX (i + 1) (by omega) dL_law_2104 ?_
    refine A_aload_n hg dL_law_2105 rfl rfl ?_
    refine A_iload hg dL_law_2106 rfl ?_
    refine A_iconst (v := (nI (2))) hg dL_law_2108 (by decide) ?_
    refine A_iaddN hg dL_law_2109 ?_
    refine A_sld hg hX (i + 2) (by omega) dL_law_2110 ?_
    refine A_aload_n hg dL_law_2111 rfl rfl ?_
    refine A_iload hg dL_law_2112 rfl ?_
    refine A_iconst (v := (nI (3))) hg dL_law_2114 (by decide) ?_
    refine A_iaddN hg dL_law_2115 ?_
    refine A_sld hg hX (i + 3) (by omega) dL_law_2116 ?_
    refine A_hV (kc2 := kc + 4) (ks2 := ks + 24) (As := [.int (xs (i + 1)), .int (xs (i + 2)), .int (xs (i + 3))]) (rest := []) hg lk_RL_252 in_X11_changedBy se_X11_changedBy rfl dL_law_2117 ⟨by decide, by decide⟩ rfl rfl (hfK 4 24 (by decide) (by decide)) hv6 (by omega) rfl rfl (Nat.le_of_ble_eq_true rfl) (c_X11_changedBy G false 296 σ F g fb nv ns mk va sp lp mc z (xs (i + 1)) (xs (i + 2)) (xs (i + 3)) hv6 hv7 hv12 hv13 hv14 hv15 hv16 hv17 hv18 (by omega) hg9 (by omega) hF12 hF16 hmk hTI hlo) ?_
    rintro _ σ_114 (⟨rfl, Mhno, hc_101, hf_102⟩ | ⟨r1M, rfl, Mhre, Mhrl, Mhnp, hc_103, hf_104⟩ | ⟨r1M, a1M, b1M, fqM, nvqM, nsqM, mkqM, vaqM, spqM, loqM, mcqM, zqM, rfl, Mhre, Mhrl, Mhke, Mhle, Mhkl, Mhll, Mhkp, MhTI, Mhmc, Mhmk, Mhlo, hc_105, hc_106, hc_107, hc_108, hc_109, hc_110, hc_111, hc_112, hf_113⟩)
    · skip
      refine (?_ : AJ G K Q (kc + 4) (ks + 24) false 296 2120 [some (.ref bS), some (.ref (q_h G + 0)), some (.ref (q_h G + 279)), some (.ref (q_h G + 294)), some (.ref (q_h G + 295)), some (.int (nI (i))), some (.int (nI (1))), none, none] [.int (nI (0))] σ_114)
      have hc_101 : σ_114 279 = o11 G (upd F 7 (nI (1))) := hc_101
      have hc_115 : σ_114 0 = o10 G (nI (il)) (z2) (z3) := (hf_102 0 (by decide)).trans hv0
      have hc_116 : σ_114 1 = q_an G 600 f := (hf_102 1 (by decide)).trans hv1
      have hc_117 : σ_114 23 = o5 G (23) (nI (lo)) := (hf_102 23 (by decide)).trans hv2
      have hc_118 : σ_114 24 = q_an G 256 o := (hf_102 24 (by decide)).trans hv3
      have hc_119 : σ_114 224 = q_rn G 2 2 (fun j => some (243 + 18 * j)) := (hf_102 224 (by decide)).trans hv4
      have hc_120 : σ_114 225 = q_bn G 2 kp := (hf_102 225 (by decide)).trans hv5
      have hc_121 : σ_114 280 = q_an G 265 g := (hf_102 280 (by decide)).trans hv7
      have hc_122 : σ_114 281 = q_an G 265 wk := (hf_102 281 (by decide)).trans hv8
      have hc_123 : σ_114 282 = q_an G 265 as := (hf_102 282 (by decide)).trans hv9
      have hc_124 : σ_114 283 = q_an G 530 sh := (hf_102 283 (by decide)).trans hv10
      have hc_125 : σ_114 284 = q_an G 2120 a := (hf_102 284 (by decide)).trans hv11
      have hc_126 : σ_114 285 = q_bn G 1681 fb := (hf_102 285 (by decide)).trans hv12
      have hc_127 : σ_114 286 = q_an G 1681 nv := (hf_102 286 (by decide)).trans hv13
      have hc_128 : σ_114 287 = q_an G 1681 ns := (hf_102 287 (by decide)).trans hv14
      have hc_129 : σ_114 288 = q_an G 2000 mk := (hf_102 288 (by decide)).trans hv15
      have hc_130 : σ_114 289 = q_an G 6724 va := (hf_102 289 (by decide)).trans hv16
      have hc_131 : σ_114 290 = q_an G 6724 sp := (hf_102 290 (by decide)).trans hv17
      have hc_132 : σ_114 291 = q_an G 80 lp := (hf_102 291 (by decide)).trans hv18
      have hc_133 : σ_114 292 = q_an G 600 f := (hf_102 292 (by decide)).trans hv19
      have hc_134 : σ_114 293 = q_an G 300 ou := (hf_102 293 (by decide)).trans hv20
      have hc_135 : σ_114 294 = q_ln G 1 oL := (hf_102 294 (by decide)).trans hv21
      have hc_136 : σ_114 295 = q_dn G 1 oD := (hf_102 295 (by decide)).trans hv22
      refine A_istore hg dL_law_2120 (by decide) (q_c1d rfl) ?_
      refine A_eq (ls2 := [some (.ref bS), some (.ref (q_h G + 0)), some (.ref (q_h G + 279)), some (.ref (q_h G + 294)), some (.ref (q_h G + 295)), some (.int (nI (i))), some (.int (nI (1))), some (.int (nI (0))), none]) (st2 := []) (pc2 := 0) rfl rfl ?_
      refine A_aload_n hg dL_law_2122 rfl rfl ?_
      refine A_eV (kc2 := kc + 4) (ks2 := ks + 24) (As := []) (rest := []) hg lk_RL_170 in_X11_thrown se_X11_thrown rfl dL_law_2123 ⟨by decide, by decide⟩ rfl rfl (hfK 4 24 (by decide) (by decide)) hc_101 (by omega) rfl rfl (Nat.le_of_ble_eq_true rfl) (c_X11_thrown G false 296 σ_114 (upd F 7 (nI (1))) hc_101 (by omega)) ?_
      refine A_top (w := .int (nI (1))) (congrArg Value.int rfl) ?_
      refine A_iload hg dL_law_2126 rfl ?_
      refine A_icmp_eqN (tgt := 2133) hg dL_law_2128 (by decide) (by decide) (by decide) (fun c2128 => ?_) (fun c2128 => False.elim (by omega))
      refine A_iload hg dL_law_2133 rfl ?_
      refine A_if_neN (tgt := 2150) hg dL_law_2135 (by decide) (by decide) (fun c2135 => ?_) (fun c2135 => absurd c2135 (by decide))
      refine A_goto (tgt := 3062) hg dL_law_2150 (by decide) ?_
      refine A_drop 6 ?_
      refine A_drop 7 ?_
      refine A_eq (ls2 := [some (.ref bS), some (.ref (q_h G + 0)), some (.ref (q_h G + 279)), some (.ref (q_h G + 294)), some (.ref (q_h G + 295)), some (.int (nI (i))), none, none, none]) (st2 := []) (pc2 := 0) rfl rfl ?_
      refine A_wide (kc2 := kc + 8) (ks2 := ks + 48) (by omega) (by omega) ?_
      exact hnxt _ (iv_mk il z2 z3 f lo o g nx m ps kp sn (upd F 7 (nI (1))) wk as sh a fb nv ns mk va sp lp mc z ss ou oL oD hc_115 hc_116 hc_117 hc_118 hc_119 hc_120 hc_101 hc_121 hc_122 hc_123 hc_124 hc_125 hc_126 hc_127 hc_128 hc_129 hc_130 hc_131 hc_132 hc_133 hc_134 hc_135 hc_136 (x_lj_e (fun i _ _ => (hf_102 i (by omega))) hL) (x_gm_e (fun i _ _ => (hf_102 i (by omega))) hG) (x_mx_e (fun i _ _ => (hf_102 i (by omega))) hM) (x_hi_e (fun i _ _ => (hf_102 i (by omega))) hHi) (x_oj_e (fun i _ _ => (hf_102 i (by omega))) hO) (x_pj_e (fun i _ _ => (hf_102 i (by omega))) hT) (iv_hn (fun i _ _ => (hf_102 i (by omega))) hH) (iv_Sn (fun i _ _ => (hf_102 i (by omega))) hSn) (iv_Kp (fun i _ _ => (hf_102 i (by omega))) hKp) (by omega) hfb (by omega) hou hgd hps hk1 hkss hss hsn hF5 hF6 hF12 hF16 hF21 hF22 hF23 hF33 (by omega) hmk hTI hlo)
    · skip
      refine (?_ : AJ G K Q (kc + 4) (ks + 24) false 296 2120 [some (.ref bS), some (.ref (q_h G + 0)), some (.ref (q_h G + 279)), some (.ref (q_h G + 294)), some (.ref (q_h G + 295)), some (.int (nI (i))), some (.int (nI (1))), none, none] [.int (nI (0))] σ_114)
      have hc_103 : σ_114 279 = o11 G (upd F 7 (nI (2))) := hc_103
      have hc_137 : σ_114 0 = o10 G (nI (il)) (z2) (z3) := (hf_104 0 (by decide)).trans hv0
      have hc_138 : σ_114 1 = q_an G 600 f := (hf_104 1 (by decide)).trans hv1
      have hc_139 : σ_114 23 = o5 G (23) (nI (lo)) := (hf_104 23 (by decide)).trans hv2
      have hc_140 : σ_114 24 = q_an G 256 o := (hf_104 24 (by decide)).trans hv3
      have hc_141 : σ_114 224 = q_rn G 2 2 (fun j => some (243 + 18 * j)) := (hf_104 224 (by decide)).trans hv4
      have hc_142 : σ_114 225 = q_bn G 2 kp := (hf_104 225 (by decide)).trans hv5
      have hc_143 : σ_114 280 = q_an G 265 g := (hf_104 280 (by decide)).trans hv7
      have hc_144 : σ_114 281 = q_an G 265 wk := (hf_104 281 (by decide)).trans hv8
      have hc_145 : σ_114 282 = q_an G 265 as := (hf_104 282 (by decide)).trans hv9
      have hc_146 : σ_114 283 = q_an G 530 sh := (hf_104 283 (by decide)).trans hv10
      have hc_147 : σ_114 284 = q_an G 2120 a := (hf_104 284 (by decide)).trans hv11
      have hc_148 : σ_114 285 = q_bn G 1681 fb := (hf_104 285 (by decide)).trans hv12
      have hc_149 : σ_114 286 = q_an G 1681 nv := (hf_104 286 (by decide)).trans hv13
      have hc_150 : σ_114 287 = q_an G 1681 ns := (hf_104 287 (by decide)).trans hv14
      have hc_151 : σ_114 288 = q_an G 2000 mk := (hf_104 288 (by decide)).trans hv15
      have hc_152 : σ_114 289 = q_an G 6724 va := (hf_104 289 (by decide)).trans hv16
      have hc_153 : σ_114 290 = q_an G 6724 sp := (hf_104 290 (by decide)).trans hv17
      have hc_154 : σ_114 291 = q_an G 80 lp := (hf_104 291 (by decide)).trans hv18
      have hc_155 : σ_114 292 = q_an G 600 f := (hf_104 292 (by decide)).trans hv19
      have hc_156 : σ_114 293 = q_an G 300 ou := (hf_104 293 (by decide)).trans hv20
      have hc_157 : σ_114 294 = q_ln G 1 oL := (hf_104 294 (by decide)).trans hv21
      have hc_158 : σ_114 295 = q_dn G 1 oD := (hf_104 295 (by decide)).trans hv22
      exact (Chxx r1M (by omega) Mhre).elim
    · skip
      refine (?_ : AJ G K Q (kc + 4) (ks + 24) false 296 2120 [some (.ref bS), some (.ref (q_h G + 0)), some (.ref (q_h G + 279)), some (.ref (q_h G + 294)), some (.ref (q_h G + 295)), some (.int (nI (i))), some (.int (nI (1))), none, none] [.int (nI (s_chc (s_rule g r1M) a1M b1M 1681))] σ_114)
      have hc_105 : σ_114 279 = o11 G (upd (upd (upd F 7 (nI (0))) 12 (nI (mcqM))) 16 (nI (zqM))) := hc_105
      have hc_159 : σ_114 0 = o10 G (nI (il)) (z2) (z3) := (hf_113 0 (by decide)).trans hv0
      have hc_160 : σ_114 1 = q_an G 600 f := (hf_113 1 (by decide)).trans hv1
      have hc_161 : σ_114 23 = o5 G (23) (nI (lo)) := (hf_113 23 (by decide)).trans hv2
      have hc_162 : σ_114 24 = q_an G 256 o := (hf_113 24 (by decide)).trans hv3
      have hc_163 : σ_114 224 = q_rn G 2 2 (fun j => some (243 + 18 * j)) := (hf_113 224 (by decide)).trans hv4
      have hc_164 : σ_114 225 = q_bn G 2 kp := (hf_113 225 (by decide)).trans hv5
      have hc_165 : σ_114 280 = q_an G 265 g := (hf_113 280 (by decide)).trans hv7
      have hc_166 : σ_114 281 = q_an G 265 wk := (hf_113 281 (by decide)).trans hv8
      have hc_167 : σ_114 282 = q_an G 265 as := (hf_113 282 (by decide)).trans hv9
      have hc_168 : σ_114 283 = q_an G 530 sh := (hf_113 283 (by decide)).trans hv10
      have hc_169 : σ_114 284 = q_an G 2120 a := (hf_113 284 (by decide)).trans hv11
      have hc_170 : σ_114 292 = q_an G 600 f := (hf_113 292 (by decide)).trans hv19
      have hc_171 : σ_114 293 = q_an G 300 ou := (hf_113 293 (by decide)).trans hv20
      have hc_172 : σ_114 294 = q_ln G 1 oL := (hf_113 294 (by decide)).trans hv21
      have hc_173 : σ_114 295 = q_dn G 1 oD := (hf_113 295 (by decide)).trans hv22
      exact (Chxx r1M (by omega) Mhre).elim
  · skip
    rw [he_5]
    refine (?_ : AJ G K Q (kc + 4) (ks + 24) false 296 2096 [some (.ref bS), some (.ref (q_h G + 0)), some (.ref (q_h G + 279)), some (.ref (q_h G + 294)), some (.ref (q_h G + 295)), some (.int (nI (i))), none, none, none] [.int (nI (2))] σ)
    obtain ⟨r1C, Chx0, Chx1, Chx2⟩ := Chxx
    refine A_istore hg dL_law_2096 (by decide) (q_c1d rfl) ?_
    refine A_eq (ls2 := [some (.ref bS), some (.ref (q_h G + 0)), some (.ref (q_h G + 279)), some (.ref (q_h G + 294)), some (.ref (q_h G + 295)), some (.int (nI (i))), some (.int (nI (2))), none, none]) (st2 := []) (pc2 := 0) rfl rfl ?_
    refine A_aload_n hg dL_law_2098 rfl rfl ?_
    refine A_aload_n hg dL_law_2099 rfl rfl ?_
    refine A_iload hg dL_law_2100 rfl ?_
    refine A_iconst (v := (nI (1))) hg dL_law_2102 (by decide) ?_
    refine A_iaddN hg dL_law_2103 ?_
    refine A_sld hg hX (i + 1) (by omega) dL_law_2104 ?_
    refine A_aload_n hg dL_law_2105 rfl rfl ?_
    refine A_iload hg dL_law_2106 rfl ?_
    refine A_iconst (v := (nI (2))) hg dL_law_2108 (by decide) ?_
    refine A_iaddN hg dL_law_2109 ?_
    refine A_sld hg hX (i + 2) (by omega) dL_law_2110 ?_
    refine A_aload_n hg dL_law_2111 rfl rfl ?_
    refine A_iload hg dL_law_2112 rfl ?_
    refine A_iconst (v := (nI (3))) hg dL_law_2114 (by decide) ?_
    refine A_iaddN hg dL_law_2115 ?_
    refine A_sld hg hX (i + 3) (by omega) dL_law_2116 ?_
    refine A_hV (kc2 := kc + 4) (ks2 := ks + 24) (As := [.int (xs (i + 1)), .int (xs (i + 2)), .int (xs (i + 3))]) (rest := []) hg lk_RL_252 in_X11_changedBy se_X11_changedBy rfl dL_law_2117 ⟨by decide, by decide⟩ rfl rfl (hfK 4 24 (by decide) (by decide)) hv6 (by omega) rfl rfl (Nat.le_of_ble_eq_true rfl) (c_X11_changedBy G false 296 σ F g fb nv ns mk va sp lp mc z (xs (i + 1)) (xs (i + 2)) (xs (i + 3)) hv6 hv7 hv12 hv13 hv14 hv15 hv16 hv17 hv18 (by omega) hg9 (by omega) hF12 hF16 hmk hTI hlo) ?_
    rintro _ σ_187 (⟨rfl, Mhno, hc_174, hf_175⟩ | ⟨r1M, rfl, Mhre, Mhrl, Mhnp, hc_176, hf_177⟩ | ⟨r1M, a1M, b1M, fqM, nvqM, nsqM, mkqM, vaqM, spqM, loqM, mcqM, zqM, rfl, Mhre, Mhrl, Mhke, Mhle, Mhkl, Mhll, Mhkp, MhTI, Mhmc, Mhmk, Mhlo, hc_178, hc_179, hc_180, hc_181, hc_182, hc_183, hc_184, hc_185, hf_186⟩)
    · skip
      refine (?_ : AJ G K Q (kc + 4) (ks + 24) false 296 2120 [some (.ref bS), some (.ref (q_h G + 0)), some (.ref (q_h G + 279)), some (.ref (q_h G + 294)), some (.ref (q_h G + 295)), some (.int (nI (i))), some (.int (nI (2))), none, none] [.int (nI (0))] σ_187)
      have hc_174 : σ_187 279 = o11 G (upd F 7 (nI (1))) := hc_174
      have hc_188 : σ_187 0 = o10 G (nI (il)) (z2) (z3) := (hf_175 0 (by decide)).trans hv0
      have hc_189 : σ_187 1 = q_an G 600 f := (hf_175 1 (by decide)).trans hv1
      have hc_190 : σ_187 23 = o5 G (23) (nI (lo)) := (hf_175 23 (by decide)).trans hv2
      have hc_191 : σ_187 24 = q_an G 256 o := (hf_175 24 (by decide)).trans hv3
      have hc_192 : σ_187 224 = q_rn G 2 2 (fun j => some (243 + 18 * j)) := (hf_175 224 (by decide)).trans hv4
      have hc_193 : σ_187 225 = q_bn G 2 kp := (hf_175 225 (by decide)).trans hv5
      have hc_194 : σ_187 280 = q_an G 265 g := (hf_175 280 (by decide)).trans hv7
      have hc_195 : σ_187 281 = q_an G 265 wk := (hf_175 281 (by decide)).trans hv8
      have hc_196 : σ_187 282 = q_an G 265 as := (hf_175 282 (by decide)).trans hv9
      have hc_197 : σ_187 283 = q_an G 530 sh := (hf_175 283 (by decide)).trans hv10
      have hc_198 : σ_187 284 = q_an G 2120 a := (hf_175 284 (by decide)).trans hv11
      have hc_199 : σ_187 285 = q_bn G 1681 fb := (hf_175 285 (by decide)).trans hv12
      have hc_200 : σ_187 286 = q_an G 1681 nv := (hf_175 286 (by decide)).trans hv13
      have hc_201 : σ_187 287 = q_an G 1681 ns := (hf_175 287 (by decide)).trans hv14
      have hc_202 : σ_187 288 = q_an G 2000 mk := (hf_175 288 (by decide)).trans hv15
      have hc_203 : σ_187 289 = q_an G 6724 va := (hf_175 289 (by decide)).trans hv16
      have hc_204 : σ_187 290 = q_an G 6724 sp := (hf_175 290 (by decide)).trans hv17
      have hc_205 : σ_187 291 = q_an G 80 lp := (hf_175 291 (by decide)).trans hv18
      have hc_206 : σ_187 292 = q_an G 600 f := (hf_175 292 (by decide)).trans hv19
      have hc_207 : σ_187 293 = q_an G 300 ou := (hf_175 293 (by decide)).trans hv20
      have hc_208 : σ_187 294 = q_ln G 1 oL := (hf_175 294 (by decide)).trans hv21
      have hc_209 : σ_187 295 = q_dn G 1 oD := (hf_175 295 (by decide)).trans hv22
      exact (Mhno r1C (by omega) Chx0).elim
    · skip
      refine (?_ : AJ G K Q (kc + 4) (ks + 24) false 296 2120 [some (.ref bS), some (.ref (q_h G + 0)), some (.ref (q_h G + 279)), some (.ref (q_h G + 294)), some (.ref (q_h G + 295)), some (.int (nI (i))), some (.int (nI (2))), none, none] [.int (nI (0))] σ_187)
      have hc_176 : σ_187 279 = o11 G (upd F 7 (nI (2))) := hc_176
      have hc_210 : σ_187 0 = o10 G (nI (il)) (z2) (z3) := (hf_177 0 (by decide)).trans hv0
      have hc_211 : σ_187 1 = q_an G 600 f := (hf_177 1 (by decide)).trans hv1
      have hc_212 : σ_187 23 = o5 G (23) (nI (lo)) := (hf_177 23 (by decide)).trans hv2
      have hc_213 : σ_187 24 = q_an G 256 o := (hf_177 24 (by decide)).trans hv3
      have hc_214 : σ_187 224 = q_rn G 2 2 (fun j => some (243 + 18 * j)) := (hf_177 224 (by decide)).trans hv4
      have hc_215 : σ_187 225 = q_bn G 2 kp := (hf_177 225 (by decide)).trans hv5
      have hc_216 : σ_187 280 = q_an G 265 g := (hf_177 280 (by decide)).trans hv7
      have hc_217 : σ_187 281 = q_an G 265 wk := (hf_177 281 (by decide)).trans hv8
      have hc_218 : σ_187 282 = q_an G 265 as := (hf_177 282 (by decide)).trans hv9
      have hc_219 : σ_187 283 = q_an G 530 sh := (hf_177 283 (by decide)).trans hv10
      have hc_220 : σ_187 284 = q_an G 2120 a := (hf_177 284 (by decide)).trans hv11
      have hc_221 : σ_187 285 = q_bn G 1681 fb := (hf_177 285 (by decide)).trans hv12
      have hc_222 : σ_187 286 = q_an G 1681 nv := (hf_177 286 (by decide)).trans hv13
      have hc_223 : σ_187 287 = q_an G 1681 ns := (hf_177 287 (by decide)).trans hv14
      have hc_224 : σ_187 288 = q_an G 2000 mk := (hf_177 288 (by decide)).trans hv15
      have hc_225 : σ_187 289 = q_an G 6724 va := (hf_177 289 (by decide)).trans hv16
      have hc_226 : σ_187 290 = q_an G 6724 sp := (hf_177 290 (by decide)).trans hv17
      have hc_227 : σ_187 291 = q_an G 80 lp := (hf_177 291 (by decide)).trans hv18
      have hc_228 : σ_187 292 = q_an G 600 f := (hf_177 292 (by decide)).trans hv19
      have hc_229 : σ_187 293 = q_an G 300 ou := (hf_177 293 (by decide)).trans hv20
      have hc_230 : σ_187 294 = q_ln G 1 oL := (hf_177 294 (by decide)).trans hv21
      have hc_231 : σ_187 295 = q_dn G 1 oD := (hf_177 295 (by decide)).trans hv22
      have e_r : r1C = r1M := q_nI_inj (by omega) (by omega) (Chx0.symm.trans Mhre)
      subst e_r
      refine A_istore hg dL_law_2120 (by decide) (q_c1d rfl) ?_
      refine A_eq (ls2 := [some (.ref bS), some (.ref (q_h G + 0)), some (.ref (q_h G + 279)), some (.ref (q_h G + 294)), some (.ref (q_h G + 295)), some (.int (nI (i))), some (.int (nI (2))), some (.int (nI (0))), none]) (st2 := []) (pc2 := 0) rfl rfl ?_
      refine A_aload_n hg dL_law_2122 rfl rfl ?_
      refine A_eV (kc2 := kc + 4) (ks2 := ks + 24) (As := []) (rest := []) hg lk_RL_170 in_X11_thrown se_X11_thrown rfl dL_law_2123 ⟨by decide, by decide⟩ rfl rfl (hfK 4 24 (by decide) (by decide)) hc_176 (by omega) rfl rfl (Nat.le_of_ble_eq_true rfl) (c_X11_thrown G false 296 σ_187 (upd F 7 (nI (2))) hc_176 (by omega)) ?_
      refine A_top (w := .int (nI (2))) (congrArg Value.int rfl) ?_
      refine A_iload hg dL_law_2126 rfl ?_
      refine A_icmp_eqN (tgt := 2133) hg dL_law_2128 (by decide) (by decide) (by decide) (fun c2128 => ?_) (fun c2128 => False.elim (by omega))
      refine A_iload hg dL_law_2133 rfl ?_
      refine A_if_neN (tgt := 2150) hg dL_law_2135 (by decide) (by decide) (fun c2135 => ?_) (fun c2135 => absurd c2135 (by decide))
      refine A_goto (tgt := 3062) hg dL_law_2150 (by decide) ?_
      refine A_drop 6 ?_
      refine A_drop 7 ?_
      refine A_eq (ls2 := [some (.ref bS), some (.ref (q_h G + 0)), some (.ref (q_h G + 279)), some (.ref (q_h G + 294)), some (.ref (q_h G + 295)), some (.int (nI (i))), none, none, none]) (st2 := []) (pc2 := 0) rfl rfl ?_
      refine A_wide (kc2 := kc + 8) (ks2 := ks + 48) (by omega) (by omega) ?_
      exact hnxt _ (iv_mk il z2 z3 f lo o g nx m ps kp sn (upd F 7 (nI (2))) wk as sh a fb nv ns mk va sp lp mc z ss ou oL oD hc_210 hc_211 hc_212 hc_213 hc_214 hc_215 hc_176 hc_216 hc_217 hc_218 hc_219 hc_220 hc_221 hc_222 hc_223 hc_224 hc_225 hc_226 hc_227 hc_228 hc_229 hc_230 hc_231 (x_lj_e (fun i _ _ => (hf_177 i (by omega))) hL) (x_gm_e (fun i _ _ => (hf_177 i (by omega))) hG) (x_mx_e (fun i _ _ => (hf_177 i (by omega))) hM) (x_hi_e (fun i _ _ => (hf_177 i (by omega))) hHi) (x_oj_e (fun i _ _ => (hf_177 i (by omega))) hO) (x_pj_e (fun i _ _ => (hf_177 i (by omega))) hT) (iv_hn (fun i _ _ => (hf_177 i (by omega))) hH) (iv_Sn (fun i _ _ => (hf_177 i (by omega))) hSn) (iv_Kp (fun i _ _ => (hf_177 i (by omega))) hKp) (by omega) hfb (by omega) hou hgd hps hk1 hkss hss hsn hF5 hF6 hF12 hF16 hF21 hF22 hF23 hF33 (by omega) hmk hTI hlo)
    · skip
      refine (?_ : AJ G K Q (kc + 4) (ks + 24) false 296 2120 [some (.ref bS), some (.ref (q_h G + 0)), some (.ref (q_h G + 279)), some (.ref (q_h G + 294)), some (.ref (q_h G + 295)), some (.int (nI (i))), some (.int (nI (2))), none, none] [.int (nI (s_chc (s_rule g r1M) a1M b1M 1681))] σ_187)
      have hc_178 : σ_187 279 = o11 G (upd (upd (upd F 7 (nI (0))) 12 (nI (mcqM))) 16 (nI (zqM))) := hc_178
      have hc_232 : σ_187 0 = o10 G (nI (il)) (z2) (z3) := (hf_186 0 (by decide)).trans hv0
      have hc_233 : σ_187 1 = q_an G 600 f := (hf_186 1 (by decide)).trans hv1
      have hc_234 : σ_187 23 = o5 G (23) (nI (lo)) := (hf_186 23 (by decide)).trans hv2
      have hc_235 : σ_187 24 = q_an G 256 o := (hf_186 24 (by decide)).trans hv3
      have hc_236 : σ_187 224 = q_rn G 2 2 (fun j => some (243 + 18 * j)) := (hf_186 224 (by decide)).trans hv4
      have hc_237 : σ_187 225 = q_bn G 2 kp := (hf_186 225 (by decide)).trans hv5
      have hc_238 : σ_187 280 = q_an G 265 g := (hf_186 280 (by decide)).trans hv7
      have hc_239 : σ_187 281 = q_an G 265 wk := (hf_186 281 (by decide)).trans hv8
      have hc_240 : σ_187 282 = q_an G 265 as := (hf_186 282 (by decide)).trans hv9
      have hc_241 : σ_187 283 = q_an G 530 sh := (hf_186 283 (by decide)).trans hv10
      have hc_242 : σ_187 284 = q_an G 2120 a := (hf_186 284 (by decide)).trans hv11
      have hc_243 : σ_187 292 = q_an G 600 f := (hf_186 292 (by decide)).trans hv19
      have hc_244 : σ_187 293 = q_an G 300 ou := (hf_186 293 (by decide)).trans hv20
      have hc_245 : σ_187 294 = q_ln G 1 oL := (hf_186 294 (by decide)).trans hv21
      have hc_246 : σ_187 295 = q_dn G 1 oD := (hf_186 295 (by decide)).trans hv22
      have e_r : r1C = r1M := q_nI_inj (by omega) (by omega) (Chx0.symm.trans Mhre)
      subst e_r
      exact (Chx2 a1M b1M (by omega) (by omega) (by omega) Mhke Mhle).elim
set_option maxRecDepth 100000 in
set_option maxHeartbeats 4000000 in
theorem law_c31 (G : GL) (K : KC) (Q : State → Prop) (hh : List (Nat × Nat × Nat × Nat)) (hg : Gd G K RL code 9 ret room_1 hh) (bS L : Nat) (xs : Nat → Int32) (hX : q_scr G K bS L xs) (i kc ks J : Nat) (hi : i + 5 < L) (hL31 : L < 2 ^ 31) (hkc : kc + 8 ≤ 601024) (hks : ks + 48 ≤ 7293034) (σ : Nat → va_E) (hI : iv G σ J) (hJ : J < 512) (hfd : q_fdn) (hdd : q_ddn) (hf2 : q_f2n) (hds : q_dcs) (hnxt : ∀ σ9 : Nat → va_E, iv G σ9 (J + 1) → AJ G K Q (kc + 8) (ks + 48) false 296 3062 [some (.ref bS), some (.ref (q_h G + 0)), some (.ref (q_h G + 279)), some (.ref (q_h G + 294)), some (.ref (q_h G + 295)), some (.int (nI (i))), none, none, none] [] σ9) : AJ G K Q kc ks false 296 2153 [some (.ref bS), some (.ref (q_h G + 0)), some (.ref (q_h G + 279)), some (.ref (q_h G + 294)), some (.ref (q_h G + 295)), some (.int (nI (i))), none, none, none] [] σ := by
  refine iv_el hI ?_
  intro il z2 z3 f lo o g nx m ps kp sn F wk as sh a fb nv ns mk va sp lp mc z ss ou oL oD
  intro hv0 hv1 hv2 hv3 hv4 hv5 hv6 hv7 hv8 hv9 hv10 hv11 hv12 hv13 hv14 hv15 hv16 hv17 hv18 hv19 hv20 hv21 hv22
  intro hL hG hM hHi hO hT hH hSn hKp
  intro hil hfb hlo2 hou hgd hps hk1 hkss hss hsn hF5 hF6 hF12 hF16 hF21 hF22 hF23 hF33 hmc hmk hTI hlo
  have hfK : ∀ a b : Nat, a ≤ 8 → b ≤ 48 → kc + a ≤ room_1.cells ∧ ks + b ≤ room_1.slots := fun a b h1 h2 => ⟨by show kc + a ≤ 601024; omega, by show ks + b ≤ 7293034; omega⟩
  have hg9 := iv_g hG
  obtain ⟨hnx8, hm8, hc78⟩ := iv_hi hHi
  have hbb := iv_byte (m := il) hfb
  have hg90 := hg9.1
  have hg96 := hg9.2.2.2.2.1
  have hnp8 := s_np_le hg9
  refine A_aload_n hg dL_law_2153 rfl rfl ?_
  refine A_aload_n hg dL_law_2154 rfl rfl ?_
  refine A_iload hg dL_law_2155 rfl ?_
  refine A_iconst (v := (nI (1))) hg dL_law_2157 (by decide) ?_
  refine A_iaddN hg dL_law_2158 ?_
  refine A_sld hg hX (i + 1) (by omega) dL_law_2159 ?_
  refine A_aload_n hg dL_law_2160 rfl rfl ?_
  refine A_iload hg dL_law_2161 rfl ?_
  refine A_iconst (v := (nI (2))) hg dL_law_2163 (by decide) ?_
  refine A_iaddN hg dL_law_2164 ?_
  refine A_sld hg hX (i + 2) (by omega) dL_law_2165 ?_
  refine A_aload_n hg dL_law_2166 rfl rfl ?_
  refine A_callSH (As := [.ref (q_h G + 0), .int (xs (i + 1)), .int (xs (i + 2)), .ref (q_h G + 294)]) (rest := []) hg lkH_253 stH_L_losingWith dL_law_2167 ⟨by decide, by decide⟩ (hfK 2 12 (by decide) (by decide)) rfl rfl (Nat.le_of_ble_eq_true rfl) (c_L_losingWith G 296 σ (nI (il)) z2 z3 g (xs (i + 1)) (xs (i + 2)) oL hv0 hv21 (by omega) hG hO (by omega)) ?_
  rintro _ σ_1 (⟨r1C, x1C, rfl, Chre, Chrl, Chxe, Chxl, ChO2, hc_2, hf_3⟩ | ⟨rfl, Chxx, he_4⟩ | ⟨rfl, Chxx, he_5⟩)
  · skip
    refine (?_ : AJ G K Q (kc + 2) (ks + 12) false 296 2170 [some (.ref bS), some (.ref (q_h G + 0)), some (.ref (q_h G + 279)), some (.ref (q_h G + 294)), some (.ref (q_h G + 295)), some (.int (nI (i))), none, none, none] [.int (nI (0))] σ_1)
    have hc_6 : σ_1 0 = o10 G (nI (il)) (z2) (z3) := (hf_3 0 (by decide)).trans hv0
    have hc_7 : σ_1 1 = q_an G 600 f := (hf_3 1 (by decide)).trans hv1
    have hc_8 : σ_1 23 = o5 G (23) (nI (lo)) := (hf_3 23 (by decide)).trans hv2
    have hc_9 : σ_1 24 = q_an G 256 o := (hf_3 24 (by decide)).trans hv3
    have hc_10 : σ_1 224 = q_rn G 2 2 (fun j => some (243 + 18 * j)) := (hf_3 224 (by decide)).trans hv4
    have hc_11 : σ_1 225 = q_bn G 2 kp := (hf_3 225 (by decide)).trans hv5
    have hc_12 : σ_1 279 = o11 G F := (hf_3 279 (by decide)).trans hv6
    have hc_13 : σ_1 280 = q_an G 265 g := (hf_3 280 (by decide)).trans hv7
    have hc_14 : σ_1 281 = q_an G 265 wk := (hf_3 281 (by decide)).trans hv8
    have hc_15 : σ_1 282 = q_an G 265 as := (hf_3 282 (by decide)).trans hv9
    have hc_16 : σ_1 283 = q_an G 530 sh := (hf_3 283 (by decide)).trans hv10
    have hc_17 : σ_1 284 = q_an G 2120 a := (hf_3 284 (by decide)).trans hv11
    have hc_18 : σ_1 285 = q_bn G 1681 fb := (hf_3 285 (by decide)).trans hv12
    have hc_19 : σ_1 286 = q_an G 1681 nv := (hf_3 286 (by decide)).trans hv13
    have hc_20 : σ_1 287 = q_an G 1681 ns := (hf_3 287 (by decide)).trans hv14
    have hc_21 : σ_1 288 = q_an G 2000 mk := (hf_3 288 (by decide)).trans hv15
    have hc_22 : σ_1 289 = q_an G 6724 va := (hf_3 289 (by decide)).trans hv16
    have hc_23 : σ_1 290 = q_an G 6724 sp := (hf_3 290 (by decide)).trans hv17
    have hc_24 : σ_1 291 = q_an G 80 lp := (hf_3 291 (by decide)).trans hv18
    have hc_25 : σ_1 292 = q_an G 600 f := (hf_3 292 (by decide)).trans hv19
    have hc_26 : σ_1 293 = q_an G 300 ou := (hf_3 293 (by decide)).trans hv20
    have hc_27 : σ_1 295 = q_dn G 1 oD := (hf_3 295 (by decide)).trans hv22
    refine A_istore hg dL_law_2170 (by decide) (q_c1d rfl) ?_
    refine A_eq (ls2 := [some (.ref bS), some (.ref (q_h G + 0)), some (.ref (q_h G + 279)), some (.ref (q_h G + 294)), some (.ref (q_h G + 295)), some (.int (nI (i))), some (.int (nI (0))), none, none]) (st2 := []) (pc2 := 0) rfl rfl ?_
    refine A_aload_n hg dL_law_2172 rfl rfl ?_
    refine A_aload_n hg dL_law_2173 rfl rfl ?_
    refine A_iload hg dL_law_2174 rfl ?_
    refine A_iconst (v := (nI (1))) hg dL_law_2176 (by decide) ?_
    refine A_iaddN hg dL_law_2177 ?_
    refine A_sld hg hX (i + 1) (by omega) dL_law_2178 ?_
    refine A_aload_n hg dL_law_2179 rfl rfl ?_
    refine A_iload hg dL_law_2180 rfl ?_
    refine A_iconst (v := (nI (2))) hg dL_law_2182 (by decide) ?_
    refine A_iaddN hg dL_law_2183 ?_
    refine A_sld hg hX (i + 2) (by omega) dL_law_2184 ?_
    refine A_hV (kc2 := kc + 2) (ks2 := ks + 12) (As := [.int (xs (i + 1)), .int (xs (i + 2))]) (rest := []) hg lk_RL_255 in_X11_losingWith se_X11_losingWith rfl dL_law_2185 ⟨by decide, by decide⟩ rfl rfl (hfK 2 12 (by decide) (by decide)) hc_12 (by omega) rfl rfl (Nat.le_of_ble_eq_true rfl) (c_X11_losingWith G false 296 σ_1 F g fb nv ns mk va sp lp mc z (xs (i + 1)) (xs (i + 2)) hc_12 hc_13 hc_18 hc_19 hc_20 hc_21 hc_22 hc_23 hc_24 (by omega) hg9 (by omega) hF12 hF16 hmk hTI hlo) ?_
    rintro _ σ_42 (⟨rfl, Mhno, hc_28, hf_29⟩ | ⟨r1M, rfl, Mhre, Mhrl, Mhnw, hc_30, hf_31⟩ | ⟨r1M, x1M, fqM, nvqM, nsqM, mkqM, vaqM, spqM, loqM, mcqM, zqM, rfl, Mhre, Mhrl, Mhxe, Mhxl, MhTI, Mhmc, Mhmk, Mhlo, hc_32, hc_33, hc_34, hc_35, hc_36, hc_37, hc_38, hc_39, hc_40, hf_41⟩)
    · skip
      refine (?_ : AJ G K Q (kc + 2) (ks + 12) false 296 2188 [some (.ref bS), some (.ref (q_h G + 0)), some (.ref (q_h G + 279)), some (.ref (q_h G + 294)), some (.ref (q_h G + 295)), some (.int (nI (i))), some (.int (nI (0))), none, none] [.int (nI (0))] σ_42)
      have hc_28 : σ_42 279 = o11 G (upd F 7 (nI (1))) := hc_28
      have hc_43 : σ_42 0 = o10 G (nI (il)) (z2) (z3) := (hf_29 0 (by decide)).trans hc_6
      have hc_44 : σ_42 1 = q_an G 600 f := (hf_29 1 (by decide)).trans hc_7
      have hc_45 : σ_42 23 = o5 G (23) (nI (lo)) := (hf_29 23 (by decide)).trans hc_8
      have hc_46 : σ_42 24 = q_an G 256 o := (hf_29 24 (by decide)).trans hc_9
      have hc_47 : σ_42 224 = q_rn G 2 2 (fun j => some (243 + 18 * j)) := (hf_29 224 (by decide)).trans hc_10
      have hc_48 : σ_42 225 = q_bn G 2 kp := (hf_29 225 (by decide)).trans hc_11
      have hc_49 : σ_42 280 = q_an G 265 g := (hf_29 280 (by decide)).trans hc_13
      have hc_50 : σ_42 281 = q_an G 265 wk := (hf_29 281 (by decide)).trans hc_14
      have hc_51 : σ_42 282 = q_an G 265 as := (hf_29 282 (by decide)).trans hc_15
      have hc_52 : σ_42 283 = q_an G 530 sh := (hf_29 283 (by decide)).trans hc_16
      have hc_53 : σ_42 284 = q_an G 2120 a := (hf_29 284 (by decide)).trans hc_17
      have hc_54 : σ_42 285 = q_bn G 1681 fb := (hf_29 285 (by decide)).trans hc_18
      have hc_55 : σ_42 286 = q_an G 1681 nv := (hf_29 286 (by decide)).trans hc_19
      have hc_56 : σ_42 287 = q_an G 1681 ns := (hf_29 287 (by decide)).trans hc_20
      have hc_57 : σ_42 288 = q_an G 2000 mk := (hf_29 288 (by decide)).trans hc_21
      have hc_58 : σ_42 289 = q_an G 6724 va := (hf_29 289 (by decide)).trans hc_22
      have hc_59 : σ_42 290 = q_an G 6724 sp := (hf_29 290 (by decide)).trans hc_23
      have hc_60 : σ_42 291 = q_an G 80 lp := (hf_29 291 (by decide)).trans hc_24
      have hc_61 : σ_42 292 = q_an G 600 f := (hf_29 292 (by decide)).trans hc_25
      have hc_62 : σ_42 293 = q_an G 300 ou := (hf_29 293 (by decide)).trans hc_26
      have hc_63 : σ_42 295 = q_dn G 1 oD := (hf_29 295 (by decide)).trans hc_27
      have hc_64 : σ_42 294 = q_ln G 1 (va_up oL 0 ((nI (s_cnt (fun p => s_V (s_rule (s_rset g r1C 18 x1C) r1C) p == 0) 1681)).toInt64)) := (hf_29 294 (by decide)).trans hc_2
      exact (Mhno r1C (by omega) Chre).elim
    · skip
      refine (?_ : AJ G K Q (kc + 2) (ks + 12) false 296 2188 [some (.ref bS), some (.ref (q_h G + 0)), some (.ref (q_h G + 279)), some (.ref (q_h G + 294)), some (.ref (q_h G + 295)), some (.int (nI (i))), some (.int (nI (0))), none, none] [.int (nI (0))] σ_42)
      have hc_30 : σ_42 279 = o11 G (upd F 7 (nI (2))) := hc_30
      have hc_65 : σ_42 0 = o10 G (nI (il)) (z2) (z3) := (hf_31 0 (by decide)).trans hc_6
      have hc_66 : σ_42 1 = q_an G 600 f := (hf_31 1 (by decide)).trans hc_7
      have hc_67 : σ_42 23 = o5 G (23) (nI (lo)) := (hf_31 23 (by decide)).trans hc_8
      have hc_68 : σ_42 24 = q_an G 256 o := (hf_31 24 (by decide)).trans hc_9
      have hc_69 : σ_42 224 = q_rn G 2 2 (fun j => some (243 + 18 * j)) := (hf_31 224 (by decide)).trans hc_10
      have hc_70 : σ_42 225 = q_bn G 2 kp := (hf_31 225 (by decide)).trans hc_11
      have hc_71 : σ_42 280 = q_an G 265 g := (hf_31 280 (by decide)).trans hc_13
      have hc_72 : σ_42 281 = q_an G 265 wk := (hf_31 281 (by decide)).trans hc_14
      have hc_73 : σ_42 282 = q_an G 265 as := (hf_31 282 (by decide)).trans hc_15
      have hc_74 : σ_42 283 = q_an G 530 sh := (hf_31 283 (by decide)).trans hc_16
      have hc_75 : σ_42 284 = q_an G 2120 a := (hf_31 284 (by decide)).trans hc_17
      have hc_76 : σ_42 285 = q_bn G 1681 fb := (hf_31 285 (by decide)).trans hc_18
      have hc_77 : σ_42 286 = q_an G 1681 nv := (hf_31 286 (by decide)).trans hc_19
      have hc_78 : σ_42 287 = q_an G 1681 ns := (hf_31 287 (by decide)).trans hc_20
      have hc_79 : σ_42 288 = q_an G 2000 mk := (hf_31 288 (by decide)).trans hc_21
      have hc_80 : σ_42 289 = q_an G 6724 va := (hf_31 289 (by decide)).trans hc_22
      have hc_81 : σ_42 290 = q_an G 6724 sp := (hf_31 290 (by decide)).trans hc_23
      have hc_82 : σ_42 291 = q_an G 80 lp := (hf_31 291 (by decide)).trans hc_24
      have hc_83 : σ_42 292 = q_an G 600 f := (hf_31 292 (by decide)).trans hc_25
      have hc_84 : σ_42 293 = q_an G 300 ou := (hf_31 293 (by decide)).trans hc_26
      have hc_85 : σ_42 295 = q_dn G 1 oD := (hf_31 295 (by decide)).trans hc_27
      have hc_86 : σ_42 294 = q_ln G 1 (va_up oL 0 ((nI (s_cnt (fun p => s_V (s_rule (s_rset g r1C 18 x1C) r1C) p == 0) 1681)).toInt64)) := (hf_31 294 (by decide)).trans hc_2
      have e_r : r1C = r1M := q_nI_inj (by omega) (by omega) (Chre.symm.trans Mhre)
      subst e_r
      exact (Mhnw x1C (by omega) (by omega) Chxe).elim
    · skip
      refine (?_ : AJ G K Q (kc + 2) (ks + 12) false 296 2188 [some (.ref bS), some (.ref (q_h G + 0)), some (.ref (q_h G + 279)), some (.ref (q_h G + 294)), some (.ref (q_h G + 295)), some (.int (nI (i))), some (.int (nI (0))), none, none] [.int (nI (s_cnt (fun p => s_V (s_rule (s_rset g r1M 18 x1M) r1M) p == 0) 1681))] σ_42)
      have hc_32 : σ_42 279 = o11 G (upd (upd (upd F 7 (nI (0))) 12 (nI (mcqM))) 16 (nI (zqM))) := hc_32
      have hc_87 : σ_42 0 = o10 G (nI (il)) (z2) (z3) := (hf_41 0 (by decide)).trans hc_6
      have hc_88 : σ_42 1 = q_an G 600 f := (hf_41 1 (by decide)).trans hc_7
      have hc_89 : σ_42 23 = o5 G (23) (nI (lo)) := (hf_41 23 (by decide)).trans hc_8
      have hc_90 : σ_42 24 = q_an G 256 o := (hf_41 24 (by decide)).trans hc_9
      have hc_91 : σ_42 224 = q_rn G 2 2 (fun j => some (243 + 18 * j)) := (hf_41 224 (by decide)).trans hc_10
      have hc_92 : σ_42 225 = q_bn G 2 kp := (hf_41 225 (by decide)).trans hc_11
      have hc_93 : σ_42 281 = q_an G 265 wk := (hf_41 281 (by decide)).trans hc_14
      have hc_94 : σ_42 282 = q_an G 265 as := (hf_41 282 (by decide)).trans hc_15
      have hc_95 : σ_42 283 = q_an G 530 sh := (hf_41 283 (by decide)).trans hc_16
      have hc_96 : σ_42 284 = q_an G 2120 a := (hf_41 284 (by decide)).trans hc_17
      have hc_97 : σ_42 292 = q_an G 600 f := (hf_41 292 (by decide)).trans hc_25
      have hc_98 : σ_42 293 = q_an G 300 ou := (hf_41 293 (by decide)).trans hc_26
      have hc_99 : σ_42 295 = q_dn G 1 oD := (hf_41 295 (by decide)).trans hc_27
      have hc_100 : σ_42 294 = q_ln G 1 (va_up oL 0 ((nI (s_cnt (fun p => s_V (s_rule (s_rset g r1C 18 x1C) r1C) p == 0) 1681)).toInt64)) := (hf_41 294 (by decide)).trans hc_2
      have e_r : r1C = r1M := q_nI_inj (by omega) (by omega) (Chre.symm.trans Mhre)
      subst e_r
      have e_x : x1C = x1M := q_nI_inj (by omega) (by omega) (Chxe.symm.trans Mhxe)
      subst e_x
      refine A_istore hg dL_law_2188 (by decide) (q_c1d rfl) ?_
      refine A_eq (ls2 := [some (.ref bS), some (.ref (q_h G + 0)), some (.ref (q_h G + 279)), some (.ref (q_h G + 294)), some (.ref (q_h G + 295)), some (.int (nI (i))), some (.int (nI (0))), some (.int (nI (s_cnt (fun p => s_V (s_rule (s_rset g r1C 18 x1C) r1C) p == 0) 1681))), none]) (st2 := []) (pc2 := 0) rfl rfl ?_
      refine A_aload_n hg dL_law_2190 rfl rfl ?_
      refine A_eV (kc2 := kc + 2) (ks2 := ks + 12) (As := []) (rest := []) hg lk_RL_170 in_X11_thrown se_X11_thrown rfl dL_law_2191 ⟨by decide, by decide⟩ rfl rfl (hfK 2 12 (by decide) (by decide)) hc_32 (by omega) rfl rfl (Nat.le_of_ble_eq_true rfl) (c_X11_thrown G false 296 σ_42 (upd (upd (upd F 7 (nI (0))) 12 (nI (mcqM))) 16 (nI (zqM))) hc_32 (by omega)) ?_
      refine A_top (w := .int (nI (0))) (congrArg Value.int rfl) ?_
      refine A_iload hg dL_law_2194 rfl ?_
      refine A_icmp_eqN (tgt := 2201) hg dL_law_2196 (by decide) (by decide) (by decide) (fun c2196 => ?_) (fun c2196 => False.elim (by omega))
      refine A_iload hg dL_law_2201 rfl ?_
      refine A_if_neN (tgt := 2218) hg dL_law_2203 (by decide) (by decide) (fun c2203 => absurd (by decide) c2203) (fun c2203 => ?_)
      refine A_aload_n hg dL_law_2206 rfl rfl ?_
      refine A_iconst (v := (nI (0))) hg dL_law_2207 (by decide) ?_
      refine A_lald (j := 0) hg dL_law_2208 hc_100 (by omega) (by decide) (by decide) ?_
      refine A_top (w := .long ((nI (s_cnt (fun p => s_V (s_rule (s_rset g r1C 18 x1C) r1C) p == 0) 1681)).toInt64)) (congrArg Value.long iv_up0) ?_
      refine A_iload hg dL_law_2209 rfl ?_
      refine A_i2l (v := (nI (s_cnt (fun p => s_V (s_rule (s_rset g r1C 18 x1C) r1C) p == 0) 1681)).toInt64) hg dL_law_2211 rfl ?_
      refine A_lcmp hg dL_law_2212 ?_
      refine A_top (w := .int (nI 0)) (congrArg Value.int (lc_self _)) ?_
      refine A_if_eqN (tgt := 2218) hg dL_law_2213 (by decide) (by decide) (fun c2213 => ?_) (fun c2213 => absurd (by decide) c2213)
      refine A_goto (tgt := 3062) hg dL_law_2218 (by decide) ?_
      refine A_drop 6 ?_
      refine A_drop 7 ?_
      refine A_eq (ls2 := [some (.ref bS), some (.ref (q_h G + 0)), some (.ref (q_h G + 279)), some (.ref (q_h G + 294)), some (.ref (q_h G + 295)), some (.int (nI (i))), none, none, none]) (st2 := []) (pc2 := 0) rfl rfl ?_
      refine A_wide (kc2 := kc + 8) (ks2 := ks + 48) (by omega) (by omega) ?_
      exact hnxt _ (iv_mk il z2 z3 f lo o g nx m ps kp sn (upd (upd (upd F 7 (nI (0))) 12 (nI (mcqM))) 16 (nI (zqM))) wk as sh a fqM nvqM nsqM mkqM vaqM spqM loqM mcqM zqM ss ou (va_up oL 0 ((nI (s_cnt (fun p => s_V (s_rule (s_rset g r1C 18 x1C) r1C) p == 0) 1681)).toInt64)) oD hc_87 hc_88 hc_89 hc_90 hc_91 hc_92 hc_32 hc_40 hc_93 hc_94 hc_95 hc_96 hc_33 hc_34 hc_35 hc_36 hc_37 hc_38 hc_39 hc_97 hc_98 hc_100 hc_99 (x_lj_e (fun i _ _ => ((hf_41 i (by omega)).trans (hf_3 i (by omega)))) hL) (x_gm_e (fun i _ _ => ((hf_41 i (by omega)).trans (hf_3 i (by omega)))) hG) (x_mx_e (fun i _ _ => ((hf_41 i (by omega)).trans (hf_3 i (by omega)))) hM) (x_hi_e (fun i _ _ => ((hf_41 i (by omega)).trans (hf_3 i (by omega)))) hHi) (x_oj_e (fun i _ _ => (hf_41 i (by omega))) ChO2) (x_pj_e (fun i _ _ => ((hf_41 i (by omega)).trans (hf_3 i (by omega)))) hT) (iv_hn (fun i _ _ => ((hf_41 i (by omega)).trans (hf_3 i (by omega)))) hH) (iv_Sn (fun i _ _ => ((hf_41 i (by omega)).trans (hf_3 i (by omega)))) hSn) (iv_Kp (fun i _ _ => ((hf_41 i (by omega)).trans (hf_3 i (by omega)))) hKp) (by omega) hfb (by omega) hou hgd hps hk1 hkss hss hsn hF5 hF6 rfl rfl hF21 hF22 hF23 hF33 (by omega) Mhmk MhTI Mhlo)
  · skip
    rw [he_4]
    refine (?_ : AJ G K Q (kc + 2) (ks + 12) false 296 2170 [some (.ref bS), some (.ref (q_h G + 0)), some (.ref (q_h G + 279)), some (.ref (q_h G + 294)), some (.ref (q_h G + 295)), some (.int (nI (i))), none, none, none] [.int (nI (1))] σ)
    refine A_istore hg dL_law_2170 (by decide) (q_c1d rfl) ?_
    refine A_eq (ls2 := [some (.ref bS), some (.ref (q_h G + 0)), some (.ref (q_h G + 279)), some (.ref (q_h G + 294)), some (.ref (q_h G + 295)), some (.int (nI (i))), some (.int (nI (1))), none, none]) (st2 := []) (pc2 := 0) rfl rfl ?_
    refine A_aload_n hg dL_law_2172 rfl rfl ?_
    refine A_aload_n hg dL_law_2173 rfl rfl ?_
    refine A_iload hg dL_law_2174 rfl ?_
    refine A_iconst (v := (nI (1))) hg dL_law_2176 (by decide) ?_
    refine A_iaddN hg dL_law_2177 ?_
    refine A_sld hg hX (i + 1) (by omega) dL_law_2178 ?_
    refine A_aload_n hg dL_law_2179 rfl rfl ?_
    refine A_iload hg dL_law_2180 rfl ?_
    refine A_iconst (v := (nI (2))) hg dL_law_2182 (by decide) ?_
    refine A_iaddN hg dL_law_2183 ?_
    refine A_sld hg hX (i + 2) (by omega) dL_law_2184 ?_
    refine A_hV (kc2 := kc + 2) (ks2 := ks + 12) (As := [.int (xs (i + 1)), .int (xs (i + 2))]) (rest := []) hg lk_RL_255 in_X11_losingWith se_X11_losingWith rfl dL_law_2185 ⟨by decide, by decide⟩ rfl rfl (hfK 2 12 (by decide) (by decide)) hv6 (by omega) rfl rfl (Nat.le_of_ble_eq_true rfl) (c_X11_losingWith G false 296 σ F g fb nv ns mk va sp lp mc z (xs (i + 1)) (xs (i + 2)) hv6 hv7 hv12 hv13 hv14 hv15 hv16 hv17 hv18 (by omega) hg9 (by omega) hF12 hF16 hmk hTI hlo) ?_
    rintro _ σ_115 (⟨rfl, Mhno, hc_101, hf_102⟩ | ⟨r1M, rfl, Mhre, Mhrl, Mhnw, hc_103, hf_104⟩ | ⟨r1M, x1M, fqM, nvqM, nsqM, mkqM, vaqM, spqM, loqM, mcqM, zqM, rfl, Mhre, Mhrl, Mhxe, Mhxl, MhTI, Mhmc, Mhmk, Mhlo, hc_105, hc_106, hc_107, hc_108, hc_109, hc_110, hc_111, hc_112, hc_113, hf_114⟩)
    · skip
      refine (?_ : AJ G K Q (kc + 2) (ks + 12) false 296 2188 [some (.ref bS), some (.ref (q_h G + 0)), some (.ref (q_h G + 279)), some (.ref (q_h G + 294)), some (.ref (q_h G + 295)), some (.int (nI (i))), some (.int (nI (1))), none, none] [.int (nI (0))] σ_115)
      have hc_101 : σ_115 279 = o11 G (upd F 7 (nI (1))) := hc_101
      have hc_116 : σ_115 0 = o10 G (nI (il)) (z2) (z3) := (hf_102 0 (by decide)).trans hv0
      have hc_117 : σ_115 1 = q_an G 600 f := (hf_102 1 (by decide)).trans hv1
      have hc_118 : σ_115 23 = o5 G (23) (nI (lo)) := (hf_102 23 (by decide)).trans hv2
      have hc_119 : σ_115 24 = q_an G 256 o := (hf_102 24 (by decide)).trans hv3
      have hc_120 : σ_115 224 = q_rn G 2 2 (fun j => some (243 + 18 * j)) := (hf_102 224 (by decide)).trans hv4
      have hc_121 : σ_115 225 = q_bn G 2 kp := (hf_102 225 (by decide)).trans hv5
      have hc_122 : σ_115 280 = q_an G 265 g := (hf_102 280 (by decide)).trans hv7
      have hc_123 : σ_115 281 = q_an G 265 wk := (hf_102 281 (by decide)).trans hv8
      have hc_124 : σ_115 282 = q_an G 265 as := (hf_102 282 (by decide)).trans hv9
      have hc_125 : σ_115 283 = q_an G 530 sh := (hf_102 283 (by decide)).trans hv10
      have hc_126 : σ_115 284 = q_an G 2120 a := (hf_102 284 (by decide)).trans hv11
      have hc_127 : σ_115 285 = q_bn G 1681 fb := (hf_102 285 (by decide)).trans hv12
      have hc_128 : σ_115 286 = q_an G 1681 nv := (hf_102 286 (by decide)).trans hv13
      have hc_129 : σ_115 287 = q_an G 1681 ns := (hf_102 287 (by decide)).trans hv14
      have hc_130 : σ_115 288 = q_an G 2000 mk := (hf_102 288 (by decide)).trans hv15
      have hc_131 : σ_115 289 = q_an G 6724 va := (hf_102 289 (by decide)).trans hv16
      have hc_132 : σ_115 290 = q_an G 6724 sp := (hf_102 290 (by decide)).trans hv17
      have hc_133 : σ_115 291 = q_an G 80 lp := (hf_102 291 (by decide)).trans hv18
      have hc_134 : σ_115 292 = q_an G 600 f := (hf_102 292 (by decide)).trans hv19
      have hc_135 : σ_115 293 = q_an G 300 ou := (hf_102 293 (by decide)).trans hv20
      have hc_136 : σ_115 294 = q_ln G 1 oL := (hf_102 294 (by decide)).trans hv21
      have hc_137 : σ_115 295 = q_dn G 1 oD := (hf_102 295 (by decide)).trans hv22
      refine A_istore hg dL_law_2188 (by decide) (q_c1d rfl) ?_
      refine A_eq (ls2 := [some (.ref bS), some (.ref (q_h G + 0)), some (.ref (q_h G + 279)), some (.ref (q_h G + 294)), some (.ref (q_h G + 295)), some (.int (nI (i))), some (.int (nI (1))), some (.int (nI (0))), none]) (st2 := []) (pc2 := 0) rfl rfl ?_
      refine A_aload_n hg dL_law_2190 rfl rfl ?_
      refine A_eV (kc2 := kc + 2) (ks2 := ks + 12) (As := []) (rest := []) hg lk_RL_170 in_X11_thrown se_X11_thrown rfl dL_law_2191 ⟨by decide, by decide⟩ rfl rfl (hfK 2 12 (by decide) (by decide)) hc_101 (by omega) rfl rfl (Nat.le_of_ble_eq_true rfl) (c_X11_thrown G false 296 σ_115 (upd F 7 (nI (1))) hc_101 (by omega)) ?_
      refine A_top (w := .int (nI (1))) (congrArg Value.int rfl) ?_
      refine A_iload hg dL_law_2194 rfl ?_
      refine A_icmp_eqN (tgt := 2201) hg dL_law_2196 (by decide) (by decide) (by decide) (fun c2196 => ?_) (fun c2196 => False.elim (by omega))
      refine A_iload hg dL_law_2201 rfl ?_
      refine A_if_neN (tgt := 2218) hg dL_law_2203 (by decide) (by decide) (fun c2203 => ?_) (fun c2203 => absurd c2203 (by decide))
      refine A_goto (tgt := 3062) hg dL_law_2218 (by decide) ?_
      refine A_drop 6 ?_
      refine A_drop 7 ?_
      refine A_eq (ls2 := [some (.ref bS), some (.ref (q_h G + 0)), some (.ref (q_h G + 279)), some (.ref (q_h G + 294)), some (.ref (q_h G + 295)), some (.int (nI (i))), none, none, none]) (st2 := []) (pc2 := 0) rfl rfl ?_
      refine A_wide (kc2 := kc + 8) (ks2 := ks + 48) (by omega) (by omega) ?_
      exact hnxt _ (iv_mk il z2 z3 f lo o g nx m ps kp sn (upd F 7 (nI (1))) wk as sh a fb nv ns mk va sp lp mc z ss ou oL oD hc_116 hc_117 hc_118 hc_119 hc_120 hc_121 hc_101 hc_122 hc_123 hc_124 hc_125 hc_126 hc_127 hc_128 hc_129 hc_130 hc_131 hc_132 hc_133 hc_134 hc_135 hc_136 hc_137 (x_lj_e (fun i _ _ => (hf_102 i (by omega))) hL) (x_gm_e (fun i _ _ => (hf_102 i (by omega))) hG) (x_mx_e (fun i _ _ => (hf_102 i (by omega))) hM) (x_hi_e (fun i _ _ => (hf_102 i (by omega))) hHi) (x_oj_e (fun i _ _ => (hf_102 i (by omega))) hO) (x_pj_e (fun i _ _ => (hf_102 i (by omega))) hT) (iv_hn (fun i _ _ => (hf_102 i (by omega))) hH) (iv_Sn (fun i _ _ => (hf_102 i (by omega))) hSn) (iv_Kp (fun i _ _ => (hf_102 i (by omega))) hKp) (by omega) hfb (by omega) hou hgd hps hk1 hkss hss hsn hF5 hF6 hF12 hF16 hF21 hF22 hF23 hF33 (by omega) hmk hTI hlo)
    · skip
      refine (?_ : AJ G K Q (kc + 2) (ks + 12) false 296 2188 [some (.ref bS), some (.ref (q_h G + 0)), some (.ref (q_h G + 279)), some (.ref (q_h G + 294)), some (.ref (q_h G + 295)), some (.int (nI (i))), some (.int (nI (1))), none, none] [.int (nI (0))] σ_115)
      have hc_103 : σ_115 279 = o11 G (upd F 7 (nI (2))) := hc_103
      have hc_138 : σ_115 0 = o10 G (nI (il)) (z2) (z3) := (hf_104 0 (by decide)).trans hv0
      have hc_139 : σ_115 1 = q_an G 600 f := (hf_104 1 (by decide)).trans hv1
      have hc_140 : σ_115 23 = o5 G (23) (nI (lo)) := (hf_104 23 (by decide)).trans hv2
      have hc_141 : σ_115 24 = q_an G 256 o := (hf_104 24 (by decide)).trans hv3
      have hc_142 : σ_115 224 = q_rn G 2 2 (fun j => some (243 + 18 * j)) := (hf_104 224 (by decide)).trans hv4
      have hc_143 : σ_115 225 = q_bn G 2 kp := (hf_104 225 (by decide)).trans hv5
      have hc_144 : σ_115 280 = q_an G 265 g := (hf_104 280 (by decide)).trans hv7
      have hc_145 : σ_115 281 = q_an G 265 wk := (hf_104 281 (by decide)).trans hv8
      have hc_146 : σ_115 282 = q_an G 265 as := (hf_104 282 (by decide)).trans hv9
      have hc_147 : σ_115 283 = q_an G 530 sh := (hf_104 283 (by decide)).trans hv10
      have hc_148 : σ_115 284 = q_an G 2120 a := (hf_104 284 (by decide)).trans hv11
      have hc_149 : σ_115 285 = q_bn G 1681 fb := (hf_104 285 (by decide)).trans hv12
      have hc_150 : σ_115 286 = q_an G 1681 nv := (hf_104 286 (by decide)).trans hv13
      have hc_151 : σ_115 287 = q_an G 1681 ns := (hf_104 287 (by decide)).trans hv14
      have hc_152 : σ_115 288 = q_an G 2000 mk := (hf_104 288 (by decide)).trans hv15
      have hc_153 : σ_115 289 = q_an G 6724 va := (hf_104 289 (by decide)).trans hv16
      have hc_154 : σ_115 290 = q_an G 6724 sp := (hf_104 290 (by decide)).trans hv17
      have hc_155 : σ_115 291 = q_an G 80 lp := (hf_104 291 (by decide)).trans hv18
      have hc_156 : σ_115 292 = q_an G 600 f := (hf_104 292 (by decide)).trans hv19
      have hc_157 : σ_115 293 = q_an G 300 ou := (hf_104 293 (by decide)).trans hv20
      have hc_158 : σ_115 294 = q_ln G 1 oL := (hf_104 294 (by decide)).trans hv21
      have hc_159 : σ_115 295 = q_dn G 1 oD := (hf_104 295 (by decide)).trans hv22
      exact (Chxx r1M (by omega) Mhre).elim
    · skip
      refine (?_ : AJ G K Q (kc + 2) (ks + 12) false 296 2188 [some (.ref bS), some (.ref (q_h G + 0)), some (.ref (q_h G + 279)), some (.ref (q_h G + 294)), some (.ref (q_h G + 295)), some (.int (nI (i))), some (.int (nI (1))), none, none] [.int (nI (s_cnt (fun p => s_V (s_rule (s_rset g r1M 18 x1M) r1M) p == 0) 1681))] σ_115)
      have hc_105 : σ_115 279 = o11 G (upd (upd (upd F 7 (nI (0))) 12 (nI (mcqM))) 16 (nI (zqM))) := hc_105
      have hc_160 : σ_115 0 = o10 G (nI (il)) (z2) (z3) := (hf_114 0 (by decide)).trans hv0
      have hc_161 : σ_115 1 = q_an G 600 f := (hf_114 1 (by decide)).trans hv1
      have hc_162 : σ_115 23 = o5 G (23) (nI (lo)) := (hf_114 23 (by decide)).trans hv2
      have hc_163 : σ_115 24 = q_an G 256 o := (hf_114 24 (by decide)).trans hv3
      have hc_164 : σ_115 224 = q_rn G 2 2 (fun j => some (243 + 18 * j)) := (hf_114 224 (by decide)).trans hv4
      have hc_165 : σ_115 225 = q_bn G 2 kp := (hf_114 225 (by decide)).trans hv5
      have hc_166 : σ_115 281 = q_an G 265 wk := (hf_114 281 (by decide)).trans hv8
      have hc_167 : σ_115 282 = q_an G 265 as := (hf_114 282 (by decide)).trans hv9
      have hc_168 : σ_115 283 = q_an G 530 sh := (hf_114 283 (by decide)).trans hv10
      have hc_169 : σ_115 284 = q_an G 2120 a := (hf_114 284 (by decide)).trans hv11
      have hc_170 : σ_115 292 = q_an G 600 f := (hf_114 292 (by decide)).trans hv19
      have hc_171 : σ_115 293 = q_an G 300 ou := (hf_114 293 (by decide)).trans hv20
      have hc_172 : σ_115 294 = q_ln G 1 oL := (hf_114 294 (by decide)).trans hv21
      have hc_173 : σ_115 295 = q_dn G 1 oD := (hf_114 295 (by decide)).trans hv22
      exact (Chxx r1M (by omega) Mhre).elim
  · skip
    rw [he_5]
    refine (?_ : AJ G K Q (kc + 2) (ks + 12) false 296 2170 [some (.ref bS), some (.ref (q_h G + 0)), some (.ref (q_h G + 279)), some (.ref (q_h G + 294)), some (.ref (q_h G + 295)), some (.int (nI (i))), none, none, none] [.int (nI (2))] σ)
    obtain ⟨r1C, Chx0, Chx1, Chx2⟩ := Chxx
    refine A_istore hg dL_law_2170 (by decide) (q_c1d rfl) ?_
    refine A_eq (ls2 := [some (.ref bS), some (.ref (q_h G + 0)), some (.ref (q_h G + 279)), some (.ref (q_h G + 294)), some (.ref (q_h G + 295)), some (.int (nI (i))), some (.int (nI (2))), none, none]) (st2 := []) (pc2 := 0) rfl rfl ?_
    refine A_aload_n hg dL_law_2172 rfl rfl ?_
    refine A_aload_n hg dL_law_2173 rfl rfl ?_
    refine A_iload hg dL_law_2174 rfl ?_
    refine A_iconst (v := (nI (1))) hg dL_law_2176 (by decide) ?_
    refine A_iaddN hg dL_law_2177 ?_
    refine A_sld hg hX (i + 1) (by omega) dL_law_2178 ?_
    refine A_aload_n hg dL_law_2179 rfl rfl ?_
    refine A_iload hg dL_law_2180 rfl ?_
    refine A_iconst (v := (nI (2))) hg dL_law_2182 (by decide) ?_
    refine A_iaddN hg dL_law_2183 ?_
    refine A_sld hg hX (i + 2) (by omega) dL_law_2184 ?_
    refine A_hV (kc2 := kc + 2) (ks2 := ks + 12) (As := [.int (xs (i + 1)), .int (xs (i + 2))]) (rest := []) hg lk_RL_255 in_X11_losingWith se_X11_losingWith rfl dL_law_2185 ⟨by decide, by decide⟩ rfl rfl (hfK 2 12 (by decide) (by decide)) hv6 (by omega) rfl rfl (Nat.le_of_ble_eq_true rfl) (c_X11_losingWith G false 296 σ F g fb nv ns mk va sp lp mc z (xs (i + 1)) (xs (i + 2)) hv6 hv7 hv12 hv13 hv14 hv15 hv16 hv17 hv18 (by omega) hg9 (by omega) hF12 hF16 hmk hTI hlo) ?_
    rintro _ σ_188 (⟨rfl, Mhno, hc_174, hf_175⟩ | ⟨r1M, rfl, Mhre, Mhrl, Mhnw, hc_176, hf_177⟩ | ⟨r1M, x1M, fqM, nvqM, nsqM, mkqM, vaqM, spqM, loqM, mcqM, zqM, rfl, Mhre, Mhrl, Mhxe, Mhxl, MhTI, Mhmc, Mhmk, Mhlo, hc_178, hc_179, hc_180, hc_181, hc_182, hc_183, hc_184, hc_185, hc_186, hf_187⟩)
    · skip
      refine (?_ : AJ G K Q (kc + 2) (ks + 12) false 296 2188 [some (.ref bS), some (.ref (q_h G + 0)), some (.ref (q_h G + 279)), some (.ref (q_h G + 294)), some (.ref (q_h G + 295)), some (.int (nI (i))), some (.int (nI (2))), none, none] [.int (nI (0))] σ_188)
      have hc_174 : σ_188 279 = o11 G (upd F 7 (nI (1))) := hc_174
      have hc_189 : σ_188 0 = o10 G (nI (il)) (z2) (z3) := (hf_175 0 (by decide)).trans hv0
      have hc_190 : σ_188 1 = q_an G 600 f := (hf_175 1 (by decide)).trans hv1
      have hc_191 : σ_188 23 = o5 G (23) (nI (lo)) := (hf_175 23 (by decide)).trans hv2
      have hc_192 : σ_188 24 = q_an G 256 o := (hf_175 24 (by decide)).trans hv3
      have hc_193 : σ_188 224 = q_rn G 2 2 (fun j => some (243 + 18 * j)) := (hf_175 224 (by decide)).trans hv4
      have hc_194 : σ_188 225 = q_bn G 2 kp := (hf_175 225 (by decide)).trans hv5
      have hc_195 : σ_188 280 = q_an G 265 g := (hf_175 280 (by decide)).trans hv7
      have hc_196 : σ_188 281 = q_an G 265 wk := (hf_175 281 (by decide)).trans hv8
      have hc_197 : σ_188 282 = q_an G 265 as := (hf_175 282 (by decide)).trans hv9
      have hc_198 : σ_188 283 = q_an G 530 sh := (hf_175 283 (by decide)).trans hv10
      have hc_199 : σ_188 284 = q_an G 2120 a := (hf_175 284 (by decide)).trans hv11
      have hc_200 : σ_188 285 = q_bn G 1681 fb := (hf_175 285 (by decide)).trans hv12
      have hc_201 : σ_188 286 = q_an G 1681 nv := (hf_175 286 (by decide)).trans hv13
      have hc_202 : σ_188 287 = q_an G 1681 ns := (hf_175 287 (by decide)).trans hv14
      have hc_203 : σ_188 288 = q_an G 2000 mk := (hf_175 288 (by decide)).trans hv15
      have hc_204 : σ_188 289 = q_an G 6724 va := (hf_175 289 (by decide)).trans hv16
      have hc_205 : σ_188 290 = q_an G 6724 sp := (hf_175 290 (by decide)).trans hv17
      have hc_206 : σ_188 291 = q_an G 80 lp := (hf_175 291 (by decide)).trans hv18
      have hc_207 : σ_188 292 = q_an G 600 f := (hf_175 292 (by decide)).trans hv19
      have hc_208 : σ_188 293 = q_an G 300 ou := (hf_175 293 (by decide)).trans hv20
      have hc_209 : σ_188 294 = q_ln G 1 oL := (hf_175 294 (by decide)).trans hv21
      have hc_210 : σ_188 295 = q_dn G 1 oD := (hf_175 295 (by decide)).trans hv22
      exact (Mhno r1C (by omega) Chx0).elim
    · skip
      refine (?_ : AJ G K Q (kc + 2) (ks + 12) false 296 2188 [some (.ref bS), some (.ref (q_h G + 0)), some (.ref (q_h G + 279)), some (.ref (q_h G + 294)), some (.ref (q_h G + 295)), some (.int (nI (i))), some (.int (nI (2))), none, none] [.int (nI (0))] σ_188)
      have hc_176 : σ_188 279 = o11 G (upd F 7 (nI (2))) := hc_176
      have hc_211 : σ_188 0 = o10 G (nI (il)) (z2) (z3) := (hf_177 0 (by decide)).trans hv0
      have hc_212 : σ_188 1 = q_an G 600 f := (hf_177 1 (by decide)).trans hv1
      have hc_213 : σ_188 23 = o5 G (23) (nI (lo)) := (hf_177 23 (by decide)).trans hv2
      have hc_214 : σ_188 24 = q_an G 256 o := (hf_177 24 (by decide)).trans hv3
      have hc_215 : σ_188 224 = q_rn G 2 2 (fun j => some (243 + 18 * j)) := (hf_177 224 (by decide)).trans hv4
      have hc_216 : σ_188 225 = q_bn G 2 kp := (hf_177 225 (by decide)).trans hv5
      have hc_217 : σ_188 280 = q_an G 265 g := (hf_177 280 (by decide)).trans hv7
      have hc_218 : σ_188 281 = q_an G 265 wk := (hf_177 281 (by decide)).trans hv8
      have hc_219 : σ_188 282 = q_an G 265 as := (hf_177 282 (by decide)).trans hv9
      have hc_220 : σ_188 283 = q_an G 530 sh := (hf_177 283 (by decide)).trans hv10
      have hc_221 : σ_188 284 = q_an G 2120 a := (hf_177 284 (by decide)).trans hv11
      have hc_222 : σ_188 285 = q_bn G 1681 fb := (hf_177 285 (by decide)).trans hv12
      have hc_223 : σ_188 286 = q_an G 1681 nv := (hf_177 286 (by decide)).trans hv13
      have hc_224 : σ_188 287 = q_an G 1681 ns := (hf_177 287 (by decide)).trans hv14
      have hc_225 : σ_188 288 = q_an G 2000 mk := (hf_177 288 (by decide)).trans hv15
      have hc_226 : σ_188 289 = q_an G 6724 va := (hf_177 289 (by decide)).trans hv16
      have hc_227 : σ_188 290 = q_an G 6724 sp := (hf_177 290 (by decide)).trans hv17
      have hc_228 : σ_188 291 = q_an G 80 lp := (hf_177 291 (by decide)).trans hv18
      have hc_229 : σ_188 292 = q_an G 600 f := (hf_177 292 (by decide)).trans hv19
      have hc_230 : σ_188 293 = q_an G 300 ou := (hf_177 293 (by decide)).trans hv20
      have hc_231 : σ_188 294 = q_ln G 1 oL := (hf_177 294 (by decide)).trans hv21
      have hc_232 : σ_188 295 = q_dn G 1 oD := (hf_177 295 (by decide)).trans hv22
      have e_r : r1C = r1M := q_nI_inj (by omega) (by omega) (Chx0.symm.trans Mhre)
      subst e_r
      refine A_istore hg dL_law_2188 (by decide) (q_c1d rfl) ?_
      refine A_eq (ls2 := [some (.ref bS), some (.ref (q_h G + 0)), some (.ref (q_h G + 279)), some (.ref (q_h G + 294)), some (.ref (q_h G + 295)), some (.int (nI (i))), some (.int (nI (2))), some (.int (nI (0))), none]) (st2 := []) (pc2 := 0) rfl rfl ?_
      refine A_aload_n hg dL_law_2190 rfl rfl ?_
      refine A_eV (kc2 := kc + 2) (ks2 := ks + 12) (As := []) (rest := []) hg lk_RL_170 in_X11_thrown se_X11_thrown rfl dL_law_2191 ⟨by decide, by decide⟩ rfl rfl (hfK 2 12 (by decide) (by decide)) hc_176 (by omega) rfl rfl (Nat.le_of_ble_eq_true rfl) (c_X11_thrown G false 296 σ_188 (upd F 7 (nI (2))) hc_176 (by omega)) ?_
      refine A_top (w := .int (nI (2))) (congrArg Value.int rfl) ?_
      refine A_iload hg dL_law_2194 rfl ?_
      refine A_icmp_eqN (tgt := 2201) hg dL_law_2196 (by decide) (by decide) (by decide) (fun c2196 => ?_) (fun c2196 => False.elim (by omega))
      refine A_iload hg dL_law_2201 rfl ?_
      refine A_if_neN (tgt := 2218) hg dL_law_2203 (by decide) (by decide) (fun c2203 => ?_) (fun c2203 => absurd c2203 (by decide))
      refine A_goto (tgt := 3062) hg dL_law_2218 (by decide) ?_
      refine A_drop 6 ?_
      refine A_drop 7 ?_
      refine A_eq (ls2 := [some (.ref bS), some (.ref (q_h G + 0)), some (.ref (q_h G + 279)), some (.ref (q_h G + 294)), some (.ref (q_h G + 295)), some (.int (nI (i))), none, none, none]) (st2 := []) (pc2 := 0) rfl rfl ?_
      refine A_wide (kc2 := kc + 8) (ks2 := ks + 48) (by omega) (by omega) ?_
      exact hnxt _ (iv_mk il z2 z3 f lo o g nx m ps kp sn (upd F 7 (nI (2))) wk as sh a fb nv ns mk va sp lp mc z ss ou oL oD hc_211 hc_212 hc_213 hc_214 hc_215 hc_216 hc_176 hc_217 hc_218 hc_219 hc_220 hc_221 hc_222 hc_223 hc_224 hc_225 hc_226 hc_227 hc_228 hc_229 hc_230 hc_231 hc_232 (x_lj_e (fun i _ _ => (hf_177 i (by omega))) hL) (x_gm_e (fun i _ _ => (hf_177 i (by omega))) hG) (x_mx_e (fun i _ _ => (hf_177 i (by omega))) hM) (x_hi_e (fun i _ _ => (hf_177 i (by omega))) hHi) (x_oj_e (fun i _ _ => (hf_177 i (by omega))) hO) (x_pj_e (fun i _ _ => (hf_177 i (by omega))) hT) (iv_hn (fun i _ _ => (hf_177 i (by omega))) hH) (iv_Sn (fun i _ _ => (hf_177 i (by omega))) hSn) (iv_Kp (fun i _ _ => (hf_177 i (by omega))) hKp) (by omega) hfb (by omega) hou hgd hps hk1 hkss hss hsn hF5 hF6 hF12 hF16 hF21 hF22 hF23 hF33 (by omega) hmk hTI hlo)
    · skip
      refine (?_ : AJ G K Q (kc + 2) (ks + 12) false 296 2188 [some (.ref bS), some (.ref (q_h G + 0)), some (.ref (q_h G + 279)), some (.ref (q_h G + 294)), some (.ref (q_h G + 295)), some (.int (nI (i))), some (.int (nI (2))), none, none] [.int (nI (s_cnt (fun p => s_V (s_rule (s_rset g r1M 18 x1M) r1M) p == 0) 1681))] σ_188)
      have hc_178 : σ_188 279 = o11 G (upd (upd (upd F 7 (nI (0))) 12 (nI (mcqM))) 16 (nI (zqM))) := hc_178
      have hc_233 : σ_188 0 = o10 G (nI (il)) (z2) (z3) := (hf_187 0 (by decide)).trans hv0
      have hc_234 : σ_188 1 = q_an G 600 f := (hf_187 1 (by decide)).trans hv1
      have hc_235 : σ_188 23 = o5 G (23) (nI (lo)) := (hf_187 23 (by decide)).trans hv2
      have hc_236 : σ_188 24 = q_an G 256 o := (hf_187 24 (by decide)).trans hv3
      have hc_237 : σ_188 224 = q_rn G 2 2 (fun j => some (243 + 18 * j)) := (hf_187 224 (by decide)).trans hv4
      have hc_238 : σ_188 225 = q_bn G 2 kp := (hf_187 225 (by decide)).trans hv5
      have hc_239 : σ_188 281 = q_an G 265 wk := (hf_187 281 (by decide)).trans hv8
      have hc_240 : σ_188 282 = q_an G 265 as := (hf_187 282 (by decide)).trans hv9
      have hc_241 : σ_188 283 = q_an G 530 sh := (hf_187 283 (by decide)).trans hv10
      have hc_242 : σ_188 284 = q_an G 2120 a := (hf_187 284 (by decide)).trans hv11
      have hc_243 : σ_188 292 = q_an G 600 f := (hf_187 292 (by decide)).trans hv19
      have hc_244 : σ_188 293 = q_an G 300 ou := (hf_187 293 (by decide)).trans hv20
      have hc_245 : σ_188 294 = q_ln G 1 oL := (hf_187 294 (by decide)).trans hv21
      have hc_246 : σ_188 295 = q_dn G 1 oD := (hf_187 295 (by decide)).trans hv22
      have e_r : r1C = r1M := q_nI_inj (by omega) (by omega) (Chx0.symm.trans Mhre)
      subst e_r
      exact (Chx2 x1M (by omega) (by omega) Mhxe).elim
set_option maxRecDepth 100000 in
set_option maxHeartbeats 4000000 in
theorem law_c32 (G : GL) (K : KC) (Q : State → Prop) (hh : List (Nat × Nat × Nat × Nat)) (hg : Gd G K RL code 9 ret room_1 hh) (bS L : Nat) (xs : Nat → Int32) (hX : q_scr G K bS L xs) (i kc ks J : Nat) (hi : i + 5 < L) (hL31 : L < 2 ^ 31) (hkc : kc + 8 ≤ 601024) (hks : ks + 48 ≤ 7293034) (σ : Nat → va_E) (hI : iv G σ J) (hJ : J < 512) (hfd : q_fdn) (hdd : q_ddn) (hf2 : q_f2n) (hds : q_dcs) (hnxt : ∀ σ9 : Nat → va_E, iv G σ9 (J + 1) → AJ G K Q (kc + 8) (ks + 48) false 296 3062 [some (.ref bS), some (.ref (q_h G + 0)), some (.ref (q_h G + 279)), some (.ref (q_h G + 294)), some (.ref (q_h G + 295)), some (.int (nI (i))), none, none, none] [] σ9) : AJ G K Q kc ks false 296 2221 [some (.ref bS), some (.ref (q_h G + 0)), some (.ref (q_h G + 279)), some (.ref (q_h G + 294)), some (.ref (q_h G + 295)), some (.int (nI (i))), none, none, none] [] σ := by
  refine iv_el hI ?_
  intro il z2 z3 f lo o g nx m ps kp sn F wk as sh a fb nv ns mk va sp lp mc z ss ou oL oD
  intro hv0 hv1 hv2 hv3 hv4 hv5 hv6 hv7 hv8 hv9 hv10 hv11 hv12 hv13 hv14 hv15 hv16 hv17 hv18 hv19 hv20 hv21 hv22
  intro hL hG hM hHi hO hT hH hSn hKp
  intro hil hfb hlo2 hou hgd hps hk1 hkss hss hsn hF5 hF6 hF12 hF16 hF21 hF22 hF23 hF33 hmc hmk hTI hlo
  have hfK : ∀ a b : Nat, a ≤ 8 → b ≤ 48 → kc + a ≤ room_1.cells ∧ ks + b ≤ room_1.slots := fun a b h1 h2 => ⟨by show kc + a ≤ 601024; omega, by show ks + b ≤ 7293034; omega⟩
  have hg9 := iv_g hG
  obtain ⟨hnx8, hm8, hc78⟩ := iv_hi hHi
  have hbb := iv_byte (m := il) hfb
  have hg90 := hg9.1
  have hg96 := hg9.2.2.2.2.1
  have hnp8 := s_np_le hg9
  refine A_aload_n hg dL_law_2221 rfl rfl ?_
  refine A_aload_n hg dL_law_2222 rfl rfl ?_
  refine A_iload hg dL_law_2223 rfl ?_
  refine A_iconst (v := (nI (1))) hg dL_law_2225 (by decide) ?_
  refine A_iaddN hg dL_law_2226 ?_
  refine A_sld hg hX (i + 1) (by omega) dL_law_2227 ?_
  refine A_aload hg dL_law_2228 rfl ?_
  refine A_callSH (As := [.ref (q_h G + 0), .int (xs (i + 1)), .ref (q_h G + 295)]) (rest := []) hg lkH_256 stH_L_share dL_law_2230 ⟨by decide, by decide⟩ (hfK 1 6 (by decide) (by decide)) rfl rfl (Nat.le_of_ble_eq_true rfl) (c_L_share G 296 σ (nI (il)) z2 z3 g (xs (i + 1)) oD hv0 hv22 (by omega) hG hM hfd (by omega) hf2) ?_
  rintro _ σ_1 (⟨r1C, rfl, Chre, Chrl, ChM2, hc_2, hf_3⟩ | ⟨rfl, Chxx, he_4⟩)
  · skip
    refine (?_ : AJ G K Q (kc + 1) (ks + 6) false 296 2233 [some (.ref bS), some (.ref (q_h G + 0)), some (.ref (q_h G + 279)), some (.ref (q_h G + 294)), some (.ref (q_h G + 295)), some (.int (nI (i))), none, none, none] [.int (nI (0))] σ_1)
    have hc_5 : σ_1 0 = o10 G (nI (il)) (z2) (z3) := (hf_3 0 (by decide)).trans hv0
    have hc_6 : σ_1 1 = q_an G 600 f := (hf_3 1 (by decide)).trans hv1
    have hc_7 : σ_1 23 = o5 G (23) (nI (lo)) := (hf_3 23 (by decide)).trans hv2
    have hc_8 : σ_1 24 = q_an G 256 o := (hf_3 24 (by decide)).trans hv3
    have hc_9 : σ_1 224 = q_rn G 2 2 (fun j => some (243 + 18 * j)) := (hf_3 224 (by decide)).trans hv4
    have hc_10 : σ_1 225 = q_bn G 2 kp := (hf_3 225 (by decide)).trans hv5
    have hc_11 : σ_1 279 = o11 G F := (hf_3 279 (by decide)).trans hv6
    have hc_12 : σ_1 280 = q_an G 265 g := (hf_3 280 (by decide)).trans hv7
    have hc_13 : σ_1 281 = q_an G 265 wk := (hf_3 281 (by decide)).trans hv8
    have hc_14 : σ_1 282 = q_an G 265 as := (hf_3 282 (by decide)).trans hv9
    have hc_15 : σ_1 283 = q_an G 530 sh := (hf_3 283 (by decide)).trans hv10
    have hc_16 : σ_1 284 = q_an G 2120 a := (hf_3 284 (by decide)).trans hv11
    have hc_17 : σ_1 285 = q_bn G 1681 fb := (hf_3 285 (by decide)).trans hv12
    have hc_18 : σ_1 286 = q_an G 1681 nv := (hf_3 286 (by decide)).trans hv13
    have hc_19 : σ_1 287 = q_an G 1681 ns := (hf_3 287 (by decide)).trans hv14
    have hc_20 : σ_1 288 = q_an G 2000 mk := (hf_3 288 (by decide)).trans hv15
    have hc_21 : σ_1 289 = q_an G 6724 va := (hf_3 289 (by decide)).trans hv16
    have hc_22 : σ_1 290 = q_an G 6724 sp := (hf_3 290 (by decide)).trans hv17
    have hc_23 : σ_1 291 = q_an G 80 lp := (hf_3 291 (by decide)).trans hv18
    have hc_24 : σ_1 292 = q_an G 600 f := (hf_3 292 (by decide)).trans hv19
    have hc_25 : σ_1 293 = q_an G 300 ou := (hf_3 293 (by decide)).trans hv20
    have hc_26 : σ_1 294 = q_ln G 1 oL := (hf_3 294 (by decide)).trans hv21
    refine A_istore hg dL_law_2233 (by decide) (q_c1d rfl) ?_
    refine A_eq (ls2 := [some (.ref bS), some (.ref (q_h G + 0)), some (.ref (q_h G + 279)), some (.ref (q_h G + 294)), some (.ref (q_h G + 295)), some (.int (nI (i))), some (.int (nI (0))), none, none]) (st2 := []) (pc2 := 0) rfl rfl ?_
    refine A_aload_n hg dL_law_2235 rfl rfl ?_
    refine A_aload_n hg dL_law_2236 rfl rfl ?_
    refine A_iload hg dL_law_2237 rfl ?_
    refine A_iconst (v := (nI (1))) hg dL_law_2239 (by decide) ?_
    refine A_iaddN hg dL_law_2240 ?_
    refine A_sld hg hX (i + 1) (by omega) dL_law_2241 ?_
    refine A_hV (kc2 := kc + 1) (ks2 := ks + 6) (As := [.int (xs (i + 1))]) (rest := []) hg lk_RL_259 in_X11_share se_X11_share rfl dL_law_2242 ⟨by decide, by decide⟩ rfl rfl (hfK 1 6 (by decide) (by decide)) hc_11 (by omega) rfl rfl (Nat.le_of_ble_eq_true rfl) (c_X11_share G false 296 σ_1 F g fb nv ns mk va sp lp mc z (xs (i + 1)) hc_11 hc_12 hc_17 hc_18 hc_19 hc_20 hc_21 hc_22 hc_23 (by omega) hg9 (by omega) hF12 hF16 hmk hTI hlo hfd) ?_
    rintro _ σ_38 (⟨rfl, Mhno, hc_27, hf_28⟩ | ⟨r1M, fqM, nvqM, nsqM, mkqM, vaqM, spqM, loqM, mcqM, zqM, rfl, Mhre, Mhrl, MhTI, Mhmc, Mhmk, Mhlo, hc_29, hc_30, hc_31, hc_32, hc_33, hc_34, hc_35, hc_36, hf_37⟩)
    · skip
      refine (?_ : AJ G K Q (kc + 1) (ks + 6) false 296 2245 [some (.ref bS), some (.ref (q_h G + 0)), some (.ref (q_h G + 279)), some (.ref (q_h G + 294)), some (.ref (q_h G + 295)), some (.int (nI (i))), some (.int (nI (0))), none, none] [.float (0)] σ_38)
      have hc_27 : σ_38 279 = o11 G (upd F 7 (nI (1))) := hc_27
      have hc_39 : σ_38 0 = o10 G (nI (il)) (z2) (z3) := (hf_28 0 (by decide)).trans hc_5
      have hc_40 : σ_38 1 = q_an G 600 f := (hf_28 1 (by decide)).trans hc_6
      have hc_41 : σ_38 23 = o5 G (23) (nI (lo)) := (hf_28 23 (by decide)).trans hc_7
      have hc_42 : σ_38 24 = q_an G 256 o := (hf_28 24 (by decide)).trans hc_8
      have hc_43 : σ_38 224 = q_rn G 2 2 (fun j => some (243 + 18 * j)) := (hf_28 224 (by decide)).trans hc_9
      have hc_44 : σ_38 225 = q_bn G 2 kp := (hf_28 225 (by decide)).trans hc_10
      have hc_45 : σ_38 280 = q_an G 265 g := (hf_28 280 (by decide)).trans hc_12
      have hc_46 : σ_38 281 = q_an G 265 wk := (hf_28 281 (by decide)).trans hc_13
      have hc_47 : σ_38 282 = q_an G 265 as := (hf_28 282 (by decide)).trans hc_14
      have hc_48 : σ_38 283 = q_an G 530 sh := (hf_28 283 (by decide)).trans hc_15
      have hc_49 : σ_38 284 = q_an G 2120 a := (hf_28 284 (by decide)).trans hc_16
      have hc_50 : σ_38 285 = q_bn G 1681 fb := (hf_28 285 (by decide)).trans hc_17
      have hc_51 : σ_38 286 = q_an G 1681 nv := (hf_28 286 (by decide)).trans hc_18
      have hc_52 : σ_38 287 = q_an G 1681 ns := (hf_28 287 (by decide)).trans hc_19
      have hc_53 : σ_38 288 = q_an G 2000 mk := (hf_28 288 (by decide)).trans hc_20
      have hc_54 : σ_38 289 = q_an G 6724 va := (hf_28 289 (by decide)).trans hc_21
      have hc_55 : σ_38 290 = q_an G 6724 sp := (hf_28 290 (by decide)).trans hc_22
      have hc_56 : σ_38 291 = q_an G 80 lp := (hf_28 291 (by decide)).trans hc_23
      have hc_57 : σ_38 292 = q_an G 600 f := (hf_28 292 (by decide)).trans hc_24
      have hc_58 : σ_38 293 = q_an G 300 ou := (hf_28 293 (by decide)).trans hc_25
      have hc_59 : σ_38 294 = q_ln G 1 oL := (hf_28 294 (by decide)).trans hc_26
      have hc_60 : σ_38 295 = q_dn G 1 (va_up oD 0 (FP.f2d ((FP.fdiv (FP.i2f (nI (s_lzc (s_rule g r1C) 1681))) 1154621440)))) := (hf_28 295 (by decide)).trans hc_2
      exact (Mhno r1C (by omega) Chre).elim
    · skip
      refine (?_ : AJ G K Q (kc + 1) (ks + 6) false 296 2245 [some (.ref bS), some (.ref (q_h G + 0)), some (.ref (q_h G + 279)), some (.ref (q_h G + 294)), some (.ref (q_h G + 295)), some (.int (nI (i))), some (.int (nI (0))), none, none] [.float (FP.fdiv (FP.i2f (nI (s_lzc (s_rule g r1M) 1681))) 1154621440)] σ_38)
      have hc_29 : σ_38 279 = o11 G (upd (upd (upd F 7 (nI (0))) 12 (nI (mcqM))) 16 (nI (zqM))) := hc_29
      have hc_61 : σ_38 0 = o10 G (nI (il)) (z2) (z3) := (hf_37 0 (by decide)).trans hc_5
      have hc_62 : σ_38 1 = q_an G 600 f := (hf_37 1 (by decide)).trans hc_6
      have hc_63 : σ_38 23 = o5 G (23) (nI (lo)) := (hf_37 23 (by decide)).trans hc_7
      have hc_64 : σ_38 24 = q_an G 256 o := (hf_37 24 (by decide)).trans hc_8
      have hc_65 : σ_38 224 = q_rn G 2 2 (fun j => some (243 + 18 * j)) := (hf_37 224 (by decide)).trans hc_9
      have hc_66 : σ_38 225 = q_bn G 2 kp := (hf_37 225 (by decide)).trans hc_10
      have hc_67 : σ_38 280 = q_an G 265 g := (hf_37 280 (by decide)).trans hc_12
      have hc_68 : σ_38 281 = q_an G 265 wk := (hf_37 281 (by decide)).trans hc_13
      have hc_69 : σ_38 282 = q_an G 265 as := (hf_37 282 (by decide)).trans hc_14
      have hc_70 : σ_38 283 = q_an G 530 sh := (hf_37 283 (by decide)).trans hc_15
      have hc_71 : σ_38 284 = q_an G 2120 a := (hf_37 284 (by decide)).trans hc_16
      have hc_72 : σ_38 292 = q_an G 600 f := (hf_37 292 (by decide)).trans hc_24
      have hc_73 : σ_38 293 = q_an G 300 ou := (hf_37 293 (by decide)).trans hc_25
      have hc_74 : σ_38 294 = q_ln G 1 oL := (hf_37 294 (by decide)).trans hc_26
      have hc_75 : σ_38 295 = q_dn G 1 (va_up oD 0 (FP.f2d ((FP.fdiv (FP.i2f (nI (s_lzc (s_rule g r1C) 1681))) 1154621440)))) := (hf_37 295 (by decide)).trans hc_2
      have e_r : r1C = r1M := q_nI_inj (by omega) (by omega) (Chre.symm.trans Mhre)
      subst e_r
      refine A_fstore hg dL_law_2245 (by decide) (q_c1d rfl) ?_
      refine A_eq (ls2 := [some (.ref bS), some (.ref (q_h G + 0)), some (.ref (q_h G + 279)), some (.ref (q_h G + 294)), some (.ref (q_h G + 295)), some (.int (nI (i))), some (.int (nI (0))), some (.float (FP.fdiv (FP.i2f (nI (s_lzc (s_rule g r1C) 1681))) 1154621440)), none]) (st2 := []) (pc2 := 0) rfl rfl ?_
      refine A_aload_n hg dL_law_2247 rfl rfl ?_
      refine A_eV (kc2 := kc + 1) (ks2 := ks + 6) (As := []) (rest := []) hg lk_RL_170 in_X11_thrown se_X11_thrown rfl dL_law_2248 ⟨by decide, by decide⟩ rfl rfl (hfK 1 6 (by decide) (by decide)) hc_29 (by omega) rfl rfl (Nat.le_of_ble_eq_true rfl) (c_X11_thrown G false 296 σ_38 (upd (upd (upd F 7 (nI (0))) 12 (nI (mcqM))) 16 (nI (zqM))) hc_29 (by omega)) ?_
      refine A_top (w := .int (nI (0))) (congrArg Value.int rfl) ?_
      refine A_iload hg dL_law_2251 rfl ?_
      refine A_icmp_eqN (tgt := 2258) hg dL_law_2253 (by decide) (by decide) (by decide) (fun c2253 => ?_) (fun c2253 => False.elim (by omega))
      refine A_iload hg dL_law_2258 rfl ?_
      refine A_if_neN (tgt := 2296) hg dL_law_2260 (by decide) (by decide) (fun c2260 => absurd (by decide) c2260) (fun c2260 => ?_)
      refine A_aload hg dL_law_2263 rfl ?_
      refine A_iconst (v := (nI (0))) hg dL_law_2265 (by decide) ?_
      refine A_dald (j := 0) hg dL_law_2266 hc_75 (by omega) (by decide) (by decide) ?_
      refine A_top (w := .double (FP.f2d ((FP.fdiv (FP.i2f (nI (s_lzc (s_rule g r1C) 1681))) 1154621440)))) (congrArg Value.double iv_up0) ?_
      refine A_fload hg dL_law_2267 rfl ?_
      refine A_f2d hg dL_law_2269 (hf2 _) ?_
      refine A_dcmp hg dL_law_2270 ?_
      refine A_top (w := .int (nI 0)) (congrArg Value.int (by rw [hds _ (hf2 _)]; rfl)) ?_
      refine A_if_eqN (tgt := 2296) hg dL_law_2271 (by decide) (by decide) (fun c2271 => ?_) (fun c2271 => absurd (by decide) c2271)
      refine A_goto (tgt := 3062) hg dL_law_2296 (by decide) ?_
      refine A_drop 6 ?_
      refine A_drop 7 ?_
      refine A_eq (ls2 := [some (.ref bS), some (.ref (q_h G + 0)), some (.ref (q_h G + 279)), some (.ref (q_h G + 294)), some (.ref (q_h G + 295)), some (.int (nI (i))), none, none, none]) (st2 := []) (pc2 := 0) rfl rfl ?_
      refine A_wide (kc2 := kc + 8) (ks2 := ks + 48) (by omega) (by omega) ?_
      exact hnxt _ (iv_mk il z2 z3 f lo o g nx m ps kp sn (upd (upd (upd F 7 (nI (0))) 12 (nI (mcqM))) 16 (nI (zqM))) wk as sh a fqM nvqM nsqM mkqM vaqM spqM loqM mcqM zqM ss ou oL (va_up oD 0 (FP.f2d ((FP.fdiv (FP.i2f (nI (s_lzc (s_rule g r1C) 1681))) 1154621440)))) hc_61 hc_62 hc_63 hc_64 hc_65 hc_66 hc_29 hc_67 hc_68 hc_69 hc_70 hc_71 hc_30 hc_31 hc_32 hc_33 hc_34 hc_35 hc_36 hc_72 hc_73 hc_74 hc_75 (x_lj_e (fun i _ _ => ((hf_37 i (by omega)).trans (hf_3 i (by omega)))) hL) (x_gm_e (fun i _ _ => ((hf_37 i (by omega)).trans (hf_3 i (by omega)))) hG) (x_mx_e (fun i _ _ => (hf_37 i (by omega))) ChM2) (x_hi_e (fun i _ _ => ((hf_37 i (by omega)).trans (hf_3 i (by omega)))) hHi) (x_oj_e (fun i _ _ => ((hf_37 i (by omega)).trans (hf_3 i (by omega)))) hO) (x_pj_e (fun i _ _ => ((hf_37 i (by omega)).trans (hf_3 i (by omega)))) hT) (iv_hn (fun i _ _ => ((hf_37 i (by omega)).trans (hf_3 i (by omega)))) hH) (iv_Sn (fun i _ _ => ((hf_37 i (by omega)).trans (hf_3 i (by omega)))) hSn) (iv_Kp (fun i _ _ => ((hf_37 i (by omega)).trans (hf_3 i (by omega)))) hKp) (by omega) hfb (by omega) hou hgd hps hk1 hkss hss hsn hF5 hF6 rfl rfl hF21 hF22 hF23 hF33 (by omega) Mhmk MhTI Mhlo)
  · skip
    rw [he_4]
    refine (?_ : AJ G K Q (kc + 1) (ks + 6) false 296 2233 [some (.ref bS), some (.ref (q_h G + 0)), some (.ref (q_h G + 279)), some (.ref (q_h G + 294)), some (.ref (q_h G + 295)), some (.int (nI (i))), none, none, none] [.int (nI (1))] σ)
    refine A_istore hg dL_law_2233 (by decide) (q_c1d rfl) ?_
    refine A_eq (ls2 := [some (.ref bS), some (.ref (q_h G + 0)), some (.ref (q_h G + 279)), some (.ref (q_h G + 294)), some (.ref (q_h G + 295)), some (.int (nI (i))), some (.int (nI (1))), none, none]) (st2 := []) (pc2 := 0) rfl rfl ?_
    refine A_aload_n hg dL_law_2235 rfl rfl ?_
    refine A_aload_n hg dL_law_2236 rfl rfl ?_
    refine A_iload hg dL_law_2237 rfl ?_
    refine A_iconst (v := (nI (1))) hg dL_law_2239 (by decide) ?_
    refine A_iaddN hg dL_law_2240 ?_
    refine A_sld hg hX (i + 1) (by omega) dL_law_2241 ?_
    refine A_hV (kc2 := kc + 1) (ks2 := ks + 6) (As := [.int (xs (i + 1))]) (rest := []) hg lk_RL_259 in_X11_share se_X11_share rfl dL_law_2242 ⟨by decide, by decide⟩ rfl rfl (hfK 1 6 (by decide) (by decide)) hv6 (by omega) rfl rfl (Nat.le_of_ble_eq_true rfl) (c_X11_share G false 296 σ F g fb nv ns mk va sp lp mc z (xs (i + 1)) hv6 hv7 hv12 hv13 hv14 hv15 hv16 hv17 hv18 (by omega) hg9 (by omega) hF12 hF16 hmk hTI hlo hfd) ?_
    rintro _ σ_87 (⟨rfl, Mhno, hc_76, hf_77⟩ | ⟨r1M, fqM, nvqM, nsqM, mkqM, vaqM, spqM, loqM, mcqM, zqM, rfl, Mhre, Mhrl, MhTI, Mhmc, Mhmk, Mhlo, hc_78, hc_79, hc_80, hc_81, hc_82, hc_83, hc_84, hc_85, hf_86⟩)
    · skip
      refine (?_ : AJ G K Q (kc + 1) (ks + 6) false 296 2245 [some (.ref bS), some (.ref (q_h G + 0)), some (.ref (q_h G + 279)), some (.ref (q_h G + 294)), some (.ref (q_h G + 295)), some (.int (nI (i))), some (.int (nI (1))), none, none] [.float (0)] σ_87)
      have hc_76 : σ_87 279 = o11 G (upd F 7 (nI (1))) := hc_76
      have hc_88 : σ_87 0 = o10 G (nI (il)) (z2) (z3) := (hf_77 0 (by decide)).trans hv0
      have hc_89 : σ_87 1 = q_an G 600 f := (hf_77 1 (by decide)).trans hv1
      have hc_90 : σ_87 23 = o5 G (23) (nI (lo)) := (hf_77 23 (by decide)).trans hv2
      have hc_91 : σ_87 24 = q_an G 256 o := (hf_77 24 (by decide)).trans hv3
      have hc_92 : σ_87 224 = q_rn G 2 2 (fun j => some (243 + 18 * j)) := (hf_77 224 (by decide)).trans hv4
      have hc_93 : σ_87 225 = q_bn G 2 kp := (hf_77 225 (by decide)).trans hv5
      have hc_94 : σ_87 280 = q_an G 265 g := (hf_77 280 (by decide)).trans hv7
      have hc_95 : σ_87 281 = q_an G 265 wk := (hf_77 281 (by decide)).trans hv8
      have hc_96 : σ_87 282 = q_an G 265 as := (hf_77 282 (by decide)).trans hv9
      have hc_97 : σ_87 283 = q_an G 530 sh := (hf_77 283 (by decide)).trans hv10
      have hc_98 : σ_87 284 = q_an G 2120 a := (hf_77 284 (by decide)).trans hv11
      have hc_99 : σ_87 285 = q_bn G 1681 fb := (hf_77 285 (by decide)).trans hv12
      have hc_100 : σ_87 286 = q_an G 1681 nv := (hf_77 286 (by decide)).trans hv13
      have hc_101 : σ_87 287 = q_an G 1681 ns := (hf_77 287 (by decide)).trans hv14
      have hc_102 : σ_87 288 = q_an G 2000 mk := (hf_77 288 (by decide)).trans hv15
      have hc_103 : σ_87 289 = q_an G 6724 va := (hf_77 289 (by decide)).trans hv16
      have hc_104 : σ_87 290 = q_an G 6724 sp := (hf_77 290 (by decide)).trans hv17
      have hc_105 : σ_87 291 = q_an G 80 lp := (hf_77 291 (by decide)).trans hv18
      have hc_106 : σ_87 292 = q_an G 600 f := (hf_77 292 (by decide)).trans hv19
      have hc_107 : σ_87 293 = q_an G 300 ou := (hf_77 293 (by decide)).trans hv20
      have hc_108 : σ_87 294 = q_ln G 1 oL := (hf_77 294 (by decide)).trans hv21
      have hc_109 : σ_87 295 = q_dn G 1 oD := (hf_77 295 (by decide)).trans hv22
      refine A_fstore hg dL_law_2245 (by decide) (q_c1d rfl) ?_
      refine A_eq (ls2 := [some (.ref bS), some (.ref (q_h G + 0)), some (.ref (q_h G + 279)), some (.ref (q_h G + 294)), some (.ref (q_h G + 295)), some (.int (nI (i))), some (.int (nI (1))), some (.float (0)), none]) (st2 := []) (pc2 := 0) rfl rfl ?_
      refine A_aload_n hg dL_law_2247 rfl rfl ?_
      refine A_eV (kc2 := kc + 1) (ks2 := ks + 6) (As := []) (rest := []) hg lk_RL_170 in_X11_thrown se_X11_thrown rfl dL_law_2248 ⟨by decide, by decide⟩ rfl rfl (hfK 1 6 (by decide) (by decide)) hc_76 (by omega) rfl rfl (Nat.le_of_ble_eq_true rfl) (c_X11_thrown G false 296 σ_87 (upd F 7 (nI (1))) hc_76 (by omega)) ?_
      refine A_top (w := .int (nI (1))) (congrArg Value.int rfl) ?_
      refine A_iload hg dL_law_2251 rfl ?_
      refine A_icmp_eqN (tgt := 2258) hg dL_law_2253 (by decide) (by decide) (by decide) (fun c2253 => ?_) (fun c2253 => False.elim (by omega))
      refine A_iload hg dL_law_2258 rfl ?_
      refine A_if_neN (tgt := 2296) hg dL_law_2260 (by decide) (by decide) (fun c2260 => ?_) (fun c2260 => absurd c2260 (by decide))
      refine A_goto (tgt := 3062) hg dL_law_2296 (by decide) ?_
      refine A_drop 6 ?_
      refine A_drop 7 ?_
      refine A_eq (ls2 := [some (.ref bS), some (.ref (q_h G + 0)), some (.ref (q_h G + 279)), some (.ref (q_h G + 294)), some (.ref (q_h G + 295)), some (.int (nI (i))), none, none, none]) (st2 := []) (pc2 := 0) rfl rfl ?_
      refine A_wide (kc2 := kc + 8) (ks2 := ks + 48) (by omega) (by omega) ?_
      exact hnxt _ (iv_mk il z2 z3 f lo o g nx m ps kp sn (upd F 7 (nI (1))) wk as sh a fb nv ns mk va sp lp mc z ss ou oL oD hc_88 hc_89 hc_90 hc_91 hc_92 hc_93 hc_76 hc_94 hc_95 hc_96 hc_97 hc_98 hc_99 hc_100 hc_101 hc_102 hc_103 hc_104 hc_105 hc_106 hc_107 hc_108 hc_109 (x_lj_e (fun i _ _ => (hf_77 i (by omega))) hL) (x_gm_e (fun i _ _ => (hf_77 i (by omega))) hG) (x_mx_e (fun i _ _ => (hf_77 i (by omega))) hM) (x_hi_e (fun i _ _ => (hf_77 i (by omega))) hHi) (x_oj_e (fun i _ _ => (hf_77 i (by omega))) hO) (x_pj_e (fun i _ _ => (hf_77 i (by omega))) hT) (iv_hn (fun i _ _ => (hf_77 i (by omega))) hH) (iv_Sn (fun i _ _ => (hf_77 i (by omega))) hSn) (iv_Kp (fun i _ _ => (hf_77 i (by omega))) hKp) (by omega) hfb (by omega) hou hgd hps hk1 hkss hss hsn hF5 hF6 hF12 hF16 hF21 hF22 hF23 hF33 (by omega) hmk hTI hlo)
    · skip
      refine (?_ : AJ G K Q (kc + 1) (ks + 6) false 296 2245 [some (.ref bS), some (.ref (q_h G + 0)), some (.ref (q_h G + 279)), some (.ref (q_h G + 294)), some (.ref (q_h G + 295)), some (.int (nI (i))), some (.int (nI (1))), none, none] [.float (FP.fdiv (FP.i2f (nI (s_lzc (s_rule g r1M) 1681))) 1154621440)] σ_87)
      have hc_78 : σ_87 279 = o11 G (upd (upd (upd F 7 (nI (0))) 12 (nI (mcqM))) 16 (nI (zqM))) := hc_78
      have hc_110 : σ_87 0 = o10 G (nI (il)) (z2) (z3) := (hf_86 0 (by decide)).trans hv0
      have hc_111 : σ_87 1 = q_an G 600 f := (hf_86 1 (by decide)).trans hv1
      have hc_112 : σ_87 23 = o5 G (23) (nI (lo)) := (hf_86 23 (by decide)).trans hv2
      have hc_113 : σ_87 24 = q_an G 256 o := (hf_86 24 (by decide)).trans hv3
      have hc_114 : σ_87 224 = q_rn G 2 2 (fun j => some (243 + 18 * j)) := (hf_86 224 (by decide)).trans hv4
      have hc_115 : σ_87 225 = q_bn G 2 kp := (hf_86 225 (by decide)).trans hv5
      have hc_116 : σ_87 280 = q_an G 265 g := (hf_86 280 (by decide)).trans hv7
      have hc_117 : σ_87 281 = q_an G 265 wk := (hf_86 281 (by decide)).trans hv8
      have hc_118 : σ_87 282 = q_an G 265 as := (hf_86 282 (by decide)).trans hv9
      have hc_119 : σ_87 283 = q_an G 530 sh := (hf_86 283 (by decide)).trans hv10
      have hc_120 : σ_87 284 = q_an G 2120 a := (hf_86 284 (by decide)).trans hv11
      have hc_121 : σ_87 292 = q_an G 600 f := (hf_86 292 (by decide)).trans hv19
      have hc_122 : σ_87 293 = q_an G 300 ou := (hf_86 293 (by decide)).trans hv20
      have hc_123 : σ_87 294 = q_ln G 1 oL := (hf_86 294 (by decide)).trans hv21
      have hc_124 : σ_87 295 = q_dn G 1 oD := (hf_86 295 (by decide)).trans hv22
      exact (Chxx r1M (by omega) Mhre).elim
set_option maxRecDepth 100000 in
set_option maxHeartbeats 4000000 in
theorem law_c33 (G : GL) (K : KC) (Q : State → Prop) (hh : List (Nat × Nat × Nat × Nat)) (hg : Gd G K RL code 9 ret room_1 hh) (bS L : Nat) (xs : Nat → Int32) (hX : q_scr G K bS L xs) (i kc ks J : Nat) (hi : i + 5 < L) (hL31 : L < 2 ^ 31) (hkc : kc + 8 ≤ 601024) (hks : ks + 48 ≤ 7293034) (σ : Nat → va_E) (hI : iv G σ J) (hJ : J < 512) (hfd : q_fdn) (hdd : q_ddn) (hf2 : q_f2n) (hds : q_dcs) (hnxt : ∀ σ9 : Nat → va_E, iv G σ9 (J + 1) → AJ G K Q (kc + 8) (ks + 48) false 296 3062 [some (.ref bS), some (.ref (q_h G + 0)), some (.ref (q_h G + 279)), some (.ref (q_h G + 294)), some (.ref (q_h G + 295)), some (.int (nI (i))), none, none, none] [] σ9) : AJ G K Q kc ks false 296 2299 [some (.ref bS), some (.ref (q_h G + 0)), some (.ref (q_h G + 279)), some (.ref (q_h G + 294)), some (.ref (q_h G + 295)), some (.int (nI (i))), none, none, none] [] σ := by
  refine iv_el hI ?_
  intro il z2 z3 f lo o g nx m ps kp sn F wk as sh a fb nv ns mk va sp lp mc z ss ou oL oD
  intro hv0 hv1 hv2 hv3 hv4 hv5 hv6 hv7 hv8 hv9 hv10 hv11 hv12 hv13 hv14 hv15 hv16 hv17 hv18 hv19 hv20 hv21 hv22
  intro hL hG hM hHi hO hT hH hSn hKp
  intro hil hfb hlo2 hou hgd hps hk1 hkss hss hsn hF5 hF6 hF12 hF16 hF21 hF22 hF23 hF33 hmc hmk hTI hlo
  have hfK : ∀ a b : Nat, a ≤ 8 → b ≤ 48 → kc + a ≤ room_1.cells ∧ ks + b ≤ room_1.slots := fun a b h1 h2 => ⟨by show kc + a ≤ 601024; omega, by show ks + b ≤ 7293034; omega⟩
  have hg9 := iv_g hG
  obtain ⟨hnx8, hm8, hc78⟩ := iv_hi hHi
  have hbb := iv_byte (m := il) hfb
  have hg90 := hg9.1
  have hg96 := hg9.2.2.2.2.1
  have hnp8 := s_np_le hg9
  refine A_aload_n hg dL_law_2299 rfl rfl ?_
  refine A_aload_n hg dL_law_2300 rfl rfl ?_
  refine A_iload hg dL_law_2301 rfl ?_
  refine A_iconst (v := (nI (1))) hg dL_law_2303 (by decide) ?_
  refine A_iaddN hg dL_law_2304 ?_
  refine A_sld hg hX (i + 1) (by omega) dL_law_2305 ?_
  refine A_aload hg dL_law_2306 rfl ?_
  refine A_callSH (As := [.ref (q_h G + 0), .int (xs (i + 1)), .ref (q_h G + 295)]) (rest := []) hg lkH_260 stH_L_meanValue dL_law_2308 ⟨by decide, by decide⟩ (hfK 1 6 (by decide) (by decide)) rfl rfl (Nat.le_of_ble_eq_true rfl) (c_L_meanValue G 296 σ (nI (il)) z2 z3 g (xs (i + 1)) oD hv0 hv22 (by omega) hG hM hdd (by omega)) ?_
  rintro _ σ_1 (⟨r1C, rfl, Chre, Chrl, ChM2, hc_2, hf_3⟩ | ⟨rfl, Chxx, he_4⟩)
  · skip
    refine (?_ : AJ G K Q (kc + 1) (ks + 6) false 296 2311 [some (.ref bS), some (.ref (q_h G + 0)), some (.ref (q_h G + 279)), some (.ref (q_h G + 294)), some (.ref (q_h G + 295)), some (.int (nI (i))), none, none, none] [.int (nI (0))] σ_1)
    have hc_5 : σ_1 0 = o10 G (nI (il)) (z2) (z3) := (hf_3 0 (by decide)).trans hv0
    have hc_6 : σ_1 1 = q_an G 600 f := (hf_3 1 (by decide)).trans hv1
    have hc_7 : σ_1 23 = o5 G (23) (nI (lo)) := (hf_3 23 (by decide)).trans hv2
    have hc_8 : σ_1 24 = q_an G 256 o := (hf_3 24 (by decide)).trans hv3
    have hc_9 : σ_1 224 = q_rn G 2 2 (fun j => some (243 + 18 * j)) := (hf_3 224 (by decide)).trans hv4
    have hc_10 : σ_1 225 = q_bn G 2 kp := (hf_3 225 (by decide)).trans hv5
    have hc_11 : σ_1 279 = o11 G F := (hf_3 279 (by decide)).trans hv6
    have hc_12 : σ_1 280 = q_an G 265 g := (hf_3 280 (by decide)).trans hv7
    have hc_13 : σ_1 281 = q_an G 265 wk := (hf_3 281 (by decide)).trans hv8
    have hc_14 : σ_1 282 = q_an G 265 as := (hf_3 282 (by decide)).trans hv9
    have hc_15 : σ_1 283 = q_an G 530 sh := (hf_3 283 (by decide)).trans hv10
    have hc_16 : σ_1 284 = q_an G 2120 a := (hf_3 284 (by decide)).trans hv11
    have hc_17 : σ_1 285 = q_bn G 1681 fb := (hf_3 285 (by decide)).trans hv12
    have hc_18 : σ_1 286 = q_an G 1681 nv := (hf_3 286 (by decide)).trans hv13
    have hc_19 : σ_1 287 = q_an G 1681 ns := (hf_3 287 (by decide)).trans hv14
    have hc_20 : σ_1 288 = q_an G 2000 mk := (hf_3 288 (by decide)).trans hv15
    have hc_21 : σ_1 289 = q_an G 6724 va := (hf_3 289 (by decide)).trans hv16
    have hc_22 : σ_1 290 = q_an G 6724 sp := (hf_3 290 (by decide)).trans hv17
    have hc_23 : σ_1 291 = q_an G 80 lp := (hf_3 291 (by decide)).trans hv18
    have hc_24 : σ_1 292 = q_an G 600 f := (hf_3 292 (by decide)).trans hv19
    have hc_25 : σ_1 293 = q_an G 300 ou := (hf_3 293 (by decide)).trans hv20
    have hc_26 : σ_1 294 = q_ln G 1 oL := (hf_3 294 (by decide)).trans hv21
    refine A_istore hg dL_law_2311 (by decide) (q_c1d rfl) ?_
    refine A_eq (ls2 := [some (.ref bS), some (.ref (q_h G + 0)), some (.ref (q_h G + 279)), some (.ref (q_h G + 294)), some (.ref (q_h G + 295)), some (.int (nI (i))), some (.int (nI (0))), none, none]) (st2 := []) (pc2 := 0) rfl rfl ?_
    refine A_aload_n hg dL_law_2313 rfl rfl ?_
    refine A_aload_n hg dL_law_2314 rfl rfl ?_
    refine A_iload hg dL_law_2315 rfl ?_
    refine A_iconst (v := (nI (1))) hg dL_law_2317 (by decide) ?_
    refine A_iaddN hg dL_law_2318 ?_
    refine A_sld hg hX (i + 1) (by omega) dL_law_2319 ?_
    refine A_hV (kc2 := kc + 1) (ks2 := ks + 6) (As := [.int (xs (i + 1))]) (rest := []) hg lk_RL_262 in_X11_meanValue se_X11_meanValue rfl dL_law_2320 ⟨by decide, by decide⟩ rfl rfl (hfK 1 6 (by decide) (by decide)) hc_11 (by omega) rfl rfl (Nat.le_of_ble_eq_true rfl) (c_X11_meanValue G false 296 σ_1 F g fb nv ns mk va sp lp mc z (xs (i + 1)) hc_11 hc_12 hc_17 hc_18 hc_19 hc_20 hc_21 hc_22 hc_23 (by omega) hg9 (by omega) hF12 hF16 hmk hTI hlo hdd) ?_
    rintro _ σ_38 (⟨rfl, Mhno, hc_27, hf_28⟩ | ⟨r1M, fqM, nvqM, nsqM, mkqM, vaqM, spqM, loqM, mcqM, zqM, rfl, Mhre, Mhrl, MhTI, Mhmc, Mhmk, Mhlo, hc_29, hc_30, hc_31, hc_32, hc_33, hc_34, hc_35, hc_36, hf_37⟩)
    · skip
      refine (?_ : AJ G K Q (kc + 1) (ks + 6) false 296 2323 [some (.ref bS), some (.ref (q_h G + 0)), some (.ref (q_h G + 279)), some (.ref (q_h G + 294)), some (.ref (q_h G + 295)), some (.int (nI (i))), some (.int (nI (0))), none, none] [.double (0)] σ_38)
      have hc_27 : σ_38 279 = o11 G (upd F 7 (nI (1))) := hc_27
      have hc_39 : σ_38 0 = o10 G (nI (il)) (z2) (z3) := (hf_28 0 (by decide)).trans hc_5
      have hc_40 : σ_38 1 = q_an G 600 f := (hf_28 1 (by decide)).trans hc_6
      have hc_41 : σ_38 23 = o5 G (23) (nI (lo)) := (hf_28 23 (by decide)).trans hc_7
      have hc_42 : σ_38 24 = q_an G 256 o := (hf_28 24 (by decide)).trans hc_8
      have hc_43 : σ_38 224 = q_rn G 2 2 (fun j => some (243 + 18 * j)) := (hf_28 224 (by decide)).trans hc_9
      have hc_44 : σ_38 225 = q_bn G 2 kp := (hf_28 225 (by decide)).trans hc_10
      have hc_45 : σ_38 280 = q_an G 265 g := (hf_28 280 (by decide)).trans hc_12
      have hc_46 : σ_38 281 = q_an G 265 wk := (hf_28 281 (by decide)).trans hc_13
      have hc_47 : σ_38 282 = q_an G 265 as := (hf_28 282 (by decide)).trans hc_14
      have hc_48 : σ_38 283 = q_an G 530 sh := (hf_28 283 (by decide)).trans hc_15
      have hc_49 : σ_38 284 = q_an G 2120 a := (hf_28 284 (by decide)).trans hc_16
      have hc_50 : σ_38 285 = q_bn G 1681 fb := (hf_28 285 (by decide)).trans hc_17
      have hc_51 : σ_38 286 = q_an G 1681 nv := (hf_28 286 (by decide)).trans hc_18
      have hc_52 : σ_38 287 = q_an G 1681 ns := (hf_28 287 (by decide)).trans hc_19
      have hc_53 : σ_38 288 = q_an G 2000 mk := (hf_28 288 (by decide)).trans hc_20
      have hc_54 : σ_38 289 = q_an G 6724 va := (hf_28 289 (by decide)).trans hc_21
      have hc_55 : σ_38 290 = q_an G 6724 sp := (hf_28 290 (by decide)).trans hc_22
      have hc_56 : σ_38 291 = q_an G 80 lp := (hf_28 291 (by decide)).trans hc_23
      have hc_57 : σ_38 292 = q_an G 600 f := (hf_28 292 (by decide)).trans hc_24
      have hc_58 : σ_38 293 = q_an G 300 ou := (hf_28 293 (by decide)).trans hc_25
      have hc_59 : σ_38 294 = q_ln G 1 oL := (hf_28 294 (by decide)).trans hc_26
      have hc_60 : σ_38 295 = q_dn G 1 (va_up oD 0 (FP.ddiv (FP.i2d (nI (s_vsum (s_rule g r1C) 1681))) 4655107931631517696)) := (hf_28 295 (by decide)).trans hc_2
      exact (Mhno r1C (by omega) Chre).elim
    · skip
      refine (?_ : AJ G K Q (kc + 1) (ks + 6) false 296 2323 [some (.ref bS), some (.ref (q_h G + 0)), some (.ref (q_h G + 279)), some (.ref (q_h G + 294)), some (.ref (q_h G + 295)), some (.int (nI (i))), some (.int (nI (0))), none, none] [.double (FP.ddiv (FP.i2d (nI (s_vsum (s_rule g r1M) 1681))) 4655107931631517696)] σ_38)
      have hc_29 : σ_38 279 = o11 G (upd (upd (upd F 7 (nI (0))) 12 (nI (mcqM))) 16 (nI (zqM))) := hc_29
      have hc_61 : σ_38 0 = o10 G (nI (il)) (z2) (z3) := (hf_37 0 (by decide)).trans hc_5
      have hc_62 : σ_38 1 = q_an G 600 f := (hf_37 1 (by decide)).trans hc_6
      have hc_63 : σ_38 23 = o5 G (23) (nI (lo)) := (hf_37 23 (by decide)).trans hc_7
      have hc_64 : σ_38 24 = q_an G 256 o := (hf_37 24 (by decide)).trans hc_8
      have hc_65 : σ_38 224 = q_rn G 2 2 (fun j => some (243 + 18 * j)) := (hf_37 224 (by decide)).trans hc_9
      have hc_66 : σ_38 225 = q_bn G 2 kp := (hf_37 225 (by decide)).trans hc_10
      have hc_67 : σ_38 280 = q_an G 265 g := (hf_37 280 (by decide)).trans hc_12
      have hc_68 : σ_38 281 = q_an G 265 wk := (hf_37 281 (by decide)).trans hc_13
      have hc_69 : σ_38 282 = q_an G 265 as := (hf_37 282 (by decide)).trans hc_14
      have hc_70 : σ_38 283 = q_an G 530 sh := (hf_37 283 (by decide)).trans hc_15
      have hc_71 : σ_38 284 = q_an G 2120 a := (hf_37 284 (by decide)).trans hc_16
      have hc_72 : σ_38 292 = q_an G 600 f := (hf_37 292 (by decide)).trans hc_24
      have hc_73 : σ_38 293 = q_an G 300 ou := (hf_37 293 (by decide)).trans hc_25
      have hc_74 : σ_38 294 = q_ln G 1 oL := (hf_37 294 (by decide)).trans hc_26
      have hc_75 : σ_38 295 = q_dn G 1 (va_up oD 0 (FP.ddiv (FP.i2d (nI (s_vsum (s_rule g r1C) 1681))) 4655107931631517696)) := (hf_37 295 (by decide)).trans hc_2
      have e_r : r1C = r1M := q_nI_inj (by omega) (by omega) (Chre.symm.trans Mhre)
      subst e_r
      refine A_dstore hg dL_law_2323 (by decide) (q_c1d rfl) (by simp) ?_
      refine A_eq (ls2 := [some (.ref bS), some (.ref (q_h G + 0)), some (.ref (q_h G + 279)), some (.ref (q_h G + 294)), some (.ref (q_h G + 295)), some (.int (nI (i))), some (.int (nI (0))), some (.double (FP.ddiv (FP.i2d (nI (s_vsum (s_rule g r1C) 1681))) 4655107931631517696)), none]) (st2 := []) (pc2 := 0) rfl rfl ?_
      refine A_aload_n hg dL_law_2325 rfl rfl ?_
      refine A_eV (kc2 := kc + 1) (ks2 := ks + 6) (As := []) (rest := []) hg lk_RL_170 in_X11_thrown se_X11_thrown rfl dL_law_2326 ⟨by decide, by decide⟩ rfl rfl (hfK 1 6 (by decide) (by decide)) hc_29 (by omega) rfl rfl (Nat.le_of_ble_eq_true rfl) (c_X11_thrown G false 296 σ_38 (upd (upd (upd F 7 (nI (0))) 12 (nI (mcqM))) 16 (nI (zqM))) hc_29 (by omega)) ?_
      refine A_top (w := .int (nI (0))) (congrArg Value.int rfl) ?_
      refine A_iload hg dL_law_2329 rfl ?_
      refine A_icmp_eqN (tgt := 2336) hg dL_law_2331 (by decide) (by decide) (by decide) (fun c2331 => ?_) (fun c2331 => False.elim (by omega))
      refine A_iload hg dL_law_2336 rfl ?_
      refine A_if_neN (tgt := 2373) hg dL_law_2338 (by decide) (by decide) (fun c2338 => absurd (by decide) c2338) (fun c2338 => ?_)
      refine A_aload hg dL_law_2341 rfl ?_
      refine A_iconst (v := (nI (0))) hg dL_law_2343 (by decide) ?_
      refine A_dald (j := 0) hg dL_law_2344 hc_75 (by omega) (by decide) (by decide) ?_
      refine A_top (w := .double (FP.ddiv (FP.i2d (nI (s_vsum (s_rule g r1C) 1681))) 4655107931631517696)) (congrArg Value.double iv_up0) ?_
      refine A_dload hg dL_law_2345 rfl ?_
      refine A_dcmp hg dL_law_2347 ?_
      refine A_top (w := .int (nI 0)) (congrArg Value.int (by rw [hds _ (hdd _)]; rfl)) ?_
      refine A_if_eqN (tgt := 2373) hg dL_law_2348 (by decide) (by decide) (fun c2348 => ?_) (fun c2348 => absurd (by decide) c2348)
      refine A_goto (tgt := 3062) hg dL_law_2373 (by decide) ?_
      refine A_drop 6 ?_
      refine A_drop 7 ?_
      refine A_eq (ls2 := [some (.ref bS), some (.ref (q_h G + 0)), some (.ref (q_h G + 279)), some (.ref (q_h G + 294)), some (.ref (q_h G + 295)), some (.int (nI (i))), none, none, none]) (st2 := []) (pc2 := 0) rfl rfl ?_
      refine A_wide (kc2 := kc + 8) (ks2 := ks + 48) (by omega) (by omega) ?_
      exact hnxt _ (iv_mk il z2 z3 f lo o g nx m ps kp sn (upd (upd (upd F 7 (nI (0))) 12 (nI (mcqM))) 16 (nI (zqM))) wk as sh a fqM nvqM nsqM mkqM vaqM spqM loqM mcqM zqM ss ou oL (va_up oD 0 (FP.ddiv (FP.i2d (nI (s_vsum (s_rule g r1C) 1681))) 4655107931631517696)) hc_61 hc_62 hc_63 hc_64 hc_65 hc_66 hc_29 hc_67 hc_68 hc_69 hc_70 hc_71 hc_30 hc_31 hc_32 hc_33 hc_34 hc_35 hc_36 hc_72 hc_73 hc_74 hc_75 (x_lj_e (fun i _ _ => ((hf_37 i (by omega)).trans (hf_3 i (by omega)))) hL) (x_gm_e (fun i _ _ => ((hf_37 i (by omega)).trans (hf_3 i (by omega)))) hG) (x_mx_e (fun i _ _ => (hf_37 i (by omega))) ChM2) (x_hi_e (fun i _ _ => ((hf_37 i (by omega)).trans (hf_3 i (by omega)))) hHi) (x_oj_e (fun i _ _ => ((hf_37 i (by omega)).trans (hf_3 i (by omega)))) hO) (x_pj_e (fun i _ _ => ((hf_37 i (by omega)).trans (hf_3 i (by omega)))) hT) (iv_hn (fun i _ _ => ((hf_37 i (by omega)).trans (hf_3 i (by omega)))) hH) (iv_Sn (fun i _ _ => ((hf_37 i (by omega)).trans (hf_3 i (by omega)))) hSn) (iv_Kp (fun i _ _ => ((hf_37 i (by omega)).trans (hf_3 i (by omega)))) hKp) (by omega) hfb (by omega) hou hgd hps hk1 hkss hss hsn hF5 hF6 rfl rfl hF21 hF22 hF23 hF33 (by omega) Mhmk MhTI Mhlo)
  · skip
    rw [he_4]
    refine (?_ : AJ G K Q (kc + 1) (ks + 6) false 296 2311 [some (.ref bS), some (.ref (q_h G + 0)), some (.ref (q_h G + 279)), some (.ref (q_h G + 294)), some (.ref (q_h G + 295)), some (.int (nI (i))), none, none, none] [.int (nI (1))] σ)
    refine A_istore hg dL_law_2311 (by decide) (q_c1d rfl) ?_
    refine A_eq (ls2 := [some (.ref bS), some (.ref (q_h G + 0)), some (.ref (q_h G + 279)), some (.ref (q_h G + 294)), some (.ref (q_h G + 295)), some (.int (nI (i))), some (.int (nI (1))), none, none]) (st2 := []) (pc2 := 0) rfl rfl ?_
    refine A_aload_n hg dL_law_2313 rfl rfl ?_
    refine A_aload_n hg dL_law_2314 rfl rfl ?_
    refine A_iload hg dL_law_2315 rfl ?_
    refine A_iconst (v := (nI (1))) hg dL_law_2317 (by decide) ?_
    refine A_iaddN hg dL_law_2318 ?_
    refine A_sld hg hX (i + 1) (by omega) dL_law_2319 ?_
    refine A_hV (kc2 := kc + 1) (ks2 := ks + 6) (As := [.int (xs (i + 1))]) (rest := []) hg lk_RL_262 in_X11_meanValue se_X11_meanValue rfl dL_law_2320 ⟨by decide, by decide⟩ rfl rfl (hfK 1 6 (by decide) (by decide)) hv6 (by omega) rfl rfl (Nat.le_of_ble_eq_true rfl) (c_X11_meanValue G false 296 σ F g fb nv ns mk va sp lp mc z (xs (i + 1)) hv6 hv7 hv12 hv13 hv14 hv15 hv16 hv17 hv18 (by omega) hg9 (by omega) hF12 hF16 hmk hTI hlo hdd) ?_
    rintro _ σ_87 (⟨rfl, Mhno, hc_76, hf_77⟩ | ⟨r1M, fqM, nvqM, nsqM, mkqM, vaqM, spqM, loqM, mcqM, zqM, rfl, Mhre, Mhrl, MhTI, Mhmc, Mhmk, Mhlo, hc_78, hc_79, hc_80, hc_81, hc_82, hc_83, hc_84, hc_85, hf_86⟩)
    · skip
      refine (?_ : AJ G K Q (kc + 1) (ks + 6) false 296 2323 [some (.ref bS), some (.ref (q_h G + 0)), some (.ref (q_h G + 279)), some (.ref (q_h G + 294)), some (.ref (q_h G + 295)), some (.int (nI (i))), some (.int (nI (1))), none, none] [.double (0)] σ_87)
      have hc_76 : σ_87 279 = o11 G (upd F 7 (nI (1))) := hc_76
      have hc_88 : σ_87 0 = o10 G (nI (il)) (z2) (z3) := (hf_77 0 (by decide)).trans hv0
      have hc_89 : σ_87 1 = q_an G 600 f := (hf_77 1 (by decide)).trans hv1
      have hc_90 : σ_87 23 = o5 G (23) (nI (lo)) := (hf_77 23 (by decide)).trans hv2
      have hc_91 : σ_87 24 = q_an G 256 o := (hf_77 24 (by decide)).trans hv3
      have hc_92 : σ_87 224 = q_rn G 2 2 (fun j => some (243 + 18 * j)) := (hf_77 224 (by decide)).trans hv4
      have hc_93 : σ_87 225 = q_bn G 2 kp := (hf_77 225 (by decide)).trans hv5
      have hc_94 : σ_87 280 = q_an G 265 g := (hf_77 280 (by decide)).trans hv7
      have hc_95 : σ_87 281 = q_an G 265 wk := (hf_77 281 (by decide)).trans hv8
      have hc_96 : σ_87 282 = q_an G 265 as := (hf_77 282 (by decide)).trans hv9
      have hc_97 : σ_87 283 = q_an G 530 sh := (hf_77 283 (by decide)).trans hv10
      have hc_98 : σ_87 284 = q_an G 2120 a := (hf_77 284 (by decide)).trans hv11
      have hc_99 : σ_87 285 = q_bn G 1681 fb := (hf_77 285 (by decide)).trans hv12
      have hc_100 : σ_87 286 = q_an G 1681 nv := (hf_77 286 (by decide)).trans hv13
      have hc_101 : σ_87 287 = q_an G 1681 ns := (hf_77 287 (by decide)).trans hv14
      have hc_102 : σ_87 288 = q_an G 2000 mk := (hf_77 288 (by decide)).trans hv15
      have hc_103 : σ_87 289 = q_an G 6724 va := (hf_77 289 (by decide)).trans hv16
      have hc_104 : σ_87 290 = q_an G 6724 sp := (hf_77 290 (by decide)).trans hv17
      have hc_105 : σ_87 291 = q_an G 80 lp := (hf_77 291 (by decide)).trans hv18
      have hc_106 : σ_87 292 = q_an G 600 f := (hf_77 292 (by decide)).trans hv19
      have hc_107 : σ_87 293 = q_an G 300 ou := (hf_77 293 (by decide)).trans hv20
      have hc_108 : σ_87 294 = q_ln G 1 oL := (hf_77 294 (by decide)).trans hv21
      have hc_109 : σ_87 295 = q_dn G 1 oD := (hf_77 295 (by decide)).trans hv22
      refine A_dstore hg dL_law_2323 (by decide) (q_c1d rfl) (by simp) ?_
      refine A_eq (ls2 := [some (.ref bS), some (.ref (q_h G + 0)), some (.ref (q_h G + 279)), some (.ref (q_h G + 294)), some (.ref (q_h G + 295)), some (.int (nI (i))), some (.int (nI (1))), some (.double (0)), none]) (st2 := []) (pc2 := 0) rfl rfl ?_
      refine A_aload_n hg dL_law_2325 rfl rfl ?_
      refine A_eV (kc2 := kc + 1) (ks2 := ks + 6) (As := []) (rest := []) hg lk_RL_170 in_X11_thrown se_X11_thrown rfl dL_law_2326 ⟨by decide, by decide⟩ rfl rfl (hfK 1 6 (by decide) (by decide)) hc_76 (by omega) rfl rfl (Nat.le_of_ble_eq_true rfl) (c_X11_thrown G false 296 σ_87 (upd F 7 (nI (1))) hc_76 (by omega)) ?_
      refine A_top (w := .int (nI (1))) (congrArg Value.int rfl) ?_
      refine A_iload hg dL_law_2329 rfl ?_
      refine A_icmp_eqN (tgt := 2336) hg dL_law_2331 (by decide) (by decide) (by decide) (fun c2331 => ?_) (fun c2331 => False.elim (by omega))
      refine A_iload hg dL_law_2336 rfl ?_
      refine A_if_neN (tgt := 2373) hg dL_law_2338 (by decide) (by decide) (fun c2338 => ?_) (fun c2338 => absurd c2338 (by decide))
      refine A_goto (tgt := 3062) hg dL_law_2373 (by decide) ?_
      refine A_drop 6 ?_
      refine A_drop 7 ?_
      refine A_eq (ls2 := [some (.ref bS), some (.ref (q_h G + 0)), some (.ref (q_h G + 279)), some (.ref (q_h G + 294)), some (.ref (q_h G + 295)), some (.int (nI (i))), none, none, none]) (st2 := []) (pc2 := 0) rfl rfl ?_
      refine A_wide (kc2 := kc + 8) (ks2 := ks + 48) (by omega) (by omega) ?_
      exact hnxt _ (iv_mk il z2 z3 f lo o g nx m ps kp sn (upd F 7 (nI (1))) wk as sh a fb nv ns mk va sp lp mc z ss ou oL oD hc_88 hc_89 hc_90 hc_91 hc_92 hc_93 hc_76 hc_94 hc_95 hc_96 hc_97 hc_98 hc_99 hc_100 hc_101 hc_102 hc_103 hc_104 hc_105 hc_106 hc_107 hc_108 hc_109 (x_lj_e (fun i _ _ => (hf_77 i (by omega))) hL) (x_gm_e (fun i _ _ => (hf_77 i (by omega))) hG) (x_mx_e (fun i _ _ => (hf_77 i (by omega))) hM) (x_hi_e (fun i _ _ => (hf_77 i (by omega))) hHi) (x_oj_e (fun i _ _ => (hf_77 i (by omega))) hO) (x_pj_e (fun i _ _ => (hf_77 i (by omega))) hT) (iv_hn (fun i _ _ => (hf_77 i (by omega))) hH) (iv_Sn (fun i _ _ => (hf_77 i (by omega))) hSn) (iv_Kp (fun i _ _ => (hf_77 i (by omega))) hKp) (by omega) hfb (by omega) hou hgd hps hk1 hkss hss hsn hF5 hF6 hF12 hF16 hF21 hF22 hF23 hF33 (by omega) hmk hTI hlo)
    · skip
      refine (?_ : AJ G K Q (kc + 1) (ks + 6) false 296 2323 [some (.ref bS), some (.ref (q_h G + 0)), some (.ref (q_h G + 279)), some (.ref (q_h G + 294)), some (.ref (q_h G + 295)), some (.int (nI (i))), some (.int (nI (1))), none, none] [.double (FP.ddiv (FP.i2d (nI (s_vsum (s_rule g r1M) 1681))) 4655107931631517696)] σ_87)
      have hc_78 : σ_87 279 = o11 G (upd (upd (upd F 7 (nI (0))) 12 (nI (mcqM))) 16 (nI (zqM))) := hc_78
      have hc_110 : σ_87 0 = o10 G (nI (il)) (z2) (z3) := (hf_86 0 (by decide)).trans hv0
      have hc_111 : σ_87 1 = q_an G 600 f := (hf_86 1 (by decide)).trans hv1
      have hc_112 : σ_87 23 = o5 G (23) (nI (lo)) := (hf_86 23 (by decide)).trans hv2
      have hc_113 : σ_87 24 = q_an G 256 o := (hf_86 24 (by decide)).trans hv3
      have hc_114 : σ_87 224 = q_rn G 2 2 (fun j => some (243 + 18 * j)) := (hf_86 224 (by decide)).trans hv4
      have hc_115 : σ_87 225 = q_bn G 2 kp := (hf_86 225 (by decide)).trans hv5
      have hc_116 : σ_87 280 = q_an G 265 g := (hf_86 280 (by decide)).trans hv7
      have hc_117 : σ_87 281 = q_an G 265 wk := (hf_86 281 (by decide)).trans hv8
      have hc_118 : σ_87 282 = q_an G 265 as := (hf_86 282 (by decide)).trans hv9
      have hc_119 : σ_87 283 = q_an G 530 sh := (hf_86 283 (by decide)).trans hv10
      have hc_120 : σ_87 284 = q_an G 2120 a := (hf_86 284 (by decide)).trans hv11
      have hc_121 : σ_87 292 = q_an G 600 f := (hf_86 292 (by decide)).trans hv19
      have hc_122 : σ_87 293 = q_an G 300 ou := (hf_86 293 (by decide)).trans hv20
      have hc_123 : σ_87 294 = q_ln G 1 oL := (hf_86 294 (by decide)).trans hv21
      have hc_124 : σ_87 295 = q_dn G 1 oD := (hf_86 295 (by decide)).trans hv22
      exact (Chxx r1M (by omega) Mhre).elim
set_option maxRecDepth 100000 in
set_option maxHeartbeats 4000000 in
theorem law_c34 (G : GL) (K : KC) (Q : State → Prop) (hh : List (Nat × Nat × Nat × Nat)) (hg : Gd G K RL code 9 ret room_1 hh) (bS L : Nat) (xs : Nat → Int32) (hX : q_scr G K bS L xs) (i kc ks J : Nat) (hi : i + 5 < L) (hL31 : L < 2 ^ 31) (hkc : kc + 8 ≤ 601024) (hks : ks + 48 ≤ 7293034) (σ : Nat → va_E) (hI : iv G σ J) (hJ : J < 512) (hfd : q_fdn) (hdd : q_ddn) (hf2 : q_f2n) (hds : q_dcs) (hnxt : ∀ σ9 : Nat → va_E, iv G σ9 (J + 1) → AJ G K Q (kc + 8) (ks + 48) false 296 3062 [some (.ref bS), some (.ref (q_h G + 0)), some (.ref (q_h G + 279)), some (.ref (q_h G + 294)), some (.ref (q_h G + 295)), some (.int (nI (i))), none, none, none] [] σ9) : AJ G K Q kc ks false 296 2376 [some (.ref bS), some (.ref (q_h G + 0)), some (.ref (q_h G + 279)), some (.ref (q_h G + 294)), some (.ref (q_h G + 295)), some (.int (nI (i))), none, none, none] [] σ := by
  refine iv_el hI ?_
  intro il z2 z3 f lo o g nx m ps kp sn F wk as sh a fb nv ns mk va sp lp mc z ss ou oL oD
  intro hv0 hv1 hv2 hv3 hv4 hv5 hv6 hv7 hv8 hv9 hv10 hv11 hv12 hv13 hv14 hv15 hv16 hv17 hv18 hv19 hv20 hv21 hv22
  intro hL hG hM hHi hO hT hH hSn hKp
  intro hil hfb hlo2 hou hgd hps hk1 hkss hss hsn hF5 hF6 hF12 hF16 hF21 hF22 hF23 hF33 hmc hmk hTI hlo
  have hfK : ∀ a b : Nat, a ≤ 8 → b ≤ 48 → kc + a ≤ room_1.cells ∧ ks + b ≤ room_1.slots := fun a b h1 h2 => ⟨by show kc + a ≤ 601024; omega, by show ks + b ≤ 7293034; omega⟩
  have hg9 := iv_g hG
  obtain ⟨hnx8, hm8, hc78⟩ := iv_hi hHi
  have hbb := iv_byte (m := il) hfb
  have hg90 := hg9.1
  have hg96 := hg9.2.2.2.2.1
  have hnp8 := s_np_le hg9
  refine A_aload_n hg dL_law_2376 rfl rfl ?_
  refine A_aload_n hg dL_law_2377 rfl rfl ?_
  refine A_iload hg dL_law_2378 rfl ?_
  refine A_iconst (v := (nI (1))) hg dL_law_2380 (by decide) ?_
  refine A_iaddN hg dL_law_2381 ?_
  refine A_sld hg hX (i + 1) (by omega) dL_law_2382 ?_
  refine A_aload_n hg dL_law_2383 rfl rfl ?_
  refine A_iload hg dL_law_2384 rfl ?_
  refine A_iconst (v := (nI (2))) hg dL_law_2386 (by decide) ?_
  refine A_iaddN hg dL_law_2387 ?_
  refine A_sld hg hX (i + 2) (by omega) dL_law_2388 ?_
  refine A_aload_n hg dL_law_2389 rfl rfl ?_
  refine A_iload hg dL_law_2390 rfl ?_
  refine A_iconst (v := (nI (3))) hg dL_law_2392 (by decide) ?_
  refine A_iaddN hg dL_law_2393 ?_
  refine A_sld hg hX (i + 3) (by omega) dL_law_2394 ?_
  refine A_aload_n hg dL_law_2395 rfl rfl ?_
  refine A_callSH (As := [.ref (q_h G + 0), .int (xs (i + 1)), .int (xs (i + 2)), .int (xs (i + 3)), .ref (q_h G + 294)]) (rest := []) hg lkH_263 stH_L_move dL_law_2396 ⟨by decide, by decide⟩ (hfK 2 12 (by decide) (by decide)) rfl rfl (Nat.le_of_ble_eq_true rfl) (c_L_move G 296 σ (nI (il)) z2 z3 g nx m ps (xs (i + 1)) (xs (i + 2)) (xs (i + 3)) oL hv0 hv21 (by omega) hG hM hHi (by omega)) ?_
  rintro _ σ_1 (⟨p1C, a1C, b1C, rfl, Chpe, Chpl, Chke, Chle, Chrf, ChG2, ChHi2, ChM2, hc_2, hf_3⟩ | ⟨rfl, Chxx, he_4⟩ | ⟨rfl, Chxx, he_5⟩)
  · skip
    refine (?_ : AJ G K Q (kc + 2) (ks + 12) false 296 2399 [some (.ref bS), some (.ref (q_h G + 0)), some (.ref (q_h G + 279)), some (.ref (q_h G + 294)), some (.ref (q_h G + 295)), some (.int (nI (i))), none, none, none] [.int (nI (0))] σ_1)
    have hc_6 : σ_1 0 = o10 G (nI (il)) (z2) (z3) := (hf_3 0 (by decide)).trans hv0
    have hc_7 : σ_1 1 = q_an G 600 f := (hf_3 1 (by decide)).trans hv1
    have hc_8 : σ_1 23 = o5 G (23) (nI (lo)) := (hf_3 23 (by decide)).trans hv2
    have hc_9 : σ_1 24 = q_an G 256 o := (hf_3 24 (by decide)).trans hv3
    have hc_10 : σ_1 224 = q_rn G 2 2 (fun j => some (243 + 18 * j)) := (hf_3 224 (by decide)).trans hv4
    have hc_11 : σ_1 225 = q_bn G 2 kp := (hf_3 225 (by decide)).trans hv5
    have hc_12 : σ_1 279 = o11 G F := (hf_3 279 (by decide)).trans hv6
    have hc_13 : σ_1 280 = q_an G 265 g := (hf_3 280 (by decide)).trans hv7
    have hc_14 : σ_1 281 = q_an G 265 wk := (hf_3 281 (by decide)).trans hv8
    have hc_15 : σ_1 282 = q_an G 265 as := (hf_3 282 (by decide)).trans hv9
    have hc_16 : σ_1 283 = q_an G 530 sh := (hf_3 283 (by decide)).trans hv10
    have hc_17 : σ_1 284 = q_an G 2120 a := (hf_3 284 (by decide)).trans hv11
    have hc_18 : σ_1 285 = q_bn G 1681 fb := (hf_3 285 (by decide)).trans hv12
    have hc_19 : σ_1 286 = q_an G 1681 nv := (hf_3 286 (by decide)).trans hv13
    have hc_20 : σ_1 287 = q_an G 1681 ns := (hf_3 287 (by decide)).trans hv14
    have hc_21 : σ_1 288 = q_an G 2000 mk := (hf_3 288 (by decide)).trans hv15
    have hc_22 : σ_1 289 = q_an G 6724 va := (hf_3 289 (by decide)).trans hv16
    have hc_23 : σ_1 290 = q_an G 6724 sp := (hf_3 290 (by decide)).trans hv17
    have hc_24 : σ_1 291 = q_an G 80 lp := (hf_3 291 (by decide)).trans hv18
    have hc_25 : σ_1 292 = q_an G 600 f := (hf_3 292 (by decide)).trans hv19
    have hc_26 : σ_1 293 = q_an G 300 ou := (hf_3 293 (by decide)).trans hv20
    have hc_27 : σ_1 295 = q_dn G 1 oD := (hf_3 295 (by decide)).trans hv22
    refine A_istore hg dL_law_2399 (by decide) (q_c1d rfl) ?_
    refine A_eq (ls2 := [some (.ref bS), some (.ref (q_h G + 0)), some (.ref (q_h G + 279)), some (.ref (q_h G + 294)), some (.ref (q_h G + 295)), some (.int (nI (i))), some (.int (nI (0))), none, none]) (st2 := []) (pc2 := 0) rfl rfl ?_
    refine A_aload_n hg dL_law_2401 rfl rfl ?_
    refine A_aload_n hg dL_law_2402 rfl rfl ?_
    refine A_iload hg dL_law_2403 rfl ?_
    refine A_iconst (v := (nI (1))) hg dL_law_2405 (by decide) ?_
    refine A_iaddN hg dL_law_2406 ?_
    refine A_sld hg hX (i + 1) (by omega) dL_law_2407 ?_
    refine A_aload_n hg dL_law_2408 rfl rfl ?_
    refine A_iload hg dL_law_2409 rfl ?_
    refine A_iconst (v := (nI (2))) hg dL_law_2411 (by decide) ?_
    refine A_iaddN hg dL_law_2412 ?_
    refine A_sld hg hX (i + 2) (by omega) dL_law_2413 ?_
    refine A_aload_n hg dL_law_2414 rfl rfl ?_
    refine A_iload hg dL_law_2415 rfl ?_
    refine A_iconst (v := (nI (3))) hg dL_law_2417 (by decide) ?_
    refine A_iaddN hg dL_law_2418 ?_
    refine A_sld hg hX (i + 3) (by omega) dL_law_2419 ?_
    refine A_hV (kc2 := kc + 2) (ks2 := ks + 12) (As := [.int (xs (i + 1)), .int (xs (i + 2)), .int (xs (i + 3))]) (rest := []) hg lk_RL_265 in_X11_move se_X11_move rfl dL_law_2420 ⟨by decide, by decide⟩ rfl rfl (hfK 2 12 (by decide) (by decide)) hc_12 (by omega) rfl rfl (Nat.le_of_ble_eq_true rfl) (c_X11_move G false 296 σ_1 F g fb nv ns mk va sp lp mc z a m (xs (i + 1)) (xs (i + 2)) (xs (i + 3)) hc_12 hc_13 hc_17 hc_18 hc_19 hc_20 hc_21 hc_22 hc_23 hc_24 (by omega) hg9 (by omega) hF12 hF16 hmk hTI hlo hF5 (by omega)) ?_
    rintro _ σ_43 (⟨rfl, Mhno, hc_28, hf_29⟩ | ⟨p1M, rfl, Mhpe, Mhpl, Mhrf, hc_30, hf_31⟩ | ⟨p1M, a1M, b1M, fqM, nvqM, nsqM, mkqM, vaqM, spqM, loqM, mcqM, zqM, aqM, q1M, q2M, q3M, rfl, Mhpe, Mhpl, Mhke, Mhle, Mhrf, MhTI, Mhmc, Mhmk, Mhlo, Mhnew, Mhold, hc_32, hc_33, hc_34, hc_35, hc_36, hc_37, hc_38, hc_39, hc_40, hc_41, hf_42⟩)
    · skip
      refine (?_ : AJ G K Q (kc + 2) (ks + 12) false 296 2423 [some (.ref bS), some (.ref (q_h G + 0)), some (.ref (q_h G + 279)), some (.ref (q_h G + 294)), some (.ref (q_h G + 295)), some (.int (nI (i))), some (.int (nI (0))), none, none] [.int (nI (0))] σ_43)
      have hc_28 : σ_43 279 = o11 G (upd F 7 (nI (1))) := hc_28
      have hc_44 : σ_43 0 = o10 G (nI (il)) (z2) (z3) := (hf_29 0 (by decide)).trans hc_6
      have hc_45 : σ_43 1 = q_an G 600 f := (hf_29 1 (by decide)).trans hc_7
      have hc_46 : σ_43 23 = o5 G (23) (nI (lo)) := (hf_29 23 (by decide)).trans hc_8
      have hc_47 : σ_43 24 = q_an G 256 o := (hf_29 24 (by decide)).trans hc_9
      have hc_48 : σ_43 224 = q_rn G 2 2 (fun j => some (243 + 18 * j)) := (hf_29 224 (by decide)).trans hc_10
      have hc_49 : σ_43 225 = q_bn G 2 kp := (hf_29 225 (by decide)).trans hc_11
      have hc_50 : σ_43 280 = q_an G 265 g := (hf_29 280 (by decide)).trans hc_13
      have hc_51 : σ_43 281 = q_an G 265 wk := (hf_29 281 (by decide)).trans hc_14
      have hc_52 : σ_43 282 = q_an G 265 as := (hf_29 282 (by decide)).trans hc_15
      have hc_53 : σ_43 283 = q_an G 530 sh := (hf_29 283 (by decide)).trans hc_16
      have hc_54 : σ_43 284 = q_an G 2120 a := (hf_29 284 (by decide)).trans hc_17
      have hc_55 : σ_43 285 = q_bn G 1681 fb := (hf_29 285 (by decide)).trans hc_18
      have hc_56 : σ_43 286 = q_an G 1681 nv := (hf_29 286 (by decide)).trans hc_19
      have hc_57 : σ_43 287 = q_an G 1681 ns := (hf_29 287 (by decide)).trans hc_20
      have hc_58 : σ_43 288 = q_an G 2000 mk := (hf_29 288 (by decide)).trans hc_21
      have hc_59 : σ_43 289 = q_an G 6724 va := (hf_29 289 (by decide)).trans hc_22
      have hc_60 : σ_43 290 = q_an G 6724 sp := (hf_29 290 (by decide)).trans hc_23
      have hc_61 : σ_43 291 = q_an G 80 lp := (hf_29 291 (by decide)).trans hc_24
      have hc_62 : σ_43 292 = q_an G 600 f := (hf_29 292 (by decide)).trans hc_25
      have hc_63 : σ_43 293 = q_an G 300 ou := (hf_29 293 (by decide)).trans hc_26
      have hc_64 : σ_43 295 = q_dn G 1 oD := (hf_29 295 (by decide)).trans hc_27
      have hc_65 : σ_43 294 = q_ln G 1 (va_up oL 0 ((nI (s_tot (s_play g p1C a1C b1C))).toInt64)) := (hf_29 294 (by decide)).trans hc_2
      have hrbC := iv_ref Chrf
      have hptC := s_part hg9 Chpl
      exact (Mhno p1C (by omega) Chpe).elim
    · skip
      refine (?_ : AJ G K Q (kc + 2) (ks + 12) false 296 2423 [some (.ref bS), some (.ref (q_h G + 0)), some (.ref (q_h G + 279)), some (.ref (q_h G + 294)), some (.ref (q_h G + 295)), some (.int (nI (i))), some (.int (nI (0))), none, none] [.int (nI (0))] σ_43)
      have hc_30 : σ_43 279 = o11 G (upd F 7 (nI (2))) := hc_30
      have hc_66 : σ_43 0 = o10 G (nI (il)) (z2) (z3) := (hf_31 0 (by decide)).trans hc_6
      have hc_67 : σ_43 1 = q_an G 600 f := (hf_31 1 (by decide)).trans hc_7
      have hc_68 : σ_43 23 = o5 G (23) (nI (lo)) := (hf_31 23 (by decide)).trans hc_8
      have hc_69 : σ_43 24 = q_an G 256 o := (hf_31 24 (by decide)).trans hc_9
      have hc_70 : σ_43 224 = q_rn G 2 2 (fun j => some (243 + 18 * j)) := (hf_31 224 (by decide)).trans hc_10
      have hc_71 : σ_43 225 = q_bn G 2 kp := (hf_31 225 (by decide)).trans hc_11
      have hc_72 : σ_43 280 = q_an G 265 g := (hf_31 280 (by decide)).trans hc_13
      have hc_73 : σ_43 281 = q_an G 265 wk := (hf_31 281 (by decide)).trans hc_14
      have hc_74 : σ_43 282 = q_an G 265 as := (hf_31 282 (by decide)).trans hc_15
      have hc_75 : σ_43 283 = q_an G 530 sh := (hf_31 283 (by decide)).trans hc_16
      have hc_76 : σ_43 284 = q_an G 2120 a := (hf_31 284 (by decide)).trans hc_17
      have hc_77 : σ_43 285 = q_bn G 1681 fb := (hf_31 285 (by decide)).trans hc_18
      have hc_78 : σ_43 286 = q_an G 1681 nv := (hf_31 286 (by decide)).trans hc_19
      have hc_79 : σ_43 287 = q_an G 1681 ns := (hf_31 287 (by decide)).trans hc_20
      have hc_80 : σ_43 288 = q_an G 2000 mk := (hf_31 288 (by decide)).trans hc_21
      have hc_81 : σ_43 289 = q_an G 6724 va := (hf_31 289 (by decide)).trans hc_22
      have hc_82 : σ_43 290 = q_an G 6724 sp := (hf_31 290 (by decide)).trans hc_23
      have hc_83 : σ_43 291 = q_an G 80 lp := (hf_31 291 (by decide)).trans hc_24
      have hc_84 : σ_43 292 = q_an G 600 f := (hf_31 292 (by decide)).trans hc_25
      have hc_85 : σ_43 293 = q_an G 300 ou := (hf_31 293 (by decide)).trans hc_26
      have hc_86 : σ_43 295 = q_dn G 1 oD := (hf_31 295 (by decide)).trans hc_27
      have hc_87 : σ_43 294 = q_ln G 1 (va_up oL 0 ((nI (s_tot (s_play g p1C a1C b1C))).toInt64)) := (hf_31 294 (by decide)).trans hc_2
      have hrbC := iv_ref Chrf
      have hptC := s_part hg9 Chpl
      have e_p : p1C = p1M := q_nI_inj (by omega) (by omega) (Chpe.symm.trans Mhpe)
      subst e_p
      exact (iv_refI Chke Chle (by omega) (by omega) Chrf Mhrf).elim
    · skip
      refine (?_ : AJ G K Q (kc + 2) (ks + 12) false 296 2423 [some (.ref bS), some (.ref (q_h G + 0)), some (.ref (q_h G + 279)), some (.ref (q_h G + 294)), some (.ref (q_h G + 295)), some (.int (nI (i))), some (.int (nI (0))), none, none] [.int (nI (s_tot (s_play g p1M a1M b1M)))] σ_43)
      have hc_32 : σ_43 279 = o11 G (upd (upd (upd (upd (upd (upd (upd F 5 (nI (s_pmany m + 1))) 7 (nI (0))) 12 (nI (mcqM))) 16 (nI (zqM))) 17 (q1M)) 18 (q2M)) 19 (q3M)) := hc_32
      have hc_88 : σ_43 0 = o10 G (nI (il)) (z2) (z3) := (hf_42 0 (by decide)).trans hc_6
      have hc_89 : σ_43 1 = q_an G 600 f := (hf_42 1 (by decide)).trans hc_7
      have hc_90 : σ_43 23 = o5 G (23) (nI (lo)) := (hf_42 23 (by decide)).trans hc_8
      have hc_91 : σ_43 24 = q_an G 256 o := (hf_42 24 (by decide)).trans hc_9
      have hc_92 : σ_43 224 = q_rn G 2 2 (fun j => some (243 + 18 * j)) := (hf_42 224 (by decide)).trans hc_10
      have hc_93 : σ_43 225 = q_bn G 2 kp := (hf_42 225 (by decide)).trans hc_11
      have hc_94 : σ_43 281 = q_an G 265 wk := (hf_42 281 (by decide)).trans hc_14
      have hc_95 : σ_43 282 = q_an G 265 as := (hf_42 282 (by decide)).trans hc_15
      have hc_96 : σ_43 283 = q_an G 530 sh := (hf_42 283 (by decide)).trans hc_16
      have hc_97 : σ_43 292 = q_an G 600 f := (hf_42 292 (by decide)).trans hc_25
      have hc_98 : σ_43 293 = q_an G 300 ou := (hf_42 293 (by decide)).trans hc_26
      have hc_99 : σ_43 295 = q_dn G 1 oD := (hf_42 295 (by decide)).trans hc_27
      have hc_100 : σ_43 294 = q_ln G 1 (va_up oL 0 ((nI (s_tot (s_play g p1C a1C b1C))).toInt64)) := (hf_42 294 (by decide)).trans hc_2
      have hrbC := iv_ref Chrf
      have hptC := s_part hg9 Chpl
      have hrbM := iv_ref Mhrf
      have hptM := s_part hg9 Mhpl
      have e_p : p1C = p1M := q_nI_inj (by omega) (by omega) (Chpe.symm.trans Mhpe)
      subst e_p
      have e_k : a1C = a1M := q_nI_inj (by omega) (by omega) (Chke.symm.trans Mhke)
      subst e_k
      have e_l : b1C = b1M := q_nI_inj (by omega) (by omega) (Chle.symm.trans Mhle)
      subst e_l
      refine A_istore hg dL_law_2423 (by decide) (q_c1d rfl) ?_
      refine A_eq (ls2 := [some (.ref bS), some (.ref (q_h G + 0)), some (.ref (q_h G + 279)), some (.ref (q_h G + 294)), some (.ref (q_h G + 295)), some (.int (nI (i))), some (.int (nI (0))), some (.int (nI (s_tot (s_play g p1C a1C b1C)))), none]) (st2 := []) (pc2 := 0) rfl rfl ?_
      refine A_aload_n hg dL_law_2425 rfl rfl ?_
      refine A_eV (kc2 := kc + 2) (ks2 := ks + 12) (As := []) (rest := []) hg lk_RL_170 in_X11_thrown se_X11_thrown rfl dL_law_2426 ⟨by decide, by decide⟩ rfl rfl (hfK 2 12 (by decide) (by decide)) hc_32 (by omega) rfl rfl (Nat.le_of_ble_eq_true rfl) (c_X11_thrown G false 296 σ_43 (upd (upd (upd (upd (upd (upd (upd F 5 (nI (s_pmany m + 1))) 7 (nI (0))) 12 (nI (mcqM))) 16 (nI (zqM))) 17 (q1M)) 18 (q2M)) 19 (q3M)) hc_32 (by omega)) ?_
      refine A_top (w := .int (nI (0))) (congrArg Value.int rfl) ?_
      refine A_iload hg dL_law_2429 rfl ?_
      refine A_icmp_eqN (tgt := 2436) hg dL_law_2431 (by decide) (by decide) (by decide) (fun c2431 => ?_) (fun c2431 => False.elim (by omega))
      refine A_iload hg dL_law_2436 rfl ?_
      refine A_if_neN (tgt := 2453) hg dL_law_2438 (by decide) (by decide) (fun c2438 => absurd (by decide) c2438) (fun c2438 => ?_)
      refine A_aload_n hg dL_law_2441 rfl rfl ?_
      refine A_iconst (v := (nI (0))) hg dL_law_2442 (by decide) ?_
      refine A_lald (j := 0) hg dL_law_2443 hc_100 (by omega) (by decide) (by decide) ?_
      refine A_top (w := .long ((nI (s_tot (s_play g p1C a1C b1C))).toInt64)) (congrArg Value.long iv_up0) ?_
      refine A_iload hg dL_law_2444 rfl ?_
      refine A_i2l (v := (nI (s_tot (s_play g p1C a1C b1C))).toInt64) hg dL_law_2446 rfl ?_
      refine A_lcmp hg dL_law_2447 ?_
      refine A_top (w := .int (nI 0)) (congrArg Value.int (lc_self _)) ?_
      refine A_if_eqN (tgt := 2453) hg dL_law_2448 (by decide) (by decide) (fun c2448 => ?_) (fun c2448 => absurd (by decide) c2448)
      refine A_goto (tgt := 3062) hg dL_law_2453 (by decide) ?_
      refine A_drop 6 ?_
      refine A_drop 7 ?_
      refine A_eq (ls2 := [some (.ref bS), some (.ref (q_h G + 0)), some (.ref (q_h G + 279)), some (.ref (q_h G + 294)), some (.ref (q_h G + 295)), some (.int (nI (i))), none, none, none]) (st2 := []) (pc2 := 0) rfl rfl ?_
      refine A_wide (kc2 := kc + 8) (ks2 := ks + 48) (by omega) (by omega) ?_
      exact hnxt _ (iv_mk il z2 z3 f lo o (s_play g p1C a1C b1C) ((nx + 1) % 8) (min (m + 1) 8) (x_psh m ps g) kp sn (upd (upd (upd (upd (upd (upd (upd F 5 (nI (s_pmany m + 1))) 7 (nI (0))) 12 (nI (mcqM))) 16 (nI (zqM))) 17 (q1M)) 18 (q2M)) 19 (q3M)) wk as sh aqM fqM nvqM nsqM mkqM vaqM spqM loqM mcqM zqM ss ou (va_up oL 0 ((nI (s_tot (s_play g p1C a1C b1C))).toInt64)) oD hc_88 hc_89 hc_90 hc_91 hc_92 hc_93 hc_32 hc_33 hc_94 hc_95 hc_96 hc_34 hc_35 hc_36 hc_37 hc_38 hc_39 hc_40 hc_41 hc_97 hc_98 hc_100 hc_99 (x_lj_e (fun i _ _ => ((hf_42 i (by omega)).trans (hf_3 i (by omega)))) hL) (x_gm_e (fun i _ _ => (hf_42 i (by omega))) ChG2) (x_mx_e (fun i _ _ => (hf_42 i (by omega))) ChM2) (x_hi_e (fun i _ _ => (hf_42 i (by omega))) ChHi2) (x_oj_e (fun i _ _ => ((hf_42 i (by omega)).trans (hf_3 i (by omega)))) hO) (x_pj_e (fun i _ _ => ((hf_42 i (by omega)).trans (hf_3 i (by omega)))) hT) (iv_hn (fun i _ _ => ((hf_42 i (by omega)).trans (hf_3 i (by omega)))) hH) (iv_Sn (fun i _ _ => ((hf_42 i (by omega)).trans (hf_3 i (by omega)))) hSn) (iv_Kp (fun i _ _ => ((hf_42 i (by omega)).trans (hf_3 i (by omega)))) hKp) (by omega) hfb (by omega) hou (x_gbd_play hg9 Chpl hgd) (iv_push hm8 hgd hps Mhnew Mhold) hk1 hkss hss hsn (congrArg nI (iv_pm hm8)) hF6 rfl rfl hF21 hF22 hF23 hF33 (by omega) Mhmk MhTI Mhlo)
  · skip
    rw [he_4]
    refine (?_ : AJ G K Q (kc + 2) (ks + 12) false 296 2399 [some (.ref bS), some (.ref (q_h G + 0)), some (.ref (q_h G + 279)), some (.ref (q_h G + 294)), some (.ref (q_h G + 295)), some (.int (nI (i))), none, none, none] [.int (nI (1))] σ)
    refine A_istore hg dL_law_2399 (by decide) (q_c1d rfl) ?_
    refine A_eq (ls2 := [some (.ref bS), some (.ref (q_h G + 0)), some (.ref (q_h G + 279)), some (.ref (q_h G + 294)), some (.ref (q_h G + 295)), some (.int (nI (i))), some (.int (nI (1))), none, none]) (st2 := []) (pc2 := 0) rfl rfl ?_
    refine A_aload_n hg dL_law_2401 rfl rfl ?_
    refine A_aload_n hg dL_law_2402 rfl rfl ?_
    refine A_iload hg dL_law_2403 rfl ?_
    refine A_iconst (v := (nI (1))) hg dL_law_2405 (by decide) ?_
    refine A_iaddN hg dL_law_2406 ?_
    refine A_sld hg hX (i + 1) (by omega) dL_law_2407 ?_
    refine A_aload_n hg dL_law_2408 rfl rfl ?_
    refine A_iload hg dL_law_2409 rfl ?_
    refine A_iconst (v := (nI (2))) hg dL_law_2411 (by decide) ?_
    refine A_iaddN hg dL_law_2412 ?_
    refine A_sld hg hX (i + 2) (by omega) dL_law_2413 ?_
    refine A_aload_n hg dL_law_2414 rfl rfl ?_
    refine A_iload hg dL_law_2415 rfl ?_
    refine A_iconst (v := (nI (3))) hg dL_law_2417 (by decide) ?_
    refine A_iaddN hg dL_law_2418 ?_
    refine A_sld hg hX (i + 3) (by omega) dL_law_2419 ?_
    refine A_hV (kc2 := kc + 2) (ks2 := ks + 12) (As := [.int (xs (i + 1)), .int (xs (i + 2)), .int (xs (i + 3))]) (rest := []) hg lk_RL_265 in_X11_move se_X11_move rfl dL_law_2420 ⟨by decide, by decide⟩ rfl rfl (hfK 2 12 (by decide) (by decide)) hv6 (by omega) rfl rfl (Nat.le_of_ble_eq_true rfl) (c_X11_move G false 296 σ F g fb nv ns mk va sp lp mc z a m (xs (i + 1)) (xs (i + 2)) (xs (i + 3)) hv6 hv7 hv11 hv12 hv13 hv14 hv15 hv16 hv17 hv18 (by omega) hg9 (by omega) hF12 hF16 hmk hTI hlo hF5 (by omega)) ?_
    rintro _ σ_116 (⟨rfl, Mhno, hc_101, hf_102⟩ | ⟨p1M, rfl, Mhpe, Mhpl, Mhrf, hc_103, hf_104⟩ | ⟨p1M, a1M, b1M, fqM, nvqM, nsqM, mkqM, vaqM, spqM, loqM, mcqM, zqM, aqM, q1M, q2M, q3M, rfl, Mhpe, Mhpl, Mhke, Mhle, Mhrf, MhTI, Mhmc, Mhmk, Mhlo, Mhnew, Mhold, hc_105, hc_106, hc_107, hc_108, hc_109, hc_110, hc_111, hc_112, hc_113, hc_114, hf_115⟩)
    · skip
      refine (?_ : AJ G K Q (kc + 2) (ks + 12) false 296 2423 [some (.ref bS), some (.ref (q_h G + 0)), some (.ref (q_h G + 279)), some (.ref (q_h G + 294)), some (.ref (q_h G + 295)), some (.int (nI (i))), some (.int (nI (1))), none, none] [.int (nI (0))] σ_116)
      have hc_101 : σ_116 279 = o11 G (upd F 7 (nI (1))) := hc_101
      have hc_117 : σ_116 0 = o10 G (nI (il)) (z2) (z3) := (hf_102 0 (by decide)).trans hv0
      have hc_118 : σ_116 1 = q_an G 600 f := (hf_102 1 (by decide)).trans hv1
      have hc_119 : σ_116 23 = o5 G (23) (nI (lo)) := (hf_102 23 (by decide)).trans hv2
      have hc_120 : σ_116 24 = q_an G 256 o := (hf_102 24 (by decide)).trans hv3
      have hc_121 : σ_116 224 = q_rn G 2 2 (fun j => some (243 + 18 * j)) := (hf_102 224 (by decide)).trans hv4
      have hc_122 : σ_116 225 = q_bn G 2 kp := (hf_102 225 (by decide)).trans hv5
      have hc_123 : σ_116 280 = q_an G 265 g := (hf_102 280 (by decide)).trans hv7
      have hc_124 : σ_116 281 = q_an G 265 wk := (hf_102 281 (by decide)).trans hv8
      have hc_125 : σ_116 282 = q_an G 265 as := (hf_102 282 (by decide)).trans hv9
      have hc_126 : σ_116 283 = q_an G 530 sh := (hf_102 283 (by decide)).trans hv10
      have hc_127 : σ_116 284 = q_an G 2120 a := (hf_102 284 (by decide)).trans hv11
      have hc_128 : σ_116 285 = q_bn G 1681 fb := (hf_102 285 (by decide)).trans hv12
      have hc_129 : σ_116 286 = q_an G 1681 nv := (hf_102 286 (by decide)).trans hv13
      have hc_130 : σ_116 287 = q_an G 1681 ns := (hf_102 287 (by decide)).trans hv14
      have hc_131 : σ_116 288 = q_an G 2000 mk := (hf_102 288 (by decide)).trans hv15
      have hc_132 : σ_116 289 = q_an G 6724 va := (hf_102 289 (by decide)).trans hv16
      have hc_133 : σ_116 290 = q_an G 6724 sp := (hf_102 290 (by decide)).trans hv17
      have hc_134 : σ_116 291 = q_an G 80 lp := (hf_102 291 (by decide)).trans hv18
      have hc_135 : σ_116 292 = q_an G 600 f := (hf_102 292 (by decide)).trans hv19
      have hc_136 : σ_116 293 = q_an G 300 ou := (hf_102 293 (by decide)).trans hv20
      have hc_137 : σ_116 294 = q_ln G 1 oL := (hf_102 294 (by decide)).trans hv21
      have hc_138 : σ_116 295 = q_dn G 1 oD := (hf_102 295 (by decide)).trans hv22
      refine A_istore hg dL_law_2423 (by decide) (q_c1d rfl) ?_
      refine A_eq (ls2 := [some (.ref bS), some (.ref (q_h G + 0)), some (.ref (q_h G + 279)), some (.ref (q_h G + 294)), some (.ref (q_h G + 295)), some (.int (nI (i))), some (.int (nI (1))), some (.int (nI (0))), none]) (st2 := []) (pc2 := 0) rfl rfl ?_
      refine A_aload_n hg dL_law_2425 rfl rfl ?_
      refine A_eV (kc2 := kc + 2) (ks2 := ks + 12) (As := []) (rest := []) hg lk_RL_170 in_X11_thrown se_X11_thrown rfl dL_law_2426 ⟨by decide, by decide⟩ rfl rfl (hfK 2 12 (by decide) (by decide)) hc_101 (by omega) rfl rfl (Nat.le_of_ble_eq_true rfl) (c_X11_thrown G false 296 σ_116 (upd F 7 (nI (1))) hc_101 (by omega)) ?_
      refine A_top (w := .int (nI (1))) (congrArg Value.int rfl) ?_
      refine A_iload hg dL_law_2429 rfl ?_
      refine A_icmp_eqN (tgt := 2436) hg dL_law_2431 (by decide) (by decide) (by decide) (fun c2431 => ?_) (fun c2431 => False.elim (by omega))
      refine A_iload hg dL_law_2436 rfl ?_
      refine A_if_neN (tgt := 2453) hg dL_law_2438 (by decide) (by decide) (fun c2438 => ?_) (fun c2438 => absurd c2438 (by decide))
      refine A_goto (tgt := 3062) hg dL_law_2453 (by decide) ?_
      refine A_drop 6 ?_
      refine A_drop 7 ?_
      refine A_eq (ls2 := [some (.ref bS), some (.ref (q_h G + 0)), some (.ref (q_h G + 279)), some (.ref (q_h G + 294)), some (.ref (q_h G + 295)), some (.int (nI (i))), none, none, none]) (st2 := []) (pc2 := 0) rfl rfl ?_
      refine A_wide (kc2 := kc + 8) (ks2 := ks + 48) (by omega) (by omega) ?_
      exact hnxt _ (iv_mk il z2 z3 f lo o g nx m ps kp sn (upd F 7 (nI (1))) wk as sh a fb nv ns mk va sp lp mc z ss ou oL oD hc_117 hc_118 hc_119 hc_120 hc_121 hc_122 hc_101 hc_123 hc_124 hc_125 hc_126 hc_127 hc_128 hc_129 hc_130 hc_131 hc_132 hc_133 hc_134 hc_135 hc_136 hc_137 hc_138 (x_lj_e (fun i _ _ => (hf_102 i (by omega))) hL) (x_gm_e (fun i _ _ => (hf_102 i (by omega))) hG) (x_mx_e (fun i _ _ => (hf_102 i (by omega))) hM) (x_hi_e (fun i _ _ => (hf_102 i (by omega))) hHi) (x_oj_e (fun i _ _ => (hf_102 i (by omega))) hO) (x_pj_e (fun i _ _ => (hf_102 i (by omega))) hT) (iv_hn (fun i _ _ => (hf_102 i (by omega))) hH) (iv_Sn (fun i _ _ => (hf_102 i (by omega))) hSn) (iv_Kp (fun i _ _ => (hf_102 i (by omega))) hKp) (by omega) hfb (by omega) hou hgd hps hk1 hkss hss hsn hF5 hF6 hF12 hF16 hF21 hF22 hF23 hF33 (by omega) hmk hTI hlo)
    · skip
      refine (?_ : AJ G K Q (kc + 2) (ks + 12) false 296 2423 [some (.ref bS), some (.ref (q_h G + 0)), some (.ref (q_h G + 279)), some (.ref (q_h G + 294)), some (.ref (q_h G + 295)), some (.int (nI (i))), some (.int (nI (1))), none, none] [.int (nI (0))] σ_116)
      have hc_103 : σ_116 279 = o11 G (upd F 7 (nI (2))) := hc_103
      have hc_139 : σ_116 0 = o10 G (nI (il)) (z2) (z3) := (hf_104 0 (by decide)).trans hv0
      have hc_140 : σ_116 1 = q_an G 600 f := (hf_104 1 (by decide)).trans hv1
      have hc_141 : σ_116 23 = o5 G (23) (nI (lo)) := (hf_104 23 (by decide)).trans hv2
      have hc_142 : σ_116 24 = q_an G 256 o := (hf_104 24 (by decide)).trans hv3
      have hc_143 : σ_116 224 = q_rn G 2 2 (fun j => some (243 + 18 * j)) := (hf_104 224 (by decide)).trans hv4
      have hc_144 : σ_116 225 = q_bn G 2 kp := (hf_104 225 (by decide)).trans hv5
      have hc_145 : σ_116 280 = q_an G 265 g := (hf_104 280 (by decide)).trans hv7
      have hc_146 : σ_116 281 = q_an G 265 wk := (hf_104 281 (by decide)).trans hv8
      have hc_147 : σ_116 282 = q_an G 265 as := (hf_104 282 (by decide)).trans hv9
      have hc_148 : σ_116 283 = q_an G 530 sh := (hf_104 283 (by decide)).trans hv10
      have hc_149 : σ_116 284 = q_an G 2120 a := (hf_104 284 (by decide)).trans hv11
      have hc_150 : σ_116 285 = q_bn G 1681 fb := (hf_104 285 (by decide)).trans hv12
      have hc_151 : σ_116 286 = q_an G 1681 nv := (hf_104 286 (by decide)).trans hv13
      have hc_152 : σ_116 287 = q_an G 1681 ns := (hf_104 287 (by decide)).trans hv14
      have hc_153 : σ_116 288 = q_an G 2000 mk := (hf_104 288 (by decide)).trans hv15
      have hc_154 : σ_116 289 = q_an G 6724 va := (hf_104 289 (by decide)).trans hv16
      have hc_155 : σ_116 290 = q_an G 6724 sp := (hf_104 290 (by decide)).trans hv17
      have hc_156 : σ_116 291 = q_an G 80 lp := (hf_104 291 (by decide)).trans hv18
      have hc_157 : σ_116 292 = q_an G 600 f := (hf_104 292 (by decide)).trans hv19
      have hc_158 : σ_116 293 = q_an G 300 ou := (hf_104 293 (by decide)).trans hv20
      have hc_159 : σ_116 294 = q_ln G 1 oL := (hf_104 294 (by decide)).trans hv21
      have hc_160 : σ_116 295 = q_dn G 1 oD := (hf_104 295 (by decide)).trans hv22
      exact (Chxx p1M (by omega) Mhpe).elim
    · skip
      refine (?_ : AJ G K Q (kc + 2) (ks + 12) false 296 2423 [some (.ref bS), some (.ref (q_h G + 0)), some (.ref (q_h G + 279)), some (.ref (q_h G + 294)), some (.ref (q_h G + 295)), some (.int (nI (i))), some (.int (nI (1))), none, none] [.int (nI (s_tot (s_play g p1M a1M b1M)))] σ_116)
      have hc_105 : σ_116 279 = o11 G (upd (upd (upd (upd (upd (upd (upd F 5 (nI (s_pmany m + 1))) 7 (nI (0))) 12 (nI (mcqM))) 16 (nI (zqM))) 17 (q1M)) 18 (q2M)) 19 (q3M)) := hc_105
      have hc_161 : σ_116 0 = o10 G (nI (il)) (z2) (z3) := (hf_115 0 (by decide)).trans hv0
      have hc_162 : σ_116 1 = q_an G 600 f := (hf_115 1 (by decide)).trans hv1
      have hc_163 : σ_116 23 = o5 G (23) (nI (lo)) := (hf_115 23 (by decide)).trans hv2
      have hc_164 : σ_116 24 = q_an G 256 o := (hf_115 24 (by decide)).trans hv3
      have hc_165 : σ_116 224 = q_rn G 2 2 (fun j => some (243 + 18 * j)) := (hf_115 224 (by decide)).trans hv4
      have hc_166 : σ_116 225 = q_bn G 2 kp := (hf_115 225 (by decide)).trans hv5
      have hc_167 : σ_116 281 = q_an G 265 wk := (hf_115 281 (by decide)).trans hv8
      have hc_168 : σ_116 282 = q_an G 265 as := (hf_115 282 (by decide)).trans hv9
      have hc_169 : σ_116 283 = q_an G 530 sh := (hf_115 283 (by decide)).trans hv10
      have hc_170 : σ_116 292 = q_an G 600 f := (hf_115 292 (by decide)).trans hv19
      have hc_171 : σ_116 293 = q_an G 300 ou := (hf_115 293 (by decide)).trans hv20
      have hc_172 : σ_116 294 = q_ln G 1 oL := (hf_115 294 (by decide)).trans hv21
      have hc_173 : σ_116 295 = q_dn G 1 oD := (hf_115 295 (by decide)).trans hv22
      have hrbM := iv_ref Mhrf
      have hptM := s_part hg9 Mhpl
      exact (Chxx p1M (by omega) Mhpe).elim
  · skip
    rw [he_5]
    refine (?_ : AJ G K Q (kc + 2) (ks + 12) false 296 2399 [some (.ref bS), some (.ref (q_h G + 0)), some (.ref (q_h G + 279)), some (.ref (q_h G + 294)), some (.ref (q_h G + 295)), some (.int (nI (i))), none, none, none] [.int (nI (2))] σ)
    obtain ⟨p1C, Chx0, Chx1, Chx2⟩ := Chxx
    refine A_istore hg dL_law_2399 (by decide) (q_c1d rfl) ?_
    refine A_eq (ls2 := [some (.ref bS), some (.ref (q_h G + 0)), some (.ref (q_h G + 279)), some (.ref (q_h G + 294)), some (.ref (q_h G + 295)), some (.int (nI (i))), some (.int (nI (2))), none, none]) (st2 := []) (pc2 := 0) rfl rfl ?_
    refine A_aload_n hg dL_law_2401 rfl rfl ?_
    refine A_aload_n hg dL_law_2402 rfl rfl ?_
    refine A_iload hg dL_law_2403 rfl ?_
    refine A_iconst (v := (nI (1))) hg dL_law_2405 (by decide) ?_
    refine A_iaddN hg dL_law_2406 ?_
    refine A_sld hg hX (i + 1) (by omega) dL_law_2407 ?_
    refine A_aload_n hg dL_law_2408 rfl rfl ?_
    refine A_iload hg dL_law_2409 rfl ?_
    refine A_iconst (v := (nI (2))) hg dL_law_2411 (by decide) ?_
    refine A_iaddN hg dL_law_2412 ?_
    refine A_sld hg hX (i + 2) (by omega) dL_law_2413 ?_
    refine A_aload_n hg dL_law_2414 rfl rfl ?_
    refine A_iload hg dL_law_2415 rfl ?_
    refine A_iconst (v := (nI (3))) hg dL_law_2417 (by decide) ?_
    refine A_iaddN hg dL_law_2418 ?_
    refine A_sld hg hX (i + 3) (by omega) dL_law_2419 ?_
    refine A_hV (kc2 := kc + 2) (ks2 := ks + 12) (As := [.int (xs (i + 1)), .int (xs (i + 2)), .int (xs (i + 3))]) (rest := []) hg lk_RL_265 in_X11_move se_X11_move rfl dL_law_2420 ⟨by decide, by decide⟩ rfl rfl (hfK 2 12 (by decide) (by decide)) hv6 (by omega) rfl rfl (Nat.le_of_ble_eq_true rfl) (c_X11_move G false 296 σ F g fb nv ns mk va sp lp mc z a m (xs (i + 1)) (xs (i + 2)) (xs (i + 3)) hv6 hv7 hv11 hv12 hv13 hv14 hv15 hv16 hv17 hv18 (by omega) hg9 (by omega) hF12 hF16 hmk hTI hlo hF5 (by omega)) ?_
    rintro _ σ_189 (⟨rfl, Mhno, hc_174, hf_175⟩ | ⟨p1M, rfl, Mhpe, Mhpl, Mhrf, hc_176, hf_177⟩ | ⟨p1M, a1M, b1M, fqM, nvqM, nsqM, mkqM, vaqM, spqM, loqM, mcqM, zqM, aqM, q1M, q2M, q3M, rfl, Mhpe, Mhpl, Mhke, Mhle, Mhrf, MhTI, Mhmc, Mhmk, Mhlo, Mhnew, Mhold, hc_178, hc_179, hc_180, hc_181, hc_182, hc_183, hc_184, hc_185, hc_186, hc_187, hf_188⟩)
    · skip
      refine (?_ : AJ G K Q (kc + 2) (ks + 12) false 296 2423 [some (.ref bS), some (.ref (q_h G + 0)), some (.ref (q_h G + 279)), some (.ref (q_h G + 294)), some (.ref (q_h G + 295)), some (.int (nI (i))), some (.int (nI (2))), none, none] [.int (nI (0))] σ_189)
      have hc_174 : σ_189 279 = o11 G (upd F 7 (nI (1))) := hc_174
      have hc_190 : σ_189 0 = o10 G (nI (il)) (z2) (z3) := (hf_175 0 (by decide)).trans hv0
      have hc_191 : σ_189 1 = q_an G 600 f := (hf_175 1 (by decide)).trans hv1
      have hc_192 : σ_189 23 = o5 G (23) (nI (lo)) := (hf_175 23 (by decide)).trans hv2
      have hc_193 : σ_189 24 = q_an G 256 o := (hf_175 24 (by decide)).trans hv3
      have hc_194 : σ_189 224 = q_rn G 2 2 (fun j => some (243 + 18 * j)) := (hf_175 224 (by decide)).trans hv4
      have hc_195 : σ_189 225 = q_bn G 2 kp := (hf_175 225 (by decide)).trans hv5
      have hc_196 : σ_189 280 = q_an G 265 g := (hf_175 280 (by decide)).trans hv7
      have hc_197 : σ_189 281 = q_an G 265 wk := (hf_175 281 (by decide)).trans hv8
      have hc_198 : σ_189 282 = q_an G 265 as := (hf_175 282 (by decide)).trans hv9
      have hc_199 : σ_189 283 = q_an G 530 sh := (hf_175 283 (by decide)).trans hv10
      have hc_200 : σ_189 284 = q_an G 2120 a := (hf_175 284 (by decide)).trans hv11
      have hc_201 : σ_189 285 = q_bn G 1681 fb := (hf_175 285 (by decide)).trans hv12
      have hc_202 : σ_189 286 = q_an G 1681 nv := (hf_175 286 (by decide)).trans hv13
      have hc_203 : σ_189 287 = q_an G 1681 ns := (hf_175 287 (by decide)).trans hv14
      have hc_204 : σ_189 288 = q_an G 2000 mk := (hf_175 288 (by decide)).trans hv15
      have hc_205 : σ_189 289 = q_an G 6724 va := (hf_175 289 (by decide)).trans hv16
      have hc_206 : σ_189 290 = q_an G 6724 sp := (hf_175 290 (by decide)).trans hv17
      have hc_207 : σ_189 291 = q_an G 80 lp := (hf_175 291 (by decide)).trans hv18
      have hc_208 : σ_189 292 = q_an G 600 f := (hf_175 292 (by decide)).trans hv19
      have hc_209 : σ_189 293 = q_an G 300 ou := (hf_175 293 (by decide)).trans hv20
      have hc_210 : σ_189 294 = q_ln G 1 oL := (hf_175 294 (by decide)).trans hv21
      have hc_211 : σ_189 295 = q_dn G 1 oD := (hf_175 295 (by decide)).trans hv22
      exact (Mhno p1C (by omega) Chx0).elim
    · skip
      refine (?_ : AJ G K Q (kc + 2) (ks + 12) false 296 2423 [some (.ref bS), some (.ref (q_h G + 0)), some (.ref (q_h G + 279)), some (.ref (q_h G + 294)), some (.ref (q_h G + 295)), some (.int (nI (i))), some (.int (nI (2))), none, none] [.int (nI (0))] σ_189)
      have hc_176 : σ_189 279 = o11 G (upd F 7 (nI (2))) := hc_176
      have hc_212 : σ_189 0 = o10 G (nI (il)) (z2) (z3) := (hf_177 0 (by decide)).trans hv0
      have hc_213 : σ_189 1 = q_an G 600 f := (hf_177 1 (by decide)).trans hv1
      have hc_214 : σ_189 23 = o5 G (23) (nI (lo)) := (hf_177 23 (by decide)).trans hv2
      have hc_215 : σ_189 24 = q_an G 256 o := (hf_177 24 (by decide)).trans hv3
      have hc_216 : σ_189 224 = q_rn G 2 2 (fun j => some (243 + 18 * j)) := (hf_177 224 (by decide)).trans hv4
      have hc_217 : σ_189 225 = q_bn G 2 kp := (hf_177 225 (by decide)).trans hv5
      have hc_218 : σ_189 280 = q_an G 265 g := (hf_177 280 (by decide)).trans hv7
      have hc_219 : σ_189 281 = q_an G 265 wk := (hf_177 281 (by decide)).trans hv8
      have hc_220 : σ_189 282 = q_an G 265 as := (hf_177 282 (by decide)).trans hv9
      have hc_221 : σ_189 283 = q_an G 530 sh := (hf_177 283 (by decide)).trans hv10
      have hc_222 : σ_189 284 = q_an G 2120 a := (hf_177 284 (by decide)).trans hv11
      have hc_223 : σ_189 285 = q_bn G 1681 fb := (hf_177 285 (by decide)).trans hv12
      have hc_224 : σ_189 286 = q_an G 1681 nv := (hf_177 286 (by decide)).trans hv13
      have hc_225 : σ_189 287 = q_an G 1681 ns := (hf_177 287 (by decide)).trans hv14
      have hc_226 : σ_189 288 = q_an G 2000 mk := (hf_177 288 (by decide)).trans hv15
      have hc_227 : σ_189 289 = q_an G 6724 va := (hf_177 289 (by decide)).trans hv16
      have hc_228 : σ_189 290 = q_an G 6724 sp := (hf_177 290 (by decide)).trans hv17
      have hc_229 : σ_189 291 = q_an G 80 lp := (hf_177 291 (by decide)).trans hv18
      have hc_230 : σ_189 292 = q_an G 600 f := (hf_177 292 (by decide)).trans hv19
      have hc_231 : σ_189 293 = q_an G 300 ou := (hf_177 293 (by decide)).trans hv20
      have hc_232 : σ_189 294 = q_ln G 1 oL := (hf_177 294 (by decide)).trans hv21
      have hc_233 : σ_189 295 = q_dn G 1 oD := (hf_177 295 (by decide)).trans hv22
      have e_p : p1C = p1M := q_nI_inj (by omega) (by omega) (Chx0.symm.trans Mhpe)
      subst e_p
      refine A_istore hg dL_law_2423 (by decide) (q_c1d rfl) ?_
      refine A_eq (ls2 := [some (.ref bS), some (.ref (q_h G + 0)), some (.ref (q_h G + 279)), some (.ref (q_h G + 294)), some (.ref (q_h G + 295)), some (.int (nI (i))), some (.int (nI (2))), some (.int (nI (0))), none]) (st2 := []) (pc2 := 0) rfl rfl ?_
      refine A_aload_n hg dL_law_2425 rfl rfl ?_
      refine A_eV (kc2 := kc + 2) (ks2 := ks + 12) (As := []) (rest := []) hg lk_RL_170 in_X11_thrown se_X11_thrown rfl dL_law_2426 ⟨by decide, by decide⟩ rfl rfl (hfK 2 12 (by decide) (by decide)) hc_176 (by omega) rfl rfl (Nat.le_of_ble_eq_true rfl) (c_X11_thrown G false 296 σ_189 (upd F 7 (nI (2))) hc_176 (by omega)) ?_
      refine A_top (w := .int (nI (2))) (congrArg Value.int rfl) ?_
      refine A_iload hg dL_law_2429 rfl ?_
      refine A_icmp_eqN (tgt := 2436) hg dL_law_2431 (by decide) (by decide) (by decide) (fun c2431 => ?_) (fun c2431 => False.elim (by omega))
      refine A_iload hg dL_law_2436 rfl ?_
      refine A_if_neN (tgt := 2453) hg dL_law_2438 (by decide) (by decide) (fun c2438 => ?_) (fun c2438 => absurd c2438 (by decide))
      refine A_goto (tgt := 3062) hg dL_law_2453 (by decide) ?_
      refine A_drop 6 ?_
      refine A_drop 7 ?_
      refine A_eq (ls2 := [some (.ref bS), some (.ref (q_h G + 0)), some (.ref (q_h G + 279)), some (.ref (q_h G + 294)), some (.ref (q_h G + 295)), some (.int (nI (i))), none, none, none]) (st2 := []) (pc2 := 0) rfl rfl ?_
      refine A_wide (kc2 := kc + 8) (ks2 := ks + 48) (by omega) (by omega) ?_
      exact hnxt _ (iv_mk il z2 z3 f lo o g nx m ps kp sn (upd F 7 (nI (2))) wk as sh a fb nv ns mk va sp lp mc z ss ou oL oD hc_212 hc_213 hc_214 hc_215 hc_216 hc_217 hc_176 hc_218 hc_219 hc_220 hc_221 hc_222 hc_223 hc_224 hc_225 hc_226 hc_227 hc_228 hc_229 hc_230 hc_231 hc_232 hc_233 (x_lj_e (fun i _ _ => (hf_177 i (by omega))) hL) (x_gm_e (fun i _ _ => (hf_177 i (by omega))) hG) (x_mx_e (fun i _ _ => (hf_177 i (by omega))) hM) (x_hi_e (fun i _ _ => (hf_177 i (by omega))) hHi) (x_oj_e (fun i _ _ => (hf_177 i (by omega))) hO) (x_pj_e (fun i _ _ => (hf_177 i (by omega))) hT) (iv_hn (fun i _ _ => (hf_177 i (by omega))) hH) (iv_Sn (fun i _ _ => (hf_177 i (by omega))) hSn) (iv_Kp (fun i _ _ => (hf_177 i (by omega))) hKp) (by omega) hfb (by omega) hou hgd hps hk1 hkss hss hsn hF5 hF6 hF12 hF16 hF21 hF22 hF23 hF33 (by omega) hmk hTI hlo)
    · skip
      refine (?_ : AJ G K Q (kc + 2) (ks + 12) false 296 2423 [some (.ref bS), some (.ref (q_h G + 0)), some (.ref (q_h G + 279)), some (.ref (q_h G + 294)), some (.ref (q_h G + 295)), some (.int (nI (i))), some (.int (nI (2))), none, none] [.int (nI (s_tot (s_play g p1M a1M b1M)))] σ_189)
      have hc_178 : σ_189 279 = o11 G (upd (upd (upd (upd (upd (upd (upd F 5 (nI (s_pmany m + 1))) 7 (nI (0))) 12 (nI (mcqM))) 16 (nI (zqM))) 17 (q1M)) 18 (q2M)) 19 (q3M)) := hc_178
      have hc_234 : σ_189 0 = o10 G (nI (il)) (z2) (z3) := (hf_188 0 (by decide)).trans hv0
      have hc_235 : σ_189 1 = q_an G 600 f := (hf_188 1 (by decide)).trans hv1
      have hc_236 : σ_189 23 = o5 G (23) (nI (lo)) := (hf_188 23 (by decide)).trans hv2
      have hc_237 : σ_189 24 = q_an G 256 o := (hf_188 24 (by decide)).trans hv3
      have hc_238 : σ_189 224 = q_rn G 2 2 (fun j => some (243 + 18 * j)) := (hf_188 224 (by decide)).trans hv4
      have hc_239 : σ_189 225 = q_bn G 2 kp := (hf_188 225 (by decide)).trans hv5
      have hc_240 : σ_189 281 = q_an G 265 wk := (hf_188 281 (by decide)).trans hv8
      have hc_241 : σ_189 282 = q_an G 265 as := (hf_188 282 (by decide)).trans hv9
      have hc_242 : σ_189 283 = q_an G 530 sh := (hf_188 283 (by decide)).trans hv10
      have hc_243 : σ_189 292 = q_an G 600 f := (hf_188 292 (by decide)).trans hv19
      have hc_244 : σ_189 293 = q_an G 300 ou := (hf_188 293 (by decide)).trans hv20
      have hc_245 : σ_189 294 = q_ln G 1 oL := (hf_188 294 (by decide)).trans hv21
      have hc_246 : σ_189 295 = q_dn G 1 oD := (hf_188 295 (by decide)).trans hv22
      have hrbM := iv_ref Mhrf
      have hptM := s_part hg9 Mhpl
      have e_p : p1C = p1M := q_nI_inj (by omega) (by omega) (Chx0.symm.trans Mhpe)
      subst e_p
      exact (iv_refI Mhke Mhle (by omega) (by omega) Mhrf Chx2).elim
set_option maxRecDepth 100000 in
set_option maxHeartbeats 4000000 in
theorem law_c35 (G : GL) (K : KC) (Q : State → Prop) (hh : List (Nat × Nat × Nat × Nat)) (hg : Gd G K RL code 9 ret room_1 hh) (bS L : Nat) (xs : Nat → Int32) (hX : q_scr G K bS L xs) (i kc ks J : Nat) (hi : i + 5 < L) (hL31 : L < 2 ^ 31) (hkc : kc + 8 ≤ 601024) (hks : ks + 48 ≤ 7293034) (σ : Nat → va_E) (hI : iv G σ J) (hJ : J < 512) (hfd : q_fdn) (hdd : q_ddn) (hf2 : q_f2n) (hds : q_dcs) (hnxt : ∀ σ9 : Nat → va_E, iv G σ9 (J + 1) → AJ G K Q (kc + 8) (ks + 48) false 296 3062 [some (.ref bS), some (.ref (q_h G + 0)), some (.ref (q_h G + 279)), some (.ref (q_h G + 294)), some (.ref (q_h G + 295)), some (.int (nI (i))), none, none, none] [] σ9) : AJ G K Q kc ks false 296 2456 [some (.ref bS), some (.ref (q_h G + 0)), some (.ref (q_h G + 279)), some (.ref (q_h G + 294)), some (.ref (q_h G + 295)), some (.int (nI (i))), none, none, none] [] σ := by
  refine iv_el hI ?_
  intro il z2 z3 f lo o g nx m ps kp sn F wk as sh a fb nv ns mk va sp lp mc z ss ou oL oD
  intro hv0 hv1 hv2 hv3 hv4 hv5 hv6 hv7 hv8 hv9 hv10 hv11 hv12 hv13 hv14 hv15 hv16 hv17 hv18 hv19 hv20 hv21 hv22
  intro hL hG hM hHi hO hT hH hSn hKp
  intro hil hfb hlo2 hou hgd hps hk1 hkss hss hsn hF5 hF6 hF12 hF16 hF21 hF22 hF23 hF33 hmc hmk hTI hlo
  have hfK : ∀ a b : Nat, a ≤ 8 → b ≤ 48 → kc + a ≤ room_1.cells ∧ ks + b ≤ room_1.slots := fun a b h1 h2 => ⟨by show kc + a ≤ 601024; omega, by show ks + b ≤ 7293034; omega⟩
  have hg9 := iv_g hG
  obtain ⟨hnx8, hm8, hc78⟩ := iv_hi hHi
  have hbb := iv_byte (m := il) hfb
  have hg90 := hg9.1
  have hg96 := hg9.2.2.2.2.1
  have hnp8 := s_np_le hg9
  refine A_aload_n hg dL_law_2456 rfl rfl ?_
  refine A_aload_n hg dL_law_2457 rfl rfl ?_
  refine A_iload hg dL_law_2458 rfl ?_
  refine A_iconst (v := (nI (1))) hg dL_law_2460 (by decide) ?_
  refine A_iaddN hg dL_law_2461 ?_
  refine A_sld hg hX (i + 1) (by omega) dL_law_2462 ?_
  refine A_aload_n hg dL_law_2463 rfl rfl ?_
  refine A_callSH (As := [.ref (q_h G + 0), .int (xs (i + 1)), .ref (q_h G + 294)]) (rest := []) hg lkH_266 stH_L_follow dL_law_2464 ⟨by decide, by decide⟩ (hfK 1 6 (by decide) (by decide)) rfl rfl (Nat.le_of_ble_eq_true rfl) (c_L_follow G 296 σ (nI (il)) z2 z3 g nx m ps (xs (i + 1)) oL hv0 hv21 (by omega) hG hM hH hHi (by omega)) ?_
  rintro _ σ_1 (⟨t1C, rfl, Chte, Chta, Chtl, ChG2, ChHi2, ChM2, ChH2, hc_2, hf_3⟩ | ⟨rfl, Chxx, he_4⟩)
  · skip
    refine (?_ : AJ G K Q (kc + 1) (ks + 6) false 296 2467 [some (.ref bS), some (.ref (q_h G + 0)), some (.ref (q_h G + 279)), some (.ref (q_h G + 294)), some (.ref (q_h G + 295)), some (.int (nI (i))), none, none, none] [.int (nI (0))] σ_1)
    have hc_5 : σ_1 0 = o10 G (nI (il)) (z2) (z3) := (hf_3 0 (by decide)).trans hv0
    have hc_6 : σ_1 1 = q_an G 600 f := (hf_3 1 (by decide)).trans hv1
    have hc_7 : σ_1 23 = o5 G (23) (nI (lo)) := (hf_3 23 (by decide)).trans hv2
    have hc_8 : σ_1 24 = q_an G 256 o := (hf_3 24 (by decide)).trans hv3
    have hc_9 : σ_1 224 = q_rn G 2 2 (fun j => some (243 + 18 * j)) := (hf_3 224 (by decide)).trans hv4
    have hc_10 : σ_1 225 = q_bn G 2 kp := (hf_3 225 (by decide)).trans hv5
    have hc_11 : σ_1 279 = o11 G F := (hf_3 279 (by decide)).trans hv6
    have hc_12 : σ_1 280 = q_an G 265 g := (hf_3 280 (by decide)).trans hv7
    have hc_13 : σ_1 281 = q_an G 265 wk := (hf_3 281 (by decide)).trans hv8
    have hc_14 : σ_1 282 = q_an G 265 as := (hf_3 282 (by decide)).trans hv9
    have hc_15 : σ_1 283 = q_an G 530 sh := (hf_3 283 (by decide)).trans hv10
    have hc_16 : σ_1 284 = q_an G 2120 a := (hf_3 284 (by decide)).trans hv11
    have hc_17 : σ_1 285 = q_bn G 1681 fb := (hf_3 285 (by decide)).trans hv12
    have hc_18 : σ_1 286 = q_an G 1681 nv := (hf_3 286 (by decide)).trans hv13
    have hc_19 : σ_1 287 = q_an G 1681 ns := (hf_3 287 (by decide)).trans hv14
    have hc_20 : σ_1 288 = q_an G 2000 mk := (hf_3 288 (by decide)).trans hv15
    have hc_21 : σ_1 289 = q_an G 6724 va := (hf_3 289 (by decide)).trans hv16
    have hc_22 : σ_1 290 = q_an G 6724 sp := (hf_3 290 (by decide)).trans hv17
    have hc_23 : σ_1 291 = q_an G 80 lp := (hf_3 291 (by decide)).trans hv18
    have hc_24 : σ_1 292 = q_an G 600 f := (hf_3 292 (by decide)).trans hv19
    have hc_25 : σ_1 293 = q_an G 300 ou := (hf_3 293 (by decide)).trans hv20
    have hc_26 : σ_1 295 = q_dn G 1 oD := (hf_3 295 (by decide)).trans hv22
    refine A_istore hg dL_law_2467 (by decide) (q_c1d rfl) ?_
    refine A_eq (ls2 := [some (.ref bS), some (.ref (q_h G + 0)), some (.ref (q_h G + 279)), some (.ref (q_h G + 294)), some (.ref (q_h G + 295)), some (.int (nI (i))), some (.int (nI (0))), none, none]) (st2 := []) (pc2 := 0) rfl rfl ?_
    refine A_aload_n hg dL_law_2469 rfl rfl ?_
    refine A_aload_n hg dL_law_2470 rfl rfl ?_
    refine A_iload hg dL_law_2471 rfl ?_
    refine A_iconst (v := (nI (1))) hg dL_law_2473 (by decide) ?_
    refine A_iaddN hg dL_law_2474 ?_
    refine A_sld hg hX (i + 1) (by omega) dL_law_2475 ?_
    refine A_hV (kc2 := kc + 1) (ks2 := ks + 6) (As := [.int (xs (i + 1))]) (rest := []) hg lk_RL_268 in_X11_follow se_X11_follow rfl dL_law_2476 ⟨by decide, by decide⟩ rfl rfl (hfK 1 6 (by decide) (by decide)) hc_11 (by omega) rfl rfl (Nat.le_of_ble_eq_true rfl) (c_X11_follow G false 296 σ_1 F g fb nv ns mk va sp lp mc z a m (xs (i + 1)) hc_11 hc_12 hc_16 hc_17 hc_18 hc_19 hc_20 hc_21 hc_22 hc_23 (by omega) hg9 (by omega) hF12 hF16 hmk hTI hlo hF5 (by omega)) ?_
    rintro _ σ_40 (⟨rfl, Mhno, hc_27, hf_28⟩ | ⟨t1M, fqM, nvqM, nsqM, mkqM, vaqM, spqM, loqM, mcqM, zqM, aqM, q1M, q2M, q3M, rfl, Mhte, Mhta, Mhtl, MhTI, Mhmc, Mhmk, Mhlo, Mhnew, Mhold, hc_29, hc_30, hc_31, hc_32, hc_33, hc_34, hc_35, hc_36, hc_37, hc_38, hf_39⟩)
    · skip
      refine (?_ : AJ G K Q (kc + 1) (ks + 6) false 296 2479 [some (.ref bS), some (.ref (q_h G + 0)), some (.ref (q_h G + 279)), some (.ref (q_h G + 294)), some (.ref (q_h G + 295)), some (.int (nI (i))), some (.int (nI (0))), none, none] [.int (nI (0))] σ_40)
      have hc_27 : σ_40 279 = o11 G (upd F 7 (nI (1))) := hc_27
      have hc_41 : σ_40 0 = o10 G (nI (il)) (z2) (z3) := (hf_28 0 (by decide)).trans hc_5
      have hc_42 : σ_40 1 = q_an G 600 f := (hf_28 1 (by decide)).trans hc_6
      have hc_43 : σ_40 23 = o5 G (23) (nI (lo)) := (hf_28 23 (by decide)).trans hc_7
      have hc_44 : σ_40 24 = q_an G 256 o := (hf_28 24 (by decide)).trans hc_8
      have hc_45 : σ_40 224 = q_rn G 2 2 (fun j => some (243 + 18 * j)) := (hf_28 224 (by decide)).trans hc_9
      have hc_46 : σ_40 225 = q_bn G 2 kp := (hf_28 225 (by decide)).trans hc_10
      have hc_47 : σ_40 280 = q_an G 265 g := (hf_28 280 (by decide)).trans hc_12
      have hc_48 : σ_40 281 = q_an G 265 wk := (hf_28 281 (by decide)).trans hc_13
      have hc_49 : σ_40 282 = q_an G 265 as := (hf_28 282 (by decide)).trans hc_14
      have hc_50 : σ_40 283 = q_an G 530 sh := (hf_28 283 (by decide)).trans hc_15
      have hc_51 : σ_40 284 = q_an G 2120 a := (hf_28 284 (by decide)).trans hc_16
      have hc_52 : σ_40 285 = q_bn G 1681 fb := (hf_28 285 (by decide)).trans hc_17
      have hc_53 : σ_40 286 = q_an G 1681 nv := (hf_28 286 (by decide)).trans hc_18
      have hc_54 : σ_40 287 = q_an G 1681 ns := (hf_28 287 (by decide)).trans hc_19
      have hc_55 : σ_40 288 = q_an G 2000 mk := (hf_28 288 (by decide)).trans hc_20
      have hc_56 : σ_40 289 = q_an G 6724 va := (hf_28 289 (by decide)).trans hc_21
      have hc_57 : σ_40 290 = q_an G 6724 sp := (hf_28 290 (by decide)).trans hc_22
      have hc_58 : σ_40 291 = q_an G 80 lp := (hf_28 291 (by decide)).trans hc_23
      have hc_59 : σ_40 292 = q_an G 600 f := (hf_28 292 (by decide)).trans hc_24
      have hc_60 : σ_40 293 = q_an G 300 ou := (hf_28 293 (by decide)).trans hc_25
      have hc_61 : σ_40 295 = q_dn G 1 oD := (hf_28 295 (by decide)).trans hc_26
      have hc_62 : σ_40 294 = q_ln G 1 (va_up oL 0 ((nI (s_fn g t1C)).toInt64)) := (hf_28 294 (by decide)).trans hc_2
      exact (Mhno t1C (by omega) (by omega) Chte).elim
    · skip
      refine (?_ : AJ G K Q (kc + 1) (ks + 6) false 296 2479 [some (.ref bS), some (.ref (q_h G + 0)), some (.ref (q_h G + 279)), some (.ref (q_h G + 294)), some (.ref (q_h G + 295)), some (.int (nI (i))), some (.int (nI (0))), none, none] [.int (nI (s_fn g t1M))] σ_40)
      have hc_29 : σ_40 279 = o11 G (upd (upd (upd (upd (upd (upd (upd F 5 (nI (s_pmany m + 1))) 7 (nI (0))) 12 (nI (mcqM))) 16 (nI (zqM))) 17 (q1M)) 18 (q2M)) 19 (q3M)) := hc_29
      have hc_63 : σ_40 0 = o10 G (nI (il)) (z2) (z3) := (hf_39 0 (by decide)).trans hc_5
      have hc_64 : σ_40 1 = q_an G 600 f := (hf_39 1 (by decide)).trans hc_6
      have hc_65 : σ_40 23 = o5 G (23) (nI (lo)) := (hf_39 23 (by decide)).trans hc_7
      have hc_66 : σ_40 24 = q_an G 256 o := (hf_39 24 (by decide)).trans hc_8
      have hc_67 : σ_40 224 = q_rn G 2 2 (fun j => some (243 + 18 * j)) := (hf_39 224 (by decide)).trans hc_9
      have hc_68 : σ_40 225 = q_bn G 2 kp := (hf_39 225 (by decide)).trans hc_10
      have hc_69 : σ_40 281 = q_an G 265 wk := (hf_39 281 (by decide)).trans hc_13
      have hc_70 : σ_40 282 = q_an G 265 as := (hf_39 282 (by decide)).trans hc_14
      have hc_71 : σ_40 283 = q_an G 530 sh := (hf_39 283 (by decide)).trans hc_15
      have hc_72 : σ_40 292 = q_an G 600 f := (hf_39 292 (by decide)).trans hc_24
      have hc_73 : σ_40 293 = q_an G 300 ou := (hf_39 293 (by decide)).trans hc_25
      have hc_74 : σ_40 295 = q_dn G 1 oD := (hf_39 295 (by decide)).trans hc_26
      have hc_75 : σ_40 294 = q_ln G 1 (va_up oL 0 ((nI (s_fn g t1C)).toInt64)) := (hf_39 294 (by decide)).trans hc_2
      have e_t : t1C = t1M := q_nI_inj (by omega) (by omega) (Chte.symm.trans Mhte)
      subst e_t
      refine A_istore hg dL_law_2479 (by decide) (q_c1d rfl) ?_
      refine A_eq (ls2 := [some (.ref bS), some (.ref (q_h G + 0)), some (.ref (q_h G + 279)), some (.ref (q_h G + 294)), some (.ref (q_h G + 295)), some (.int (nI (i))), some (.int (nI (0))), some (.int (nI (s_fn g t1C))), none]) (st2 := []) (pc2 := 0) rfl rfl ?_
      refine A_aload_n hg dL_law_2481 rfl rfl ?_
      refine A_eV (kc2 := kc + 1) (ks2 := ks + 6) (As := []) (rest := []) hg lk_RL_170 in_X11_thrown se_X11_thrown rfl dL_law_2482 ⟨by decide, by decide⟩ rfl rfl (hfK 1 6 (by decide) (by decide)) hc_29 (by omega) rfl rfl (Nat.le_of_ble_eq_true rfl) (c_X11_thrown G false 296 σ_40 (upd (upd (upd (upd (upd (upd (upd F 5 (nI (s_pmany m + 1))) 7 (nI (0))) 12 (nI (mcqM))) 16 (nI (zqM))) 17 (q1M)) 18 (q2M)) 19 (q3M)) hc_29 (by omega)) ?_
      refine A_top (w := .int (nI (0))) (congrArg Value.int rfl) ?_
      refine A_iload hg dL_law_2485 rfl ?_
      refine A_icmp_eqN (tgt := 2492) hg dL_law_2487 (by decide) (by decide) (by decide) (fun c2487 => ?_) (fun c2487 => False.elim (by omega))
      refine A_iload hg dL_law_2492 rfl ?_
      refine A_if_neN (tgt := 2509) hg dL_law_2494 (by decide) (by decide) (fun c2494 => absurd (by decide) c2494) (fun c2494 => ?_)
      refine A_aload_n hg dL_law_2497 rfl rfl ?_
      refine A_iconst (v := (nI (0))) hg dL_law_2498 (by decide) ?_
      refine A_lald (j := 0) hg dL_law_2499 hc_75 (by omega) (by decide) (by decide) ?_
      refine A_top (w := .long ((nI (s_fn g t1C)).toInt64)) (congrArg Value.long iv_up0) ?_
      refine A_iload hg dL_law_2500 rfl ?_
      refine A_i2l (v := (nI (s_fn g t1C)).toInt64) hg dL_law_2502 rfl ?_
      refine A_lcmp hg dL_law_2503 ?_
      refine A_top (w := .int (nI 0)) (congrArg Value.int (lc_self _)) ?_
      refine A_if_eqN (tgt := 2509) hg dL_law_2504 (by decide) (by decide) (fun c2504 => ?_) (fun c2504 => absurd (by decide) c2504)
      refine A_goto (tgt := 3062) hg dL_law_2509 (by decide) ?_
      refine A_drop 6 ?_
      refine A_drop 7 ?_
      refine A_eq (ls2 := [some (.ref bS), some (.ref (q_h G + 0)), some (.ref (q_h G + 279)), some (.ref (q_h G + 294)), some (.ref (q_h G + 295)), some (.int (nI (i))), none, none, none]) (st2 := []) (pc2 := 0) rfl rfl ?_
      refine A_wide (kc2 := kc + 8) (ks2 := ks + 48) (by omega) (by omega) ?_
      exact hnxt _ (iv_mk il z2 z3 f lo o (s_it g (s_fn g t1C)) ((nx + 1) % 8) (min (m + 1) 8) (x_psh m ps g) kp sn (upd (upd (upd (upd (upd (upd (upd F 5 (nI (s_pmany m + 1))) 7 (nI (0))) 12 (nI (mcqM))) 16 (nI (zqM))) 17 (q1M)) 18 (q2M)) 19 (q3M)) wk as sh aqM fqM nvqM nsqM mkqM vaqM spqM loqM mcqM zqM ss ou (va_up oL 0 ((nI (s_fn g t1C)).toInt64)) oD hc_63 hc_64 hc_65 hc_66 hc_67 hc_68 hc_29 hc_30 hc_69 hc_70 hc_71 hc_31 hc_32 hc_33 hc_34 hc_35 hc_36 hc_37 hc_38 hc_72 hc_73 hc_75 hc_74 (x_lj_e (fun i _ _ => ((hf_39 i (by omega)).trans (hf_3 i (by omega)))) hL) (x_gm_e (fun i _ _ => (hf_39 i (by omega))) ChG2) (x_mx_e (fun i _ _ => (hf_39 i (by omega))) ChM2) (x_hi_e (fun i _ _ => (hf_39 i (by omega))) ChHi2) (x_oj_e (fun i _ _ => ((hf_39 i (by omega)).trans (hf_3 i (by omega)))) hO) (x_pj_e (fun i _ _ => ((hf_39 i (by omega)).trans (hf_3 i (by omega)))) hT) (iv_hn (fun i _ _ => (hf_39 i (by omega))) ChH2) (iv_Sn (fun i _ _ => ((hf_39 i (by omega)).trans (hf_3 i (by omega)))) hSn) (iv_Kp (fun i _ _ => ((hf_39 i (by omega)).trans (hf_3 i (by omega)))) hKp) (by omega) hfb (by omega) hou (x_gbd_it hg9 _ hgd) (iv_push hm8 hgd hps Mhnew Mhold) hk1 hkss hss hsn (congrArg nI (iv_pm hm8)) hF6 rfl rfl hF21 hF22 hF23 hF33 (by omega) Mhmk MhTI Mhlo)
  · skip
    rw [he_4]
    refine (?_ : AJ G K Q (kc + 1) (ks + 6) false 296 2467 [some (.ref bS), some (.ref (q_h G + 0)), some (.ref (q_h G + 279)), some (.ref (q_h G + 294)), some (.ref (q_h G + 295)), some (.int (nI (i))), none, none, none] [.int (nI (1))] σ)
    refine A_istore hg dL_law_2467 (by decide) (q_c1d rfl) ?_
    refine A_eq (ls2 := [some (.ref bS), some (.ref (q_h G + 0)), some (.ref (q_h G + 279)), some (.ref (q_h G + 294)), some (.ref (q_h G + 295)), some (.int (nI (i))), some (.int (nI (1))), none, none]) (st2 := []) (pc2 := 0) rfl rfl ?_
    refine A_aload_n hg dL_law_2469 rfl rfl ?_
    refine A_aload_n hg dL_law_2470 rfl rfl ?_
    refine A_iload hg dL_law_2471 rfl ?_
    refine A_iconst (v := (nI (1))) hg dL_law_2473 (by decide) ?_
    refine A_iaddN hg dL_law_2474 ?_
    refine A_sld hg hX (i + 1) (by omega) dL_law_2475 ?_
    refine A_hV (kc2 := kc + 1) (ks2 := ks + 6) (As := [.int (xs (i + 1))]) (rest := []) hg lk_RL_268 in_X11_follow se_X11_follow rfl dL_law_2476 ⟨by decide, by decide⟩ rfl rfl (hfK 1 6 (by decide) (by decide)) hv6 (by omega) rfl rfl (Nat.le_of_ble_eq_true rfl) (c_X11_follow G false 296 σ F g fb nv ns mk va sp lp mc z a m (xs (i + 1)) hv6 hv7 hv11 hv12 hv13 hv14 hv15 hv16 hv17 hv18 (by omega) hg9 (by omega) hF12 hF16 hmk hTI hlo hF5 (by omega)) ?_
    rintro _ σ_89 (⟨rfl, Mhno, hc_76, hf_77⟩ | ⟨t1M, fqM, nvqM, nsqM, mkqM, vaqM, spqM, loqM, mcqM, zqM, aqM, q1M, q2M, q3M, rfl, Mhte, Mhta, Mhtl, MhTI, Mhmc, Mhmk, Mhlo, Mhnew, Mhold, hc_78, hc_79, hc_80, hc_81, hc_82, hc_83, hc_84, hc_85, hc_86, hc_87, hf_88⟩)
    · skip
      refine (?_ : AJ G K Q (kc + 1) (ks + 6) false 296 2479 [some (.ref bS), some (.ref (q_h G + 0)), some (.ref (q_h G + 279)), some (.ref (q_h G + 294)), some (.ref (q_h G + 295)), some (.int (nI (i))), some (.int (nI (1))), none, none] [.int (nI (0))] σ_89)
      have hc_76 : σ_89 279 = o11 G (upd F 7 (nI (1))) := hc_76
      have hc_90 : σ_89 0 = o10 G (nI (il)) (z2) (z3) := (hf_77 0 (by decide)).trans hv0
      have hc_91 : σ_89 1 = q_an G 600 f := (hf_77 1 (by decide)).trans hv1
      have hc_92 : σ_89 23 = o5 G (23) (nI (lo)) := (hf_77 23 (by decide)).trans hv2
      have hc_93 : σ_89 24 = q_an G 256 o := (hf_77 24 (by decide)).trans hv3
      have hc_94 : σ_89 224 = q_rn G 2 2 (fun j => some (243 + 18 * j)) := (hf_77 224 (by decide)).trans hv4
      have hc_95 : σ_89 225 = q_bn G 2 kp := (hf_77 225 (by decide)).trans hv5
      have hc_96 : σ_89 280 = q_an G 265 g := (hf_77 280 (by decide)).trans hv7
      have hc_97 : σ_89 281 = q_an G 265 wk := (hf_77 281 (by decide)).trans hv8
      have hc_98 : σ_89 282 = q_an G 265 as := (hf_77 282 (by decide)).trans hv9
      have hc_99 : σ_89 283 = q_an G 530 sh := (hf_77 283 (by decide)).trans hv10
      have hc_100 : σ_89 284 = q_an G 2120 a := (hf_77 284 (by decide)).trans hv11
      have hc_101 : σ_89 285 = q_bn G 1681 fb := (hf_77 285 (by decide)).trans hv12
      have hc_102 : σ_89 286 = q_an G 1681 nv := (hf_77 286 (by decide)).trans hv13
      have hc_103 : σ_89 287 = q_an G 1681 ns := (hf_77 287 (by decide)).trans hv14
      have hc_104 : σ_89 288 = q_an G 2000 mk := (hf_77 288 (by decide)).trans hv15
      have hc_105 : σ_89 289 = q_an G 6724 va := (hf_77 289 (by decide)).trans hv16
      have hc_106 : σ_89 290 = q_an G 6724 sp := (hf_77 290 (by decide)).trans hv17
      have hc_107 : σ_89 291 = q_an G 80 lp := (hf_77 291 (by decide)).trans hv18
      have hc_108 : σ_89 292 = q_an G 600 f := (hf_77 292 (by decide)).trans hv19
      have hc_109 : σ_89 293 = q_an G 300 ou := (hf_77 293 (by decide)).trans hv20
      have hc_110 : σ_89 294 = q_ln G 1 oL := (hf_77 294 (by decide)).trans hv21
      have hc_111 : σ_89 295 = q_dn G 1 oD := (hf_77 295 (by decide)).trans hv22
      refine A_istore hg dL_law_2479 (by decide) (q_c1d rfl) ?_
      refine A_eq (ls2 := [some (.ref bS), some (.ref (q_h G + 0)), some (.ref (q_h G + 279)), some (.ref (q_h G + 294)), some (.ref (q_h G + 295)), some (.int (nI (i))), some (.int (nI (1))), some (.int (nI (0))), none]) (st2 := []) (pc2 := 0) rfl rfl ?_
      refine A_aload_n hg dL_law_2481 rfl rfl ?_
      refine A_eV (kc2 := kc + 1) (ks2 := ks + 6) (As := []) (rest := []) hg lk_RL_170 in_X11_thrown se_X11_thrown rfl dL_law_2482 ⟨by decide, by decide⟩ rfl rfl (hfK 1 6 (by decide) (by decide)) hc_76 (by omega) rfl rfl (Nat.le_of_ble_eq_true rfl) (c_X11_thrown G false 296 σ_89 (upd F 7 (nI (1))) hc_76 (by omega)) ?_
      refine A_top (w := .int (nI (1))) (congrArg Value.int rfl) ?_
      refine A_iload hg dL_law_2485 rfl ?_
      refine A_icmp_eqN (tgt := 2492) hg dL_law_2487 (by decide) (by decide) (by decide) (fun c2487 => ?_) (fun c2487 => False.elim (by omega))
      refine A_iload hg dL_law_2492 rfl ?_
      refine A_if_neN (tgt := 2509) hg dL_law_2494 (by decide) (by decide) (fun c2494 => ?_) (fun c2494 => absurd c2494 (by decide))
      refine A_goto (tgt := 3062) hg dL_law_2509 (by decide) ?_
      refine A_drop 6 ?_
      refine A_drop 7 ?_
      refine A_eq (ls2 := [some (.ref bS), some (.ref (q_h G + 0)), some (.ref (q_h G + 279)), some (.ref (q_h G + 294)), some (.ref (q_h G + 295)), some (.int (nI (i))), none, none, none]) (st2 := []) (pc2 := 0) rfl rfl ?_
      refine A_wide (kc2 := kc + 8) (ks2 := ks + 48) (by omega) (by omega) ?_
      exact hnxt _ (iv_mk il z2 z3 f lo o g nx m ps kp sn (upd F 7 (nI (1))) wk as sh a fb nv ns mk va sp lp mc z ss ou oL oD hc_90 hc_91 hc_92 hc_93 hc_94 hc_95 hc_76 hc_96 hc_97 hc_98 hc_99 hc_100 hc_101 hc_102 hc_103 hc_104 hc_105 hc_106 hc_107 hc_108 hc_109 hc_110 hc_111 (x_lj_e (fun i _ _ => (hf_77 i (by omega))) hL) (x_gm_e (fun i _ _ => (hf_77 i (by omega))) hG) (x_mx_e (fun i _ _ => (hf_77 i (by omega))) hM) (x_hi_e (fun i _ _ => (hf_77 i (by omega))) hHi) (x_oj_e (fun i _ _ => (hf_77 i (by omega))) hO) (x_pj_e (fun i _ _ => (hf_77 i (by omega))) hT) (iv_hn (fun i _ _ => (hf_77 i (by omega))) hH) (iv_Sn (fun i _ _ => (hf_77 i (by omega))) hSn) (iv_Kp (fun i _ _ => (hf_77 i (by omega))) hKp) (by omega) hfb (by omega) hou hgd hps hk1 hkss hss hsn hF5 hF6 hF12 hF16 hF21 hF22 hF23 hF33 (by omega) hmk hTI hlo)
    · skip
      refine (?_ : AJ G K Q (kc + 1) (ks + 6) false 296 2479 [some (.ref bS), some (.ref (q_h G + 0)), some (.ref (q_h G + 279)), some (.ref (q_h G + 294)), some (.ref (q_h G + 295)), some (.int (nI (i))), some (.int (nI (1))), none, none] [.int (nI (s_fn g t1M))] σ_89)
      have hc_78 : σ_89 279 = o11 G (upd (upd (upd (upd (upd (upd (upd F 5 (nI (s_pmany m + 1))) 7 (nI (0))) 12 (nI (mcqM))) 16 (nI (zqM))) 17 (q1M)) 18 (q2M)) 19 (q3M)) := hc_78
      have hc_112 : σ_89 0 = o10 G (nI (il)) (z2) (z3) := (hf_88 0 (by decide)).trans hv0
      have hc_113 : σ_89 1 = q_an G 600 f := (hf_88 1 (by decide)).trans hv1
      have hc_114 : σ_89 23 = o5 G (23) (nI (lo)) := (hf_88 23 (by decide)).trans hv2
      have hc_115 : σ_89 24 = q_an G 256 o := (hf_88 24 (by decide)).trans hv3
      have hc_116 : σ_89 224 = q_rn G 2 2 (fun j => some (243 + 18 * j)) := (hf_88 224 (by decide)).trans hv4
      have hc_117 : σ_89 225 = q_bn G 2 kp := (hf_88 225 (by decide)).trans hv5
      have hc_118 : σ_89 281 = q_an G 265 wk := (hf_88 281 (by decide)).trans hv8
      have hc_119 : σ_89 282 = q_an G 265 as := (hf_88 282 (by decide)).trans hv9
      have hc_120 : σ_89 283 = q_an G 530 sh := (hf_88 283 (by decide)).trans hv10
      have hc_121 : σ_89 292 = q_an G 600 f := (hf_88 292 (by decide)).trans hv19
      have hc_122 : σ_89 293 = q_an G 300 ou := (hf_88 293 (by decide)).trans hv20
      have hc_123 : σ_89 294 = q_ln G 1 oL := (hf_88 294 (by decide)).trans hv21
      have hc_124 : σ_89 295 = q_dn G 1 oD := (hf_88 295 (by decide)).trans hv22
      exact (Chxx t1M (by omega) (by omega) Mhte).elim
end
