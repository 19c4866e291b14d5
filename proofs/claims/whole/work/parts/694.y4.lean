section
set_option maxRecDepth 100000 in
set_option maxHeartbeats 4000000 in
theorem law_c18 (G : GL) (K : KC) (Q : State → Prop) (hh : List (Nat × Nat × Nat × Nat)) (hg : Gd G K RL code 9 ret room_1 hh) (bS L : Nat) (xs : Nat → Int32) (hX : q_scr G K bS L xs) (i kc ks J : Nat) (hi : i + 5 < L) (hL31 : L < 2 ^ 31) (hkc : kc + 8 ≤ 601024) (hks : ks + 48 ≤ 7293034) (σ : Nat → va_E) (hI : iv G σ J) (hJ : J < 512) (hfd : q_fdn) (hdd : q_ddn) (hf2 : q_f2n) (hds : q_dcs) (hnxt : ∀ σ9 : Nat → va_E, iv G σ9 (J + 1) → AJ G K Q (kc + 8) (ks + 48) false 296 3062 [some (.ref bS), some (.ref (q_h G + 0)), some (.ref (q_h G + 279)), some (.ref (q_h G + 294)), some (.ref (q_h G + 295)), some (.int (nI (i))), none, none, none] [] σ9) : AJ G K Q kc ks false 296 1364 [some (.ref bS), some (.ref (q_h G + 0)), some (.ref (q_h G + 279)), some (.ref (q_h G + 294)), some (.ref (q_h G + 295)), some (.int (nI (i))), none, none, none] [] σ := by
  refine iv_el hI ?_
  intro il z2 z3 f lo o g nx m ps kp sn F wk as sh a fb nv ns mk va sp lp mc z ss ou oL oD
  intro hv0 hv1 hv2 hv3 hv4 hv5 hv6 hv7 hv8 hv9 hv10 hv11 hv12 hv13 hv14 hv15 hv16 hv17 hv18 hv19 hv20 hv21 hv22
  intro hL hG hM hHi hO hT hH hSn hKp
  intro hil hfb hlo2 hou hgd hps hk1 hkss hss hsn hF5 hF6 hF12 hF16 hF21 hF22 hF23 hF33 hmc hmk hTI hlo
  have hfK : ∀ a b : Nat, a ≤ 8 → b ≤ 48 → kc + a ≤ room_1.cells ∧ ks + b ≤ room_1.slots := fun a b h1 h2 => ⟨by show kc + a ≤ 601024; omega, by show ks + b ≤ 7293034; omega⟩
  have hg9 := iv_g hG
  obtain ⟨hnx8, hm8, hc78⟩ := iv_hi hHi
  have hbb := iv_byte (m := il) hfb
  have hg90 := hg9.1
  have hg96 := hg9.2.2.2.2.1
  have hnp8 := s_np_le hg9
  refine A_aload_n hg dL_law_1364 rfl rfl ?_
  refine A_aload_n hg dL_law_1365 rfl rfl ?_
  refine A_iload hg dL_law_1366 rfl ?_
  refine A_iconst (v := (nI (1))) hg dL_law_1368 (by decide) ?_
  refine A_iaddN hg dL_law_1369 ?_
  refine A_sld hg hX (i + 1) (by omega) dL_law_1370 ?_
  refine A_aload_n hg dL_law_1371 rfl rfl ?_
  refine A_iload hg dL_law_1372 rfl ?_
  refine A_iconst (v := (nI (2))) hg dL_law_1374 (by decide) ?_
  refine A_iaddN hg dL_law_1375 ?_
  refine A_sld hg hX (i + 2) (by omega) dL_law_1376 ?_
  refine A_aload_n hg dL_law_1377 rfl rfl ?_
  refine A_callSH (As := [.ref (q_h G + 0), .int (xs (i + 1)), .int (xs (i + 2)), .ref (q_h G + 294)]) (rest := []) hg lkH_212 stH_L_partner dL_law_1378 ⟨by decide, by decide⟩ (hfK 2 12 (by decide) (by decide)) rfl rfl (Nat.le_of_ble_eq_true rfl) (c_L_partner G 296 σ (nI (il)) z2 z3 g (xs (i + 1)) (xs (i + 2)) oL hv0 hv21 (by omega) hG hM (by omega)) ?_
  rintro _ σ_1 (⟨r1C, a1C, rfl, Chre, Chrl, Chke, Chkl, Chany, ChM2, hc_2, hf_3⟩ | ⟨r1C, a1C, rfl, Chre, Chrl, Chke, Chkl, Chany, ChM2, hc_4, hf_5⟩ | ⟨rfl, Chxx, he_6⟩ | ⟨rfl, Chxx, he_7⟩)
  · skip
    refine (?_ : AJ G K Q (kc + 2) (ks + 12) false 296 1381 [some (.ref bS), some (.ref (q_h G + 0)), some (.ref (q_h G + 279)), some (.ref (q_h G + 294)), some (.ref (q_h G + 295)), some (.int (nI (i))), none, none, none] [.int (nI (0))] σ_1)
    have hc_8 : σ_1 0 = o10 G (nI (il)) (z2) (z3) := (hf_3 0 (by decide)).trans hv0
    have hc_9 : σ_1 1 = q_an G 600 f := (hf_3 1 (by decide)).trans hv1
    have hc_10 : σ_1 23 = o5 G (23) (nI (lo)) := (hf_3 23 (by decide)).trans hv2
    have hc_11 : σ_1 24 = q_an G 256 o := (hf_3 24 (by decide)).trans hv3
    have hc_12 : σ_1 224 = q_rn G 2 2 (fun j => some (243 + 18 * j)) := (hf_3 224 (by decide)).trans hv4
    have hc_13 : σ_1 225 = q_bn G 2 kp := (hf_3 225 (by decide)).trans hv5
    have hc_14 : σ_1 279 = o11 G F := (hf_3 279 (by decide)).trans hv6
    have hc_15 : σ_1 280 = q_an G 265 g := (hf_3 280 (by decide)).trans hv7
    have hc_16 : σ_1 281 = q_an G 265 wk := (hf_3 281 (by decide)).trans hv8
    have hc_17 : σ_1 282 = q_an G 265 as := (hf_3 282 (by decide)).trans hv9
    have hc_18 : σ_1 283 = q_an G 530 sh := (hf_3 283 (by decide)).trans hv10
    have hc_19 : σ_1 284 = q_an G 2120 a := (hf_3 284 (by decide)).trans hv11
    have hc_20 : σ_1 285 = q_bn G 1681 fb := (hf_3 285 (by decide)).trans hv12
    have hc_21 : σ_1 286 = q_an G 1681 nv := (hf_3 286 (by decide)).trans hv13
    have hc_22 : σ_1 287 = q_an G 1681 ns := (hf_3 287 (by decide)).trans hv14
    have hc_23 : σ_1 288 = q_an G 2000 mk := (hf_3 288 (by decide)).trans hv15
    have hc_24 : σ_1 289 = q_an G 6724 va := (hf_3 289 (by decide)).trans hv16
    have hc_25 : σ_1 290 = q_an G 6724 sp := (hf_3 290 (by decide)).trans hv17
    have hc_26 : σ_1 291 = q_an G 80 lp := (hf_3 291 (by decide)).trans hv18
    have hc_27 : σ_1 292 = q_an G 600 f := (hf_3 292 (by decide)).trans hv19
    have hc_28 : σ_1 293 = q_an G 300 ou := (hf_3 293 (by decide)).trans hv20
    have hc_29 : σ_1 295 = q_dn G 1 oD := (hf_3 295 (by decide)).trans hv22
    refine A_istore hg dL_law_1381 (by decide) (q_c1d rfl) ?_
    refine A_eq (ls2 := [some (.ref bS), some (.ref (q_h G + 0)), some (.ref (q_h G + 279)), some (.ref (q_h G + 294)), some (.ref (q_h G + 295)), some (.int (nI (i))), some (.int (nI (0))), none, none]) (st2 := []) (pc2 := 0) rfl rfl ?_
    refine A_aload_n hg dL_law_1383 rfl rfl ?_
    refine A_aload_n hg dL_law_1384 rfl rfl ?_
    refine A_iload hg dL_law_1385 rfl ?_
    refine A_iconst (v := (nI (1))) hg dL_law_1387 (by decide) ?_
    refine A_iaddN hg dL_law_1388 ?_
    refine A_sld hg hX (i + 1) (by omega) dL_law_1389 ?_
    refine A_aload_n hg dL_law_1390 rfl rfl ?_
    refine A_iload hg dL_law_1391 rfl ?_
    refine A_iconst (v := (nI (2))) hg dL_law_1393 (by decide) ?_
    refine A_iaddN hg dL_law_1394 ?_
    refine A_sld hg hX (i + 2) (by omega) dL_law_1395 ?_
    refine A_hV (kc2 := kc + 2) (ks2 := ks + 12) (As := [.int (xs (i + 1)), .int (xs (i + 2))]) (rest := []) hg lk_RL_214 in_X11_partner se_X11_partner rfl dL_law_1396 ⟨by decide, by decide⟩ rfl rfl (hfK 2 12 (by decide) (by decide)) hc_14 (by omega) rfl rfl (Nat.le_of_ble_eq_true rfl) (c_X11_partner G false 296 σ_1 F g fb nv ns mk va sp lp mc z (xs (i + 1)) (xs (i + 2)) hc_14 hc_15 hc_20 hc_21 hc_22 hc_23 hc_24 hc_25 hc_26 (by omega) hg9 (by omega) hF12 hF16 hmk hTI hlo) ?_
    rintro _ σ_52 (⟨rfl, Mhno, hc_30, hf_31⟩ | ⟨r1M, rfl, Mhre, Mhrl, Mhnk, hc_32, hf_33⟩ | ⟨r1M, a1M, fqM, nvqM, nsqM, mkqM, vaqM, spqM, loqM, mcqM, zqM, rfl, Mhre, Mhrl, Mhke, Mhkl, Mhany, MhTI, Mhmc, Mhmk, Mhlo, hc_34, hc_35, hc_36, hc_37, hc_38, hc_39, hc_40, hc_41, hf_42⟩ | ⟨r1M, a1M, fqM, nvqM, nsqM, mkqM, vaqM, spqM, loqM, mcqM, zqM, rfl, Mhre, Mhrl, Mhke, Mhkl, Mhany, MhTI, Mhmc, Mhmk, Mhlo, hc_43, hc_44, hc_45, hc_46, hc_47, hc_48, hc_49, hc_50, hf_51⟩)
    · skip
      refine (?_ : AJ G K Q (kc + 2) (ks + 12) false 296 1399 [some (.ref bS), some (.ref (q_h G + 0)), some (.ref (q_h G + 279)), some (.ref (q_h G + 294)), some (.ref (q_h G + 295)), some (.int (nI (i))), some (.int (nI (0))), none, none] [.int (nI (0))] σ_52)
      have hc_30 : σ_52 279 = o11 G (upd F 7 (nI (1))) := hc_30
      have hc_53 : σ_52 0 = o10 G (nI (il)) (z2) (z3) := (hf_31 0 (by decide)).trans hc_8
      have hc_54 : σ_52 1 = q_an G 600 f := (hf_31 1 (by decide)).trans hc_9
      have hc_55 : σ_52 23 = o5 G (23) (nI (lo)) := (hf_31 23 (by decide)).trans hc_10
      have hc_56 : σ_52 24 = q_an G 256 o := (hf_31 24 (by decide)).trans hc_11
      have hc_57 : σ_52 224 = q_rn G 2 2 (fun j => some (243 + 18 * j)) := (hf_31 224 (by decide)).trans hc_12
      have hc_58 : σ_52 225 = q_bn G 2 kp := (hf_31 225 (by decide)).trans hc_13
      have hc_59 : σ_52 280 = q_an G 265 g := (hf_31 280 (by decide)).trans hc_15
      have hc_60 : σ_52 281 = q_an G 265 wk := (hf_31 281 (by decide)).trans hc_16
      have hc_61 : σ_52 282 = q_an G 265 as := (hf_31 282 (by decide)).trans hc_17
      have hc_62 : σ_52 283 = q_an G 530 sh := (hf_31 283 (by decide)).trans hc_18
      have hc_63 : σ_52 284 = q_an G 2120 a := (hf_31 284 (by decide)).trans hc_19
      have hc_64 : σ_52 285 = q_bn G 1681 fb := (hf_31 285 (by decide)).trans hc_20
      have hc_65 : σ_52 286 = q_an G 1681 nv := (hf_31 286 (by decide)).trans hc_21
      have hc_66 : σ_52 287 = q_an G 1681 ns := (hf_31 287 (by decide)).trans hc_22
      have hc_67 : σ_52 288 = q_an G 2000 mk := (hf_31 288 (by decide)).trans hc_23
      have hc_68 : σ_52 289 = q_an G 6724 va := (hf_31 289 (by decide)).trans hc_24
      have hc_69 : σ_52 290 = q_an G 6724 sp := (hf_31 290 (by decide)).trans hc_25
      have hc_70 : σ_52 291 = q_an G 80 lp := (hf_31 291 (by decide)).trans hc_26
      have hc_71 : σ_52 292 = q_an G 600 f := (hf_31 292 (by decide)).trans hc_27
      have hc_72 : σ_52 293 = q_an G 300 ou := (hf_31 293 (by decide)).trans hc_28
      have hc_73 : σ_52 295 = q_dn G 1 oD := (hf_31 295 (by decide)).trans hc_29
      have hc_74 : σ_52 294 = q_ln G 1 (va_up oL 0 ((nI (s_ptn (s_rule g r1C) a1C)).toInt64)) := (hf_31 294 (by decide)).trans hc_2
      exact (Mhno r1C (by omega) Chre).elim
    · skip
      refine (?_ : AJ G K Q (kc + 2) (ks + 12) false 296 1399 [some (.ref bS), some (.ref (q_h G + 0)), some (.ref (q_h G + 279)), some (.ref (q_h G + 294)), some (.ref (q_h G + 295)), some (.int (nI (i))), some (.int (nI (0))), none, none] [.int (nI (0))] σ_52)
      have hc_32 : σ_52 279 = o11 G (upd F 7 (nI (2))) := hc_32
      have hc_75 : σ_52 0 = o10 G (nI (il)) (z2) (z3) := (hf_33 0 (by decide)).trans hc_8
      have hc_76 : σ_52 1 = q_an G 600 f := (hf_33 1 (by decide)).trans hc_9
      have hc_77 : σ_52 23 = o5 G (23) (nI (lo)) := (hf_33 23 (by decide)).trans hc_10
      have hc_78 : σ_52 24 = q_an G 256 o := (hf_33 24 (by decide)).trans hc_11
      have hc_79 : σ_52 224 = q_rn G 2 2 (fun j => some (243 + 18 * j)) := (hf_33 224 (by decide)).trans hc_12
      have hc_80 : σ_52 225 = q_bn G 2 kp := (hf_33 225 (by decide)).trans hc_13
      have hc_81 : σ_52 280 = q_an G 265 g := (hf_33 280 (by decide)).trans hc_15
      have hc_82 : σ_52 281 = q_an G 265 wk := (hf_33 281 (by decide)).trans hc_16
      have hc_83 : σ_52 282 = q_an G 265 as := (hf_33 282 (by decide)).trans hc_17
      have hc_84 : σ_52 283 = q_an G 530 sh := (hf_33 283 (by decide)).trans hc_18
      have hc_85 : σ_52 284 = q_an G 2120 a := (hf_33 284 (by decide)).trans hc_19
      have hc_86 : σ_52 285 = q_bn G 1681 fb := (hf_33 285 (by decide)).trans hc_20
      have hc_87 : σ_52 286 = q_an G 1681 nv := (hf_33 286 (by decide)).trans hc_21
      have hc_88 : σ_52 287 = q_an G 1681 ns := (hf_33 287 (by decide)).trans hc_22
      have hc_89 : σ_52 288 = q_an G 2000 mk := (hf_33 288 (by decide)).trans hc_23
      have hc_90 : σ_52 289 = q_an G 6724 va := (hf_33 289 (by decide)).trans hc_24
      have hc_91 : σ_52 290 = q_an G 6724 sp := (hf_33 290 (by decide)).trans hc_25
      have hc_92 : σ_52 291 = q_an G 80 lp := (hf_33 291 (by decide)).trans hc_26
      have hc_93 : σ_52 292 = q_an G 600 f := (hf_33 292 (by decide)).trans hc_27
      have hc_94 : σ_52 293 = q_an G 300 ou := (hf_33 293 (by decide)).trans hc_28
      have hc_95 : σ_52 295 = q_dn G 1 oD := (hf_33 295 (by decide)).trans hc_29
      have hc_96 : σ_52 294 = q_ln G 1 (va_up oL 0 ((nI (s_ptn (s_rule g r1C) a1C)).toInt64)) := (hf_33 294 (by decide)).trans hc_2
      have e_r : r1C = r1M := q_nI_inj (by omega) (by omega) (Chre.symm.trans Mhre)
      subst e_r
      exact (Mhnk a1C (by omega) Chke).elim
    · skip
      refine (?_ : AJ G K Q (kc + 2) (ks + 12) false 296 1399 [some (.ref bS), some (.ref (q_h G + 0)), some (.ref (q_h G + 279)), some (.ref (q_h G + 294)), some (.ref (q_h G + 295)), some (.int (nI (i))), some (.int (nI (0))), none, none] [.int (nI (s_ptn (s_rule g r1M) a1M))] σ_52)
      have hc_34 : σ_52 279 = o11 G (upd (upd (upd F 7 (nI (0))) 12 (nI (mcqM))) 16 (nI (zqM))) := hc_34
      have hc_97 : σ_52 0 = o10 G (nI (il)) (z2) (z3) := (hf_42 0 (by decide)).trans hc_8
      have hc_98 : σ_52 1 = q_an G 600 f := (hf_42 1 (by decide)).trans hc_9
      have hc_99 : σ_52 23 = o5 G (23) (nI (lo)) := (hf_42 23 (by decide)).trans hc_10
      have hc_100 : σ_52 24 = q_an G 256 o := (hf_42 24 (by decide)).trans hc_11
      have hc_101 : σ_52 224 = q_rn G 2 2 (fun j => some (243 + 18 * j)) := (hf_42 224 (by decide)).trans hc_12
      have hc_102 : σ_52 225 = q_bn G 2 kp := (hf_42 225 (by decide)).trans hc_13
      have hc_103 : σ_52 280 = q_an G 265 g := (hf_42 280 (by decide)).trans hc_15
      have hc_104 : σ_52 281 = q_an G 265 wk := (hf_42 281 (by decide)).trans hc_16
      have hc_105 : σ_52 282 = q_an G 265 as := (hf_42 282 (by decide)).trans hc_17
      have hc_106 : σ_52 283 = q_an G 530 sh := (hf_42 283 (by decide)).trans hc_18
      have hc_107 : σ_52 284 = q_an G 2120 a := (hf_42 284 (by decide)).trans hc_19
      have hc_108 : σ_52 292 = q_an G 600 f := (hf_42 292 (by decide)).trans hc_27
      have hc_109 : σ_52 293 = q_an G 300 ou := (hf_42 293 (by decide)).trans hc_28
      have hc_110 : σ_52 295 = q_dn G 1 oD := (hf_42 295 (by decide)).trans hc_29
      have hc_111 : σ_52 294 = q_ln G 1 (va_up oL 0 ((nI (s_ptn (s_rule g r1C) a1C)).toInt64)) := (hf_42 294 (by decide)).trans hc_2
      have e_r : r1C = r1M := q_nI_inj (by omega) (by omega) (Chre.symm.trans Mhre)
      subst e_r
      have e_k : a1C = a1M := q_nI_inj (by omega) (by omega) (Chke.symm.trans Mhke)
      subst e_k
      refine A_istore hg dL_law_1399 (by decide) (q_c1d rfl) ?_
      refine A_eq (ls2 := [some (.ref bS), some (.ref (q_h G + 0)), some (.ref (q_h G + 279)), some (.ref (q_h G + 294)), some (.ref (q_h G + 295)), some (.int (nI (i))), some (.int (nI (0))), some (.int (nI (s_ptn (s_rule g r1C) a1C))), none]) (st2 := []) (pc2 := 0) rfl rfl ?_
      refine A_aload_n hg dL_law_1401 rfl rfl ?_
      refine A_eV (kc2 := kc + 2) (ks2 := ks + 12) (As := []) (rest := []) hg lk_RL_170 in_X11_thrown se_X11_thrown rfl dL_law_1402 ⟨by decide, by decide⟩ rfl rfl (hfK 2 12 (by decide) (by decide)) hc_34 (by omega) rfl rfl (Nat.le_of_ble_eq_true rfl) (c_X11_thrown G false 296 σ_52 (upd (upd (upd F 7 (nI (0))) 12 (nI (mcqM))) 16 (nI (zqM))) hc_34 (by omega)) ?_
      refine A_top (w := .int (nI (0))) (congrArg Value.int rfl) ?_
      refine A_iload hg dL_law_1405 rfl ?_
      refine A_icmp_eqN (tgt := 1412) hg dL_law_1407 (by decide) (by decide) (by decide) (fun c1407 => ?_) (fun c1407 => False.elim (by omega))
      refine A_iload hg dL_law_1412 rfl ?_
      refine A_if_neN (tgt := 1429) hg dL_law_1414 (by decide) (by decide) (fun c1414 => absurd (by decide) c1414) (fun c1414 => ?_)
      refine A_aload_n hg dL_law_1417 rfl rfl ?_
      refine A_iconst (v := (nI (0))) hg dL_law_1418 (by decide) ?_
      refine A_lald (j := 0) hg dL_law_1419 hc_111 (by omega) (by decide) (by decide) ?_
      refine A_top (w := .long ((nI (s_ptn (s_rule g r1C) a1C)).toInt64)) (congrArg Value.long iv_up0) ?_
      refine A_iload hg dL_law_1420 rfl ?_
      refine A_i2l (v := (nI (s_ptn (s_rule g r1C) a1C)).toInt64) hg dL_law_1422 rfl ?_
      refine A_lcmp hg dL_law_1423 ?_
      refine A_top (w := .int (nI 0)) (congrArg Value.int (lc_self _)) ?_
      refine A_if_eqN (tgt := 1429) hg dL_law_1424 (by decide) (by decide) (fun c1424 => ?_) (fun c1424 => absurd (by decide) c1424)
      refine A_goto (tgt := 3062) hg dL_law_1429 (by decide) ?_
      refine A_drop 6 ?_
      refine A_drop 7 ?_
      refine A_eq (ls2 := [some (.ref bS), some (.ref (q_h G + 0)), some (.ref (q_h G + 279)), some (.ref (q_h G + 294)), some (.ref (q_h G + 295)), some (.int (nI (i))), none, none, none]) (st2 := []) (pc2 := 0) rfl rfl ?_
      refine A_wide (kc2 := kc + 8) (ks2 := ks + 48) (by omega) (by omega) ?_
      exact hnxt _ (iv_mk il z2 z3 f lo o g nx m ps kp sn (upd (upd (upd F 7 (nI (0))) 12 (nI (mcqM))) 16 (nI (zqM))) wk as sh a fqM nvqM nsqM mkqM vaqM spqM loqM mcqM zqM ss ou (va_up oL 0 ((nI (s_ptn (s_rule g r1C) a1C)).toInt64)) oD hc_97 hc_98 hc_99 hc_100 hc_101 hc_102 hc_34 hc_103 hc_104 hc_105 hc_106 hc_107 hc_35 hc_36 hc_37 hc_38 hc_39 hc_40 hc_41 hc_108 hc_109 hc_111 hc_110 (x_lj_e (fun i _ _ => ((hf_42 i (by omega)).trans (hf_3 i (by omega)))) hL) (x_gm_e (fun i _ _ => ((hf_42 i (by omega)).trans (hf_3 i (by omega)))) hG) (x_mx_e (fun i _ _ => (hf_42 i (by omega))) ChM2) (x_hi_e (fun i _ _ => ((hf_42 i (by omega)).trans (hf_3 i (by omega)))) hHi) (x_oj_e (fun i _ _ => ((hf_42 i (by omega)).trans (hf_3 i (by omega)))) hO) (x_pj_e (fun i _ _ => ((hf_42 i (by omega)).trans (hf_3 i (by omega)))) hT) (iv_hn (fun i _ _ => ((hf_42 i (by omega)).trans (hf_3 i (by omega)))) hH) (iv_Sn (fun i _ _ => ((hf_42 i (by omega)).trans (hf_3 i (by omega)))) hSn) (iv_Kp (fun i _ _ => ((hf_42 i (by omega)).trans (hf_3 i (by omega)))) hKp) (by omega) hfb (by omega) hou hgd hps hk1 hkss hss hsn hF5 hF6 rfl rfl hF21 hF22 hF23 hF33 (by omega) Mhmk MhTI Mhlo)
    · skip
      refine (?_ : AJ G K Q (kc + 2) (ks + 12) false 296 1399 [some (.ref bS), some (.ref (q_h G + 0)), some (.ref (q_h G + 279)), some (.ref (q_h G + 294)), some (.ref (q_h G + 295)), some (.int (nI (i))), some (.int (nI (0))), none, none] [.int (q_d (0))] σ_52)
      have hc_43 : σ_52 279 = o11 G (upd (upd (upd F 7 (nI (0))) 12 (nI (mcqM))) 16 (nI (zqM))) := hc_43
      have hc_112 : σ_52 0 = o10 G (nI (il)) (z2) (z3) := (hf_51 0 (by decide)).trans hc_8
      have hc_113 : σ_52 1 = q_an G 600 f := (hf_51 1 (by decide)).trans hc_9
      have hc_114 : σ_52 23 = o5 G (23) (nI (lo)) := (hf_51 23 (by decide)).trans hc_10
      have hc_115 : σ_52 24 = q_an G 256 o := (hf_51 24 (by decide)).trans hc_11
      have hc_116 : σ_52 224 = q_rn G 2 2 (fun j => some (243 + 18 * j)) := (hf_51 224 (by decide)).trans hc_12
      have hc_117 : σ_52 225 = q_bn G 2 kp := (hf_51 225 (by decide)).trans hc_13
      have hc_118 : σ_52 280 = q_an G 265 g := (hf_51 280 (by decide)).trans hc_15
      have hc_119 : σ_52 281 = q_an G 265 wk := (hf_51 281 (by decide)).trans hc_16
      have hc_120 : σ_52 282 = q_an G 265 as := (hf_51 282 (by decide)).trans hc_17
      have hc_121 : σ_52 283 = q_an G 530 sh := (hf_51 283 (by decide)).trans hc_18
      have hc_122 : σ_52 284 = q_an G 2120 a := (hf_51 284 (by decide)).trans hc_19
      have hc_123 : σ_52 292 = q_an G 600 f := (hf_51 292 (by decide)).trans hc_27
      have hc_124 : σ_52 293 = q_an G 300 ou := (hf_51 293 (by decide)).trans hc_28
      have hc_125 : σ_52 295 = q_dn G 1 oD := (hf_51 295 (by decide)).trans hc_29
      have hc_126 : σ_52 294 = q_ln G 1 (va_up oL 0 ((nI (s_ptn (s_rule g r1C) a1C)).toInt64)) := (hf_51 294 (by decide)).trans hc_2
      have e_r : r1C = r1M := q_nI_inj (by omega) (by omega) (Chre.symm.trans Mhre)
      subst e_r
      have e_k : a1C = a1M := q_nI_inj (by omega) (by omega) (Chke.symm.trans Mhke)
      subst e_k
      exact absurd (Chany.symm.trans Mhany) (by decide)
  · skip
    refine (?_ : AJ G K Q (kc + 2) (ks + 12) false 296 1381 [some (.ref bS), some (.ref (q_h G + 0)), some (.ref (q_h G + 279)), some (.ref (q_h G + 294)), some (.ref (q_h G + 295)), some (.int (nI (i))), none, none, none] [.int (nI (0))] σ_1)
    have hc_127 : σ_1 0 = o10 G (nI (il)) (z2) (z3) := (hf_5 0 (by decide)).trans hv0
    have hc_128 : σ_1 1 = q_an G 600 f := (hf_5 1 (by decide)).trans hv1
    have hc_129 : σ_1 23 = o5 G (23) (nI (lo)) := (hf_5 23 (by decide)).trans hv2
    have hc_130 : σ_1 24 = q_an G 256 o := (hf_5 24 (by decide)).trans hv3
    have hc_131 : σ_1 224 = q_rn G 2 2 (fun j => some (243 + 18 * j)) := (hf_5 224 (by decide)).trans hv4
    have hc_132 : σ_1 225 = q_bn G 2 kp := (hf_5 225 (by decide)).trans hv5
    have hc_133 : σ_1 279 = o11 G F := (hf_5 279 (by decide)).trans hv6
    have hc_134 : σ_1 280 = q_an G 265 g := (hf_5 280 (by decide)).trans hv7
    have hc_135 : σ_1 281 = q_an G 265 wk := (hf_5 281 (by decide)).trans hv8
    have hc_136 : σ_1 282 = q_an G 265 as := (hf_5 282 (by decide)).trans hv9
    have hc_137 : σ_1 283 = q_an G 530 sh := (hf_5 283 (by decide)).trans hv10
    have hc_138 : σ_1 284 = q_an G 2120 a := (hf_5 284 (by decide)).trans hv11
    have hc_139 : σ_1 285 = q_bn G 1681 fb := (hf_5 285 (by decide)).trans hv12
    have hc_140 : σ_1 286 = q_an G 1681 nv := (hf_5 286 (by decide)).trans hv13
    have hc_141 : σ_1 287 = q_an G 1681 ns := (hf_5 287 (by decide)).trans hv14
    have hc_142 : σ_1 288 = q_an G 2000 mk := (hf_5 288 (by decide)).trans hv15
    have hc_143 : σ_1 289 = q_an G 6724 va := (hf_5 289 (by decide)).trans hv16
    have hc_144 : σ_1 290 = q_an G 6724 sp := (hf_5 290 (by decide)).trans hv17
    have hc_145 : σ_1 291 = q_an G 80 lp := (hf_5 291 (by decide)).trans hv18
    have hc_146 : σ_1 292 = q_an G 600 f := (hf_5 292 (by decide)).trans hv19
    have hc_147 : σ_1 293 = q_an G 300 ou := (hf_5 293 (by decide)).trans hv20
    have hc_148 : σ_1 295 = q_dn G 1 oD := (hf_5 295 (by decide)).trans hv22
    refine A_istore hg dL_law_1381 (by decide) (q_c1d rfl) ?_
    refine A_eq (ls2 := [some (.ref bS), some (.ref (q_h G + 0)), some (.ref (q_h G + 279)), some (.ref (q_h G + 294)), some (.ref (q_h G + 295)), some (.int (nI (i))), some (.int (nI (0))), none, none]) (st2 := []) (pc2 := 0) rfl rfl ?_
    refine A_aload_n hg dL_law_1383 rfl rfl ?_
    refine A_aload_n hg dL_law_1384 rfl rfl ?_
    refine A_iload hg dL_law_1385 rfl ?_
    refine A_iconst (v := (nI (1))) hg dL_law_1387 (by decide) ?_
    refine A_iaddN hg dL_law_1388 ?_
    refine A_sld hg hX (i + 1) (by omega) dL_law_1389 ?_
    refine A_aload_n hg dL_law_1390 rfl rfl ?_
    refine A_iload hg dL_law_1391 rfl ?_
    refine A_iconst (v := (nI (2))) hg dL_law_1393 (by decide) ?_
    refine A_iaddN hg dL_law_1394 ?_
    refine A_sld hg hX (i + 2) (by omega) dL_law_1395 ?_
    refine A_hV (kc2 := kc + 2) (ks2 := ks + 12) (As := [.int (xs (i + 1)), .int (xs (i + 2))]) (rest := []) hg lk_RL_214 in_X11_partner se_X11_partner rfl dL_law_1396 ⟨by decide, by decide⟩ rfl rfl (hfK 2 12 (by decide) (by decide)) hc_133 (by omega) rfl rfl (Nat.le_of_ble_eq_true rfl) (c_X11_partner G false 296 σ_1 F g fb nv ns mk va sp lp mc z (xs (i + 1)) (xs (i + 2)) hc_133 hc_134 hc_139 hc_140 hc_141 hc_142 hc_143 hc_144 hc_145 (by omega) hg9 (by omega) hF12 hF16 hmk hTI hlo) ?_
    rintro _ σ_171 (⟨rfl, Mhno, hc_149, hf_150⟩ | ⟨r1M, rfl, Mhre, Mhrl, Mhnk, hc_151, hf_152⟩ | ⟨r1M, a1M, fqM, nvqM, nsqM, mkqM, vaqM, spqM, loqM, mcqM, zqM, rfl, Mhre, Mhrl, Mhke, Mhkl, Mhany, MhTI, Mhmc, Mhmk, Mhlo, hc_153, hc_154, hc_155, hc_156, hc_157, hc_158, hc_159, hc_160, hf_161⟩ | ⟨r1M, a1M, fqM, nvqM, nsqM, mkqM, vaqM, spqM, loqM, mcqM, zqM, rfl, Mhre, Mhrl, Mhke, Mhkl, Mhany, MhTI, Mhmc, Mhmk, Mhlo, hc_162, hc_163, hc_164, hc_165, hc_166, hc_167, hc_168, hc_169, hf_170⟩)
    · skip
      refine (?_ : AJ G K Q (kc + 2) (ks + 12) false 296 1399 [some (.ref bS), some (.ref (q_h G + 0)), some (.ref (q_h G + 279)), some (.ref (q_h G + 294)), some (.ref (q_h G + 295)), some (.int (nI (i))), some (.int (nI (0))), none, none] [.int (nI (0))] σ_171)
      have hc_149 : σ_171 279 = o11 G (upd F 7 (nI (1))) := hc_149
      have hc_172 : σ_171 0 = o10 G (nI (il)) (z2) (z3) := (hf_150 0 (by decide)).trans hc_127
      have hc_173 : σ_171 1 = q_an G 600 f := (hf_150 1 (by decide)).trans hc_128
      have hc_174 : σ_171 23 = o5 G (23) (nI (lo)) := (hf_150 23 (by decide)).trans hc_129
      have hc_175 : σ_171 24 = q_an G 256 o := (hf_150 24 (by decide)).trans hc_130
      have hc_176 : σ_171 224 = q_rn G 2 2 (fun j => some (243 + 18 * j)) := (hf_150 224 (by decide)).trans hc_131
      have hc_177 : σ_171 225 = q_bn G 2 kp := (hf_150 225 (by decide)).trans hc_132
      have hc_178 : σ_171 280 = q_an G 265 g := (hf_150 280 (by decide)).trans hc_134
      have hc_179 : σ_171 281 = q_an G 265 wk := (hf_150 281 (by decide)).trans hc_135
      have hc_180 : σ_171 282 = q_an G 265 as := (hf_150 282 (by decide)).trans hc_136
      have hc_181 : σ_171 283 = q_an G 530 sh := (hf_150 283 (by decide)).trans hc_137
      have hc_182 : σ_171 284 = q_an G 2120 a := (hf_150 284 (by decide)).trans hc_138
      have hc_183 : σ_171 285 = q_bn G 1681 fb := (hf_150 285 (by decide)).trans hc_139
      have hc_184 : σ_171 286 = q_an G 1681 nv := (hf_150 286 (by decide)).trans hc_140
      have hc_185 : σ_171 287 = q_an G 1681 ns := (hf_150 287 (by decide)).trans hc_141
      have hc_186 : σ_171 288 = q_an G 2000 mk := (hf_150 288 (by decide)).trans hc_142
      have hc_187 : σ_171 289 = q_an G 6724 va := (hf_150 289 (by decide)).trans hc_143
      have hc_188 : σ_171 290 = q_an G 6724 sp := (hf_150 290 (by decide)).trans hc_144
      have hc_189 : σ_171 291 = q_an G 80 lp := (hf_150 291 (by decide)).trans hc_145
      have hc_190 : σ_171 292 = q_an G 600 f := (hf_150 292 (by decide)).trans hc_146
      have hc_191 : σ_171 293 = q_an G 300 ou := (hf_150 293 (by decide)).trans hc_147
      have hc_192 : σ_171 295 = q_dn G 1 oD := (hf_150 295 (by decide)).trans hc_148
      have hc_193 : σ_171 294 = q_ln G 1 (va_up oL 0 ((q_d (0)).toInt64)) := (hf_150 294 (by decide)).trans hc_4
      exact (Mhno r1C (by omega) Chre).elim
    · skip
      refine (?_ : AJ G K Q (kc + 2) (ks + 12) false 296 1399 [some (.ref bS), some (.ref (q_h G + 0)), some (.ref (q_h G + 279)), some (.ref (q_h G + 294)), some (.ref (q_h G + 295)), some (.int (nI (i))), some (.int (nI (0))), none, none] [.int (nI (0))] σ_171)
      have hc_151 : σ_171 279 = o11 G (upd F 7 (nI (2))) := hc_151
      have hc_194 : σ_171 0 = o10 G (nI (il)) (z2) (z3) := (hf_152 0 (by decide)).trans hc_127
      have hc_195 : σ_171 1 = q_an G 600 f := (hf_152 1 (by decide)).trans hc_128
      have hc_196 : σ_171 23 = o5 G (23) (nI (lo)) := (hf_152 23 (by decide)).trans hc_129
      have hc_197 : σ_171 24 = q_an G 256 o := (hf_152 24 (by decide)).trans hc_130
      have hc_198 : σ_171 224 = q_rn G 2 2 (fun j => some (243 + 18 * j)) := (hf_152 224 (by decide)).trans hc_131
      have hc_199 : σ_171 225 = q_bn G 2 kp := (hf_152 225 (by decide)).trans hc_132
      have hc_200 : σ_171 280 = q_an G 265 g := (hf_152 280 (by decide)).trans hc_134
      have hc_201 : σ_171 281 = q_an G 265 wk := (hf_152 281 (by decide)).trans hc_135
      have hc_202 : σ_171 282 = q_an G 265 as := (hf_152 282 (by decide)).trans hc_136
      have hc_203 : σ_171 283 = q_an G 530 sh := (hf_152 283 (by decide)).trans hc_137
      have hc_204 : σ_171 284 = q_an G 2120 a := (hf_152 284 (by decide)).trans hc_138
      have hc_205 : σ_171 285 = q_bn G 1681 fb := (hf_152 285 (by decide)).trans hc_139
      have hc_206 : σ_171 286 = q_an G 1681 nv := (hf_152 286 (by decide)).trans hc_140
      have hc_207 : σ_171 287 = q_an G 1681 ns := (hf_152 287 (by decide)).trans hc_141
      have hc_208 : σ_171 288 = q_an G 2000 mk := (hf_152 288 (by decide)).trans hc_142
      have hc_209 : σ_171 289 = q_an G 6724 va := (hf_152 289 (by decide)).trans hc_143
      have hc_210 : σ_171 290 = q_an G 6724 sp := (hf_152 290 (by decide)).trans hc_144
      have hc_211 : σ_171 291 = q_an G 80 lp := (hf_152 291 (by decide)).trans hc_145
      have hc_212 : σ_171 292 = q_an G 600 f := (hf_152 292 (by decide)).trans hc_146
      have hc_213 : σ_171 293 = q_an G 300 ou := (hf_152 293 (by decide)).trans hc_147
      have hc_214 : σ_171 295 = q_dn G 1 oD := (hf_152 295 (by decide)).trans hc_148
      have hc_215 : σ_171 294 = q_ln G 1 (va_up oL 0 ((q_d (0)).toInt64)) := (hf_152 294 (by decide)).trans hc_4
      have e_r : r1C = r1M := q_nI_inj (by omega) (by omega) (Chre.symm.trans Mhre)
      subst e_r
      exact (Mhnk a1C (by omega) Chke).elim
    · skip
      refine (?_ : AJ G K Q (kc + 2) (ks + 12) false 296 1399 [some (.ref bS), some (.ref (q_h G + 0)), some (.ref (q_h G + 279)), some (.ref (q_h G + 294)), some (.ref (q_h G + 295)), some (.int (nI (i))), some (.int (nI (0))), none, none] [.int (nI (s_ptn (s_rule g r1M) a1M))] σ_171)
      have hc_153 : σ_171 279 = o11 G (upd (upd (upd F 7 (nI (0))) 12 (nI (mcqM))) 16 (nI (zqM))) := hc_153
      have hc_216 : σ_171 0 = o10 G (nI (il)) (z2) (z3) := (hf_161 0 (by decide)).trans hc_127
      have hc_217 : σ_171 1 = q_an G 600 f := (hf_161 1 (by decide)).trans hc_128
      have hc_218 : σ_171 23 = o5 G (23) (nI (lo)) := (hf_161 23 (by decide)).trans hc_129
      have hc_219 : σ_171 24 = q_an G 256 o := (hf_161 24 (by decide)).trans hc_130
      have hc_220 : σ_171 224 = q_rn G 2 2 (fun j => some (243 + 18 * j)) := (hf_161 224 (by decide)).trans hc_131
      have hc_221 : σ_171 225 = q_bn G 2 kp := (hf_161 225 (by decide)).trans hc_132
      have hc_222 : σ_171 280 = q_an G 265 g := (hf_161 280 (by decide)).trans hc_134
      have hc_223 : σ_171 281 = q_an G 265 wk := (hf_161 281 (by decide)).trans hc_135
      have hc_224 : σ_171 282 = q_an G 265 as := (hf_161 282 (by decide)).trans hc_136
      have hc_225 : σ_171 283 = q_an G 530 sh := (hf_161 283 (by decide)).trans hc_137
      have hc_226 : σ_171 284 = q_an G 2120 a := (hf_161 284 (by decide)).trans hc_138
      have hc_227 : σ_171 292 = q_an G 600 f := (hf_161 292 (by decide)).trans hc_146
      have hc_228 : σ_171 293 = q_an G 300 ou := (hf_161 293 (by decide)).trans hc_147
      have hc_229 : σ_171 295 = q_dn G 1 oD := (hf_161 295 (by decide)).trans hc_148
      have hc_230 : σ_171 294 = q_ln G 1 (va_up oL 0 ((q_d (0)).toInt64)) := (hf_161 294 (by decide)).trans hc_4
      have e_r : r1C = r1M := q_nI_inj (by omega) (by omega) (Chre.symm.trans Mhre)
      subst e_r
      have e_k : a1C = a1M := q_nI_inj (by omega) (by omega) (Chke.symm.trans Mhke)
      subst e_k
      exact absurd (Mhany.symm.trans Chany) (by decide)
    · skip
      refine (?_ : AJ G K Q (kc + 2) (ks + 12) false 296 1399 [some (.ref bS), some (.ref (q_h G + 0)), some (.ref (q_h G + 279)), some (.ref (q_h G + 294)), some (.ref (q_h G + 295)), some (.int (nI (i))), some (.int (nI (0))), none, none] [.int (q_d (0))] σ_171)
      have hc_162 : σ_171 279 = o11 G (upd (upd (upd F 7 (nI (0))) 12 (nI (mcqM))) 16 (nI (zqM))) := hc_162
      have hc_231 : σ_171 0 = o10 G (nI (il)) (z2) (z3) := (hf_170 0 (by decide)).trans hc_127
      have hc_232 : σ_171 1 = q_an G 600 f := (hf_170 1 (by decide)).trans hc_128
      have hc_233 : σ_171 23 = o5 G (23) (nI (lo)) := (hf_170 23 (by decide)).trans hc_129
      have hc_234 : σ_171 24 = q_an G 256 o := (hf_170 24 (by decide)).trans hc_130
      have hc_235 : σ_171 224 = q_rn G 2 2 (fun j => some (243 + 18 * j)) := (hf_170 224 (by decide)).trans hc_131
      have hc_236 : σ_171 225 = q_bn G 2 kp := (hf_170 225 (by decide)).trans hc_132
      have hc_237 : σ_171 280 = q_an G 265 g := (hf_170 280 (by decide)).trans hc_134
      have hc_238 : σ_171 281 = q_an G 265 wk := (hf_170 281 (by decide)).trans hc_135
      have hc_239 : σ_171 282 = q_an G 265 as := (hf_170 282 (by decide)).trans hc_136
      have hc_240 : σ_171 283 = q_an G 530 sh := (hf_170 283 (by decide)).trans hc_137
      have hc_241 : σ_171 284 = q_an G 2120 a := (hf_170 284 (by decide)).trans hc_138
      have hc_242 : σ_171 292 = q_an G 600 f := (hf_170 292 (by decide)).trans hc_146
      have hc_243 : σ_171 293 = q_an G 300 ou := (hf_170 293 (by decide)).trans hc_147
      have hc_244 : σ_171 295 = q_dn G 1 oD := (hf_170 295 (by decide)).trans hc_148
      have hc_245 : σ_171 294 = q_ln G 1 (va_up oL 0 ((q_d (0)).toInt64)) := (hf_170 294 (by decide)).trans hc_4
      have e_r : r1C = r1M := q_nI_inj (by omega) (by omega) (Chre.symm.trans Mhre)
      subst e_r
      have e_k : a1C = a1M := q_nI_inj (by omega) (by omega) (Chke.symm.trans Mhke)
      subst e_k
      refine A_istore hg dL_law_1399 (by decide) (q_c1d rfl) ?_
      refine A_eq (ls2 := [some (.ref bS), some (.ref (q_h G + 0)), some (.ref (q_h G + 279)), some (.ref (q_h G + 294)), some (.ref (q_h G + 295)), some (.int (nI (i))), some (.int (nI (0))), some (.int (q_d (0))), none]) (st2 := []) (pc2 := 0) rfl rfl ?_
      refine A_aload_n hg dL_law_1401 rfl rfl ?_
      refine A_eV (kc2 := kc + 2) (ks2 := ks + 12) (As := []) (rest := []) hg lk_RL_170 in_X11_thrown se_X11_thrown rfl dL_law_1402 ⟨by decide, by decide⟩ rfl rfl (hfK 2 12 (by decide) (by decide)) hc_162 (by omega) rfl rfl (Nat.le_of_ble_eq_true rfl) (c_X11_thrown G false 296 σ_171 (upd (upd (upd F 7 (nI (0))) 12 (nI (mcqM))) 16 (nI (zqM))) hc_162 (by omega)) ?_
      refine A_top (w := .int (nI (0))) (congrArg Value.int rfl) ?_
      refine A_iload hg dL_law_1405 rfl ?_
      refine A_icmp_eqN (tgt := 1412) hg dL_law_1407 (by decide) (by decide) (by decide) (fun c1407 => ?_) (fun c1407 => False.elim (by omega))
      refine A_iload hg dL_law_1412 rfl ?_
      refine A_if_neN (tgt := 1429) hg dL_law_1414 (by decide) (by decide) (fun c1414 => absurd (by decide) c1414) (fun c1414 => ?_)
      refine A_aload_n hg dL_law_1417 rfl rfl ?_
      refine A_iconst (v := (nI (0))) hg dL_law_1418 (by decide) ?_
      refine A_lald (j := 0) hg dL_law_1419 hc_245 (by omega) (by decide) (by decide) ?_
      refine A_top (w := .long ((q_d (0)).toInt64)) (congrArg Value.long iv_up0) ?_
      refine A_iload hg dL_law_1420 rfl ?_
      refine A_i2l (v := (q_d (0)).toInt64) hg dL_law_1422 rfl ?_
      refine A_lcmp hg dL_law_1423 ?_
      refine A_top (w := .int (nI 0)) (congrArg Value.int (lc_self _)) ?_
      refine A_if_eqN (tgt := 1429) hg dL_law_1424 (by decide) (by decide) (fun c1424 => ?_) (fun c1424 => absurd (by decide) c1424)
      refine A_goto (tgt := 3062) hg dL_law_1429 (by decide) ?_
      refine A_drop 6 ?_
      refine A_drop 7 ?_
      refine A_eq (ls2 := [some (.ref bS), some (.ref (q_h G + 0)), some (.ref (q_h G + 279)), some (.ref (q_h G + 294)), some (.ref (q_h G + 295)), some (.int (nI (i))), none, none, none]) (st2 := []) (pc2 := 0) rfl rfl ?_
      refine A_wide (kc2 := kc + 8) (ks2 := ks + 48) (by omega) (by omega) ?_
      exact hnxt _ (iv_mk il z2 z3 f lo o g nx m ps kp sn (upd (upd (upd F 7 (nI (0))) 12 (nI (mcqM))) 16 (nI (zqM))) wk as sh a fqM nvqM nsqM mkqM vaqM spqM loqM mcqM zqM ss ou (va_up oL 0 ((q_d (0)).toInt64)) oD hc_231 hc_232 hc_233 hc_234 hc_235 hc_236 hc_162 hc_237 hc_238 hc_239 hc_240 hc_241 hc_163 hc_164 hc_165 hc_166 hc_167 hc_168 hc_169 hc_242 hc_243 hc_245 hc_244 (x_lj_e (fun i _ _ => ((hf_170 i (by omega)).trans (hf_5 i (by omega)))) hL) (x_gm_e (fun i _ _ => ((hf_170 i (by omega)).trans (hf_5 i (by omega)))) hG) (x_mx_e (fun i _ _ => (hf_170 i (by omega))) ChM2) (x_hi_e (fun i _ _ => ((hf_170 i (by omega)).trans (hf_5 i (by omega)))) hHi) (x_oj_e (fun i _ _ => ((hf_170 i (by omega)).trans (hf_5 i (by omega)))) hO) (x_pj_e (fun i _ _ => ((hf_170 i (by omega)).trans (hf_5 i (by omega)))) hT) (iv_hn (fun i _ _ => ((hf_170 i (by omega)).trans (hf_5 i (by omega)))) hH) (iv_Sn (fun i _ _ => ((hf_170 i (by omega)).trans (hf_5 i (by omega)))) hSn) (iv_Kp (fun i _ _ => ((hf_170 i (by omega)).trans (hf_5 i (by omega)))) hKp) (by omega) hfb (by omega) hou hgd hps hk1 hkss hss hsn hF5 hF6 rfl rfl hF21 hF22 hF23 hF33 (by omega) Mhmk MhTI Mhlo)
  · skip
    rw [he_6]
    refine (?_ : AJ G K Q (kc + 2) (ks + 12) false 296 1381 [some (.ref bS), some (.ref (q_h G + 0)), some (.ref (q_h G + 279)), some (.ref (q_h G + 294)), some (.ref (q_h G + 295)), some (.int (nI (i))), none, none, none] [.int (nI (1))] σ)
    refine A_istore hg dL_law_1381 (by decide) (q_c1d rfl) ?_
    refine A_eq (ls2 := [some (.ref bS), some (.ref (q_h G + 0)), some (.ref (q_h G + 279)), some (.ref (q_h G + 294)), some (.ref (q_h G + 295)), some (.int (nI (i))), some (.int (nI (1))), none, none]) (st2 := []) (pc2 := 0) rfl rfl ?_
    refine A_aload_n hg dL_law_1383 rfl rfl ?_
    refine A_aload_n hg dL_law_1384 rfl rfl ?_
    refine A_iload hg dL_law_1385 rfl ?_
    refine A_iconst (v := (nI (1))) hg dL_law_1387 (by decide) ?_
    refine A_iaddN hg dL_law_1388 ?_
    refine A_sld hg hX (i + 1) (by omega) dL_law_1389 ?_
    refine A_aload_n hg dL_law_1390 rfl rfl ?_
    refine A_iload hg dL_law_1391 rfl ?_
    refine A_iconst (v := (nI (2))) hg dL_law_1393 (by decide) ?_
    refine A_iaddN hg dL_law_1394 ?_
    refine A_sld hg hX (i + 2) (by omega) dL_law_1395 ?_
    refine A_hV (kc2 := kc + 2) (ks2 := ks + 12) (As := [.int (xs (i + 1)), .int (xs (i + 2))]) (rest := []) hg lk_RL_214 in_X11_partner se_X11_partner rfl dL_law_1396 ⟨by decide, by decide⟩ rfl rfl (hfK 2 12 (by decide) (by decide)) hv6 (by omega) rfl rfl (Nat.le_of_ble_eq_true rfl) (c_X11_partner G false 296 σ F g fb nv ns mk va sp lp mc z (xs (i + 1)) (xs (i + 2)) hv6 hv7 hv12 hv13 hv14 hv15 hv16 hv17 hv18 (by omega) hg9 (by omega) hF12 hF16 hmk hTI hlo) ?_
    rintro _ σ_268 (⟨rfl, Mhno, hc_246, hf_247⟩ | ⟨r1M, rfl, Mhre, Mhrl, Mhnk, hc_248, hf_249⟩ | ⟨r1M, a1M, fqM, nvqM, nsqM, mkqM, vaqM, spqM, loqM, mcqM, zqM, rfl, Mhre, Mhrl, Mhke, Mhkl, Mhany, MhTI, Mhmc, Mhmk, Mhlo, hc_250, hc_251, hc_252, hc_253, hc_254, hc_255, hc_256, hc_257, hf_258⟩ | ⟨r1M, a1M, fqM, nvqM, nsqM, mkqM, vaqM, spqM, loqM, mcqM, zqM, rfl, Mhre, Mhrl, Mhke, Mhkl, Mhany, MhTI, Mhmc, Mhmk, Mhlo, hc_259, hc_260, hc_261, hc_262, hc_263, hc_264, hc_265, hc_266, hf_267⟩)
    · skip
      refine (?_ : AJ G K Q (kc + 2) (ks + 12) false 296 1399 [some (.ref bS), some (.ref (q_h G + 0)), some (.ref (q_h G + 279)), some (.ref (q_h G + 294)), some (.ref (q_h G + 295)), some (.int (nI (i))), some (.int (nI (1))), none, none] [.int (nI (0))] σ_268)
      have hc_246 : σ_268 279 = o11 G (upd F 7 (nI (1))) := hc_246
      have hc_269 : σ_268 0 = o10 G (nI (il)) (z2) (z3) := (hf_247 0 (by decide)).trans hv0
      have hc_270 : σ_268 1 = q_an G 600 f := (hf_247 1 (by decide)).trans hv1
      have hc_271 : σ_268 23 = o5 G (23) (nI (lo)) := (hf_247 23 (by decide)).trans hv2
      have hc_272 : σ_268 24 = q_an G 256 o := (hf_247 24 (by decide)).trans hv3
      have hc_273 : σ_268 224 = q_rn G 2 2 (fun j => some (243 + 18 * j)) := (hf_247 224 (by decide)).trans hv4
      have hc_274 : σ_268 225 = q_bn G 2 kp := (hf_247 225 (by decide)).trans hv5
      have hc_275 : σ_268 280 = q_an G 265 g := (hf_247 280 (by decide)).trans hv7
      have hc_276 : σ_268 281 = q_an G 265 wk := (hf_247 281 (by decide)).trans hv8
      have hc_277 : σ_268 282 = q_an G 265 as := (hf_247 282 (by decide)).trans hv9
      have hc_278 : σ_268 283 = q_an G 530 sh := (hf_247 283 (by decide)).trans hv10
      have hc_279 : σ_268 284 = q_an G 2120 a := (hf_247 284 (by decide)).trans hv11
      have hc_280 : σ_268 285 = q_bn G 1681 fb := (hf_247 285 (by decide)).trans hv12
      have hc_281 : σ_268 286 = q_an G 1681 nv := (hf_247 286 (by decide)).trans hv13
      have hc_282 : σ_268 287 = q_an G 1681 ns := (hf_247 287 (by decide)).trans hv14
      have hc_283 : σ_268 288 = q_an G 2000 mk := (hf_247 288 (by decide)).trans hv15
      have hc_284 : σ_268 289 = q_an G 6724 va := (hf_247 289 (by decide)).trans hv16
      have hc_285 : σ_268 290 = q_an G 6724 sp := (hf_247 290 (by decide)).trans hv17
      have hc_286 : σ_268 291 = q_an G 80 lp := (hf_247 291 (by decide)).trans hv18
      have hc_287 : σ_268 292 = q_an G 600 f := (hf_247 292 (by decide)).trans hv19
      have hc_288 : σ_268 293 = q_an G 300 ou := (hf_247 293 (by decide)).trans hv20
      have hc_289 : σ_268 294 = q_ln G 1 oL := (hf_247 294 (by decide)).trans hv21
      have hc_290 : σ_268 295 = q_dn G 1 oD := (hf_247 295 (by decide)).trans hv22
      refine A_istore hg dL_law_1399 (by decide) (q_c1d rfl) ?_
      refine A_eq (ls2 := [some (.ref bS), some (.ref (q_h G + 0)), some (.ref (q_h G + 279)), some (.ref (q_h G + 294)), some (.ref (q_h G + 295)), some (.int (nI (i))), some (.int (nI (1))), some (.int (nI (0))), none]) (st2 := []) (pc2 := 0) rfl rfl ?_
      refine A_aload_n hg dL_law_1401 rfl rfl ?_
      refine A_eV (kc2 := kc + 2) (ks2 := ks + 12) (As := []) (rest := []) hg lk_RL_170 in_X11_thrown se_X11_thrown rfl dL_law_1402 ⟨by decide, by decide⟩ rfl rfl (hfK 2 12 (by decide) (by decide)) hc_246 (by omega) rfl rfl (Nat.le_of_ble_eq_true rfl) (c_X11_thrown G false 296 σ_268 (upd F 7 (nI (1))) hc_246 (by omega)) ?_
      refine A_top (w := .int (nI (1))) (congrArg Value.int rfl) ?_
      refine A_iload hg dL_law_1405 rfl ?_
      refine A_icmp_eqN (tgt := 1412) hg dL_law_1407 (by decide) (by decide) (by decide) (fun c1407 => ?_) (fun c1407 => False.elim (by omega))
      refine A_iload hg dL_law_1412 rfl ?_
      refine A_if_neN (tgt := 1429) hg dL_law_1414 (by decide) (by decide) (fun c1414 => ?_) (fun c1414 => absurd c1414 (by decide))
      refine A_goto (tgt := 3062) hg dL_law_1429 (by decide) ?_
      refine A_drop 6 ?_
      refine A_drop 7 ?_
      refine A_eq (ls2 := [some (.ref bS), some (.ref (q_h G + 0)), some (.ref (q_h G + 279)), some (.ref (q_h G + 294)), some (.ref (q_h G + 295)), some (.int (nI (i))), none, none, none]) (st2 := []) (pc2 := 0) rfl rfl ?_
      refine A_wide (kc2 := kc + 8) (ks2 := ks + 48) (by omega) (by omega) ?_
      exact hnxt _ (iv_mk il z2 z3 f lo o g nx m ps kp sn (upd F 7 (nI (1))) wk as sh a fb nv ns mk va sp lp mc z ss ou oL oD hc_269 hc_270 hc_271 hc_272 hc_273 hc_274 hc_246 hc_275 hc_276 hc_277 hc_278 hc_279 hc_280 hc_281 hc_282 hc_283 hc_284 hc_285 hc_286 hc_287 hc_288 hc_289 hc_290 (x_lj_e (fun i _ _ => (hf_247 i (by omega))) hL) (x_gm_e (fun i _ _ => (hf_247 i (by omega))) hG) (x_mx_e (fun i _ _ => (hf_247 i (by omega))) hM) (x_hi_e (fun i _ _ => (hf_247 i (by omega))) hHi) (x_oj_e (fun i _ _ => (hf_247 i (by omega))) hO) (x_pj_e (fun i _ _ => (hf_247 i (by omega))) hT) (iv_hn (fun i _ _ => (hf_247 i (by omega))) hH) (iv_Sn (fun i _ _ => (hf_247 i (by omega))) hSn) (iv_Kp (fun i _ _ => (hf_247 i (by omega))) hKp) (by omega) hfb (by omega) hou hgd hps hk1 hkss hss hsn hF5 hF6 hF12 hF16 hF21 hF22 hF23 hF33 (by omega) hmk hTI hlo)
    · skip
      refine (?_ : AJ G K Q (kc + 2) (ks + 12) false 296 1399 [some (.ref bS), some (.ref (q_h G + 0)), some (.ref (q_h G + 279)), some (.ref (q_h G + 294)), some (.ref (q_h G + 295)), some (.int (nI (i))), some (.int (nI (1))), none, none] [.int (nI (0))] σ_268)
      have hc_248 : σ_268 279 = o11 G (upd F 7 (nI (2))) := hc_248
      have hc_291 : σ_268 0 = o10 G (nI (il)) (z2) (z3) := (hf_249 0 (by decide)).trans hv0
      have hc_292 : σ_268 1 = q_an G 600 f := (hf_249 1 (by decide)).trans hv1
      have hc_293 : σ_268 23 = o5 G (23) (nI (lo)) := (hf_249 23 (by decide)).trans hv2
      have hc_294 : σ_268 24 = q_an G 256 o := (hf_249 24 (by decide)).trans hv3
      have hc_295 : σ_268 224 = q_rn G 2 2 (fun j => some (243 + 18 * j)) := (hf_249 224 (by decide)).trans hv4
      have hc_296 : σ_268 225 = q_bn G 2 kp := (hf_249 225 (by decide)).trans hv5
      have hc_297 : σ_268 280 = q_an G 265 g := (hf_249 280 (by decide)).trans hv7
      have hc_298 : σ_268 281 = q_an G 265 wk := (hf_249 281 (by decide)).trans hv8
      have hc_299 : σ_268 282 = q_an G 265 as := (hf_249 282 (by decide)).trans hv9
      have hc_300 : σ_268 283 = q_an G 530 sh := (hf_249 283 (by decide)).trans hv10
      have hc_301 : σ_268 284 = q_an G 2120 a := (hf_249 284 (by decide)).trans hv11
      have hc_302 : σ_268 285 = q_bn G 1681 fb := (hf_249 285 (by decide)).trans hv12
      have hc_303 : σ_268 286 = q_an G 1681 nv := (hf_249 286 (by decide)).trans hv13
      have hc_304 : σ_268 287 = q_an G 1681 ns := (hf_249 287 (by decide)).trans hv14
      have hc_305 : σ_268 288 = q_an G 2000 mk := (hf_249 288 (by decide)).trans hv15
      have hc_306 : σ_268 289 = q_an G 6724 va := (hf_249 289 (by decide)).trans hv16
      have hc_307 : σ_268 290 = q_an G 6724 sp := (hf_249 290 (by decide)).trans hv17
      have hc_308 : σ_268 291 = q_an G 80 lp := (hf_249 291 (by decide)).trans hv18
      have hc_309 : σ_268 292 = q_an G 600 f := (hf_249 292 (by decide)).trans hv19
      have hc_310 : σ_268 293 = q_an G 300 ou := (hf_249 293 (by decide)).trans hv20
      have hc_311 : σ_268 294 = q_ln G 1 oL := (hf_249 294 (by decide)).trans hv21
      have hc_312 : σ_268 295 = q_dn G 1 oD := (hf_249 295 (by decide)).trans hv22
      exact (Chxx r1M (by omega) Mhre).elim
    · skip
      refine (?_ : AJ G K Q (kc + 2) (ks + 12) false 296 1399 [some (.ref bS), some (.ref (q_h G + 0)), some (.ref (q_h G + 279)), some (.ref (q_h G + 294)), some (.ref (q_h G + 295)), some (.int (nI (i))), some (.int (nI (1))), none, none] [.int (nI (s_ptn (s_rule g r1M) a1M))] σ_268)
      have hc_250 : σ_268 279 = o11 G (upd (upd (upd F 7 (nI (0))) 12 (nI (mcqM))) 16 (nI (zqM))) := hc_250
      have hc_313 : σ_268 0 = o10 G (nI (il)) (z2) (z3) := (hf_258 0 (by decide)).trans hv0
      have hc_314 : σ_268 1 = q_an G 600 f := (hf_258 1 (by decide)).trans hv1
      have hc_315 : σ_268 23 = o5 G (23) (nI (lo)) := (hf_258 23 (by decide)).trans hv2
      have hc_316 : σ_268 24 = q_an G 256 o := (hf_258 24 (by decide)).trans hv3
      have hc_317 : σ_268 224 = q_rn G 2 2 (fun j => some (243 + 18 * j)) := (hf_258 224 (by decide)).trans hv4
      have hc_318 : σ_268 225 = q_bn G 2 kp := (hf_258 225 (by decide)).trans hv5
      have hc_319 : σ_268 280 = q_an G 265 g := (hf_258 280 (by decide)).trans hv7
      have hc_320 : σ_268 281 = q_an G 265 wk := (hf_258 281 (by decide)).trans hv8
      have hc_321 : σ_268 282 = q_an G 265 as := (hf_258 282 (by decide)).trans hv9
      have hc_322 : σ_268 283 = q_an G 530 sh := (hf_258 283 (by decide)).trans hv10
      have hc_323 : σ_268 284 = q_an G 2120 a := (hf_258 284 (by decide)).trans hv11
      have hc_324 : σ_268 292 = q_an G 600 f := (hf_258 292 (by decide)).trans hv19
      have hc_325 : σ_268 293 = q_an G 300 ou := (hf_258 293 (by decide)).trans hv20
      have hc_326 : σ_268 294 = q_ln G 1 oL := (hf_258 294 (by decide)).trans hv21
      have hc_327 : σ_268 295 = q_dn G 1 oD := (hf_258 295 (by decide)).trans hv22
      exact (Chxx r1M (by omega) Mhre).elim
    · skip
      refine (?_ : AJ G K Q (kc + 2) (ks + 12) false 296 1399 [some (.ref bS), some (.ref (q_h G + 0)), some (.ref (q_h G + 279)), some (.ref (q_h G + 294)), some (.ref (q_h G + 295)), some (.int (nI (i))), some (.int (nI (1))), none, none] [.int (q_d (0))] σ_268)
      have hc_259 : σ_268 279 = o11 G (upd (upd (upd F 7 (nI (0))) 12 (nI (mcqM))) 16 (nI (zqM))) := hc_259
      have hc_328 : σ_268 0 = o10 G (nI (il)) (z2) (z3) := (hf_267 0 (by decide)).trans hv0
      have hc_329 : σ_268 1 = q_an G 600 f := (hf_267 1 (by decide)).trans hv1
      have hc_330 : σ_268 23 = o5 G (23) (nI (lo)) := (hf_267 23 (by decide)).trans hv2
      have hc_331 : σ_268 24 = q_an G 256 o := (hf_267 24 (by decide)).trans hv3
      have hc_332 : σ_268 224 = q_rn G 2 2 (fun j => some (243 + 18 * j)) := (hf_267 224 (by decide)).trans hv4
      have hc_333 : σ_268 225 = q_bn G 2 kp := (hf_267 225 (by decide)).trans hv5
      have hc_334 : σ_268 280 = q_an G 265 g := (hf_267 280 (by decide)).trans hv7
      have hc_335 : σ_268 281 = q_an G 265 wk := (hf_267 281 (by decide)).trans hv8
      have hc_336 : σ_268 282 = q_an G 265 as := (hf_267 282 (by decide)).trans hv9
      have hc_337 : σ_268 283 = q_an G 530 sh := (hf_267 283 (by decide)).trans hv10
      have hc_338 : σ_268 284 = q_an G 2120 a := (hf_267 284 (by decide)).trans hv11
      have hc_339 : σ_268 292 = q_an G 600 f := (hf_267 292 (by decide)).trans hv19
      have hc_340 : σ_268 293 = q_an G 300 ou := (hf_267 293 (by decide)).trans hv20
      have hc_341 : σ_268 294 = q_ln G 1 oL := (hf_267 294 (by decide)).trans hv21
      have hc_342 : σ_268 295 = q_dn G 1 oD := (hf_267 295 (by decide)).trans hv22
      exact (Chxx r1M (by omega) Mhre).elim
  · skip
    rw [he_7]
    refine (?_ : AJ G K Q (kc + 2) (ks + 12) false 296 1381 [some (.ref bS), some (.ref (q_h G + 0)), some (.ref (q_h G + 279)), some (.ref (q_h G + 294)), some (.ref (q_h G + 295)), some (.int (nI (i))), none, none, none] [.int (nI (2))] σ)
    obtain ⟨r1C, Chx0, Chx1, Chx2⟩ := Chxx
    refine A_istore hg dL_law_1381 (by decide) (q_c1d rfl) ?_
    refine A_eq (ls2 := [some (.ref bS), some (.ref (q_h G + 0)), some (.ref (q_h G + 279)), some (.ref (q_h G + 294)), some (.ref (q_h G + 295)), some (.int (nI (i))), some (.int (nI (2))), none, none]) (st2 := []) (pc2 := 0) rfl rfl ?_
    refine A_aload_n hg dL_law_1383 rfl rfl ?_
    refine A_aload_n hg dL_law_1384 rfl rfl ?_
    refine A_iload hg dL_law_1385 rfl ?_
    refine A_iconst (v := (nI (1))) hg dL_law_1387 (by decide) ?_
    refine A_iaddN hg dL_law_1388 ?_
    refine A_sld hg hX (i + 1) (by omega) dL_law_1389 ?_
    refine A_aload_n hg dL_law_1390 rfl rfl ?_
    refine A_iload hg dL_law_1391 rfl ?_
    refine A_iconst (v := (nI (2))) hg dL_law_1393 (by decide) ?_
    refine A_iaddN hg dL_law_1394 ?_
    refine A_sld hg hX (i + 2) (by omega) dL_law_1395 ?_
    refine A_hV (kc2 := kc + 2) (ks2 := ks + 12) (As := [.int (xs (i + 1)), .int (xs (i + 2))]) (rest := []) hg lk_RL_214 in_X11_partner se_X11_partner rfl dL_law_1396 ⟨by decide, by decide⟩ rfl rfl (hfK 2 12 (by decide) (by decide)) hv6 (by omega) rfl rfl (Nat.le_of_ble_eq_true rfl) (c_X11_partner G false 296 σ F g fb nv ns mk va sp lp mc z (xs (i + 1)) (xs (i + 2)) hv6 hv7 hv12 hv13 hv14 hv15 hv16 hv17 hv18 (by omega) hg9 (by omega) hF12 hF16 hmk hTI hlo) ?_
    rintro _ σ_365 (⟨rfl, Mhno, hc_343, hf_344⟩ | ⟨r1M, rfl, Mhre, Mhrl, Mhnk, hc_345, hf_346⟩ | ⟨r1M, a1M, fqM, nvqM, nsqM, mkqM, vaqM, spqM, loqM, mcqM, zqM, rfl, Mhre, Mhrl, Mhke, Mhkl, Mhany, MhTI, Mhmc, Mhmk, Mhlo, hc_347, hc_348, hc_349, hc_350, hc_351, hc_352, hc_353, hc_354, hf_355⟩ | ⟨r1M, a1M, fqM, nvqM, nsqM, mkqM, vaqM, spqM, loqM, mcqM, zqM, rfl, Mhre, Mhrl, Mhke, Mhkl, Mhany, MhTI, Mhmc, Mhmk, Mhlo, hc_356, hc_357, hc_358, hc_359, hc_360, hc_361, hc_362, hc_363, hf_364⟩)
    · skip
      refine (?_ : AJ G K Q (kc + 2) (ks + 12) false 296 1399 [some (.ref bS), some (.ref (q_h G + 0)), some (.ref (q_h G + 279)), some (.ref (q_h G + 294)), some (.ref (q_h G + 295)), some (.int (nI (i))), some (.int (nI (2))), none, none] [.int (nI (0))] σ_365)
      have hc_343 : σ_365 279 = o11 G (upd F 7 (nI (1))) := hc_343
      have hc_366 : σ_365 0 = o10 G (nI (il)) (z2) (z3) := (hf_344 0 (by decide)).trans hv0
      have hc_367 : σ_365 1 = q_an G 600 f := (hf_344 1 (by decide)).trans hv1
      have hc_368 : σ_365 23 = o5 G (23) (nI (lo)) := (hf_344 23 (by decide)).trans hv2
      have hc_369 : σ_365 24 = q_an G 256 o := (hf_344 24 (by decide)).trans hv3
      have hc_370 : σ_365 224 = q_rn G 2 2 (fun j => some (243 + 18 * j)) := (hf_344 224 (by decide)).trans hv4
      have hc_371 : σ_365 225 = q_bn G 2 kp := (hf_344 225 (by decide)).trans hv5
      have hc_372 : σ_365 280 = q_an G 265 g := (hf_344 280 (by decide)).trans hv7
      have hc_373 : σ_365 281 = q_an G 265 wk := (hf_344 281 (by decide)).trans hv8
      have hc_374 : σ_365 282 = q_an G 265 as := (hf_344 282 (by decide)).trans hv9
      have hc_375 : σ_365 283 = q_an G 530 sh := (hf_344 283 (by decide)).trans hv10
      have hc_376 : σ_365 284 = q_an G 2120 a := (hf_344 284 (by decide)).trans hv11
      have hc_377 : σ_365 285 = q_bn G 1681 fb := (hf_344 285 (by decide)).trans hv12
      have hc_378 : σ_365 286 = q_an G 1681 nv := (hf_344 286 (by decide)).trans hv13
      have hc_379 : σ_365 287 = q_an G 1681 ns := (hf_344 287 (by decide)).trans hv14
      have hc_380 : σ_365 288 = q_an G 2000 mk := (hf_344 288 (by decide)).trans hv15
      have hc_381 : σ_365 289 = q_an G 6724 va := (hf_344 289 (by decide)).trans hv16
      have hc_382 : σ_365 290 = q_an G 6724 sp := (hf_344 290 (by decide)).trans hv17
      have hc_383 : σ_365 291 = q_an G 80 lp := (hf_344 291 (by decide)).trans hv18
      have hc_384 : σ_365 292 = q_an G 600 f := (hf_344 292 (by decide)).trans hv19
      have hc_385 : σ_365 293 = q_an G 300 ou := (hf_344 293 (by decide)).trans hv20
      have hc_386 : σ_365 294 = q_ln G 1 oL := (hf_344 294 (by decide)).trans hv21
      have hc_387 : σ_365 295 = q_dn G 1 oD := (hf_344 295 (by decide)).trans hv22
      exact (Mhno r1C (by omega) Chx0).elim
    · skip
      refine (?_ : AJ G K Q (kc + 2) (ks + 12) false 296 1399 [some (.ref bS), some (.ref (q_h G + 0)), some (.ref (q_h G + 279)), some (.ref (q_h G + 294)), some (.ref (q_h G + 295)), some (.int (nI (i))), some (.int (nI (2))), none, none] [.int (nI (0))] σ_365)
      have hc_345 : σ_365 279 = o11 G (upd F 7 (nI (2))) := hc_345
      have hc_388 : σ_365 0 = o10 G (nI (il)) (z2) (z3) := (hf_346 0 (by decide)).trans hv0
      have hc_389 : σ_365 1 = q_an G 600 f := (hf_346 1 (by decide)).trans hv1
      have hc_390 : σ_365 23 = o5 G (23) (nI (lo)) := (hf_346 23 (by decide)).trans hv2
      have hc_391 : σ_365 24 = q_an G 256 o := (hf_346 24 (by decide)).trans hv3
      have hc_392 : σ_365 224 = q_rn G 2 2 (fun j => some (243 + 18 * j)) := (hf_346 224 (by decide)).trans hv4
      have hc_393 : σ_365 225 = q_bn G 2 kp := (hf_346 225 (by decide)).trans hv5
      have hc_394 : σ_365 280 = q_an G 265 g := (hf_346 280 (by decide)).trans hv7
      have hc_395 : σ_365 281 = q_an G 265 wk := (hf_346 281 (by decide)).trans hv8
      have hc_396 : σ_365 282 = q_an G 265 as := (hf_346 282 (by decide)).trans hv9
      have hc_397 : σ_365 283 = q_an G 530 sh := (hf_346 283 (by decide)).trans hv10
      have hc_398 : σ_365 284 = q_an G 2120 a := (hf_346 284 (by decide)).trans hv11
      have hc_399 : σ_365 285 = q_bn G 1681 fb := (hf_346 285 (by decide)).trans hv12
      have hc_400 : σ_365 286 = q_an G 1681 nv := (hf_346 286 (by decide)).trans hv13
      have hc_401 : σ_365 287 = q_an G 1681 ns := (hf_346 287 (by decide)).trans hv14
      have hc_402 : σ_365 288 = q_an G 2000 mk := (hf_346 288 (by decide)).trans hv15
      have hc_403 : σ_365 289 = q_an G 6724 va := (hf_346 289 (by decide)).trans hv16
      have hc_404 : σ_365 290 = q_an G 6724 sp := (hf_346 290 (by decide)).trans hv17
      have hc_405 : σ_365 291 = q_an G 80 lp := (hf_346 291 (by decide)).trans hv18
      have hc_406 : σ_365 292 = q_an G 600 f := (hf_346 292 (by decide)).trans hv19
      have hc_407 : σ_365 293 = q_an G 300 ou := (hf_346 293 (by decide)).trans hv20
      have hc_408 : σ_365 294 = q_ln G 1 oL := (hf_346 294 (by decide)).trans hv21
      have hc_409 : σ_365 295 = q_dn G 1 oD := (hf_346 295 (by decide)).trans hv22
      have e_r : r1C = r1M := q_nI_inj (by omega) (by omega) (Chx0.symm.trans Mhre)
      subst e_r
      refine A_istore hg dL_law_1399 (by decide) (q_c1d rfl) ?_
      refine A_eq (ls2 := [some (.ref bS), some (.ref (q_h G + 0)), some (.ref (q_h G + 279)), some (.ref (q_h G + 294)), some (.ref (q_h G + 295)), some (.int (nI (i))), some (.int (nI (2))), some (.int (nI (0))), none]) (st2 := []) (pc2 := 0) rfl rfl ?_
      refine A_aload_n hg dL_law_1401 rfl rfl ?_
      refine A_eV (kc2 := kc + 2) (ks2 := ks + 12) (As := []) (rest := []) hg lk_RL_170 in_X11_thrown se_X11_thrown rfl dL_law_1402 ⟨by decide, by decide⟩ rfl rfl (hfK 2 12 (by decide) (by decide)) hc_345 (by omega) rfl rfl (Nat.le_of_ble_eq_true rfl) (c_X11_thrown G false 296 σ_365 (upd F 7 (nI (2))) hc_345 (by omega)) ?_
      refine A_top (w := .int (nI (2))) (congrArg Value.int rfl) ?_
      refine A_iload hg dL_law_1405 rfl ?_
      refine A_icmp_eqN (tgt := 1412) hg dL_law_1407 (by decide) (by decide) (by decide) (fun c1407 => ?_) (fun c1407 => False.elim (by omega))
      refine A_iload hg dL_law_1412 rfl ?_
      refine A_if_neN (tgt := 1429) hg dL_law_1414 (by decide) (by decide) (fun c1414 => ?_) (fun c1414 => absurd c1414 (by decide))
      refine A_goto (tgt := 3062) hg dL_law_1429 (by decide) ?_
      refine A_drop 6 ?_
      refine A_drop 7 ?_
      refine A_eq (ls2 := [some (.ref bS), some (.ref (q_h G + 0)), some (.ref (q_h G + 279)), some (.ref (q_h G + 294)), some (.ref (q_h G + 295)), some (.int (nI (i))), none, none, none]) (st2 := []) (pc2 := 0) rfl rfl ?_
      refine A_wide (kc2 := kc + 8) (ks2 := ks + 48) (by omega) (by omega) ?_
      exact hnxt _ (iv_mk il z2 z3 f lo o g nx m ps kp sn (upd F 7 (nI (2))) wk as sh a fb nv ns mk va sp lp mc z ss ou oL oD hc_388 hc_389 hc_390 hc_391 hc_392 hc_393 hc_345 hc_394 hc_395 hc_396 hc_397 hc_398 hc_399 hc_400 hc_401 hc_402 hc_403 hc_404 hc_405 hc_406 hc_407 hc_408 hc_409 (x_lj_e (fun i _ _ => (hf_346 i (by omega))) hL) (x_gm_e (fun i _ _ => (hf_346 i (by omega))) hG) (x_mx_e (fun i _ _ => (hf_346 i (by omega))) hM) (x_hi_e (fun i _ _ => (hf_346 i (by omega))) hHi) (x_oj_e (fun i _ _ => (hf_346 i (by omega))) hO) (x_pj_e (fun i _ _ => (hf_346 i (by omega))) hT) (iv_hn (fun i _ _ => (hf_346 i (by omega))) hH) (iv_Sn (fun i _ _ => (hf_346 i (by omega))) hSn) (iv_Kp (fun i _ _ => (hf_346 i (by omega))) hKp) (by omega) hfb (by omega) hou hgd hps hk1 hkss hss hsn hF5 hF6 hF12 hF16 hF21 hF22 hF23 hF33 (by omega) hmk hTI hlo)
    · skip
      refine (?_ : AJ G K Q (kc + 2) (ks + 12) false 296 1399 [some (.ref bS), some (.ref (q_h G + 0)), some (.ref (q_h G + 279)), some (.ref (q_h G + 294)), some (.ref (q_h G + 295)), some (.int (nI (i))), some (.int (nI (2))), none, none] [.int (nI (s_ptn (s_rule g r1M) a1M))] σ_365)
      have hc_347 : σ_365 279 = o11 G (upd (upd (upd F 7 (nI (0))) 12 (nI (mcqM))) 16 (nI (zqM))) := hc_347
      have hc_410 : σ_365 0 = o10 G (nI (il)) (z2) (z3) := (hf_355 0 (by decide)).trans hv0
      have hc_411 : σ_365 1 = q_an G 600 f := (hf_355 1 (by decide)).trans hv1
      have hc_412 : σ_365 23 = o5 G (23) (nI (lo)) := (hf_355 23 (by decide)).trans hv2
      have hc_413 : σ_365 24 = q_an G 256 o := (hf_355 24 (by decide)).trans hv3
      have hc_414 : σ_365 224 = q_rn G 2 2 (fun j => some (243 + 18 * j)) := (hf_355 224 (by decide)).trans hv4
      have hc_415 : σ_365 225 = q_bn G 2 kp := (hf_355 225 (by decide)).trans hv5
      have hc_416 : σ_365 280 = q_an G 265 g := (hf_355 280 (by decide)).trans hv7
      have hc_417 : σ_365 281 = q_an G 265 wk := (hf_355 281 (by decide)).trans hv8
      have hc_418 : σ_365 282 = q_an G 265 as := (hf_355 282 (by decide)).trans hv9
      have hc_419 : σ_365 283 = q_an G 530 sh := (hf_355 283 (by decide)).trans hv10
      have hc_420 : σ_365 284 = q_an G 2120 a := (hf_355 284 (by decide)).trans hv11
      have hc_421 : σ_365 292 = q_an G 600 f := (hf_355 292 (by decide)).trans hv19
      have hc_422 : σ_365 293 = q_an G 300 ou := (hf_355 293 (by decide)).trans hv20
      have hc_423 : σ_365 294 = q_ln G 1 oL := (hf_355 294 (by decide)).trans hv21
      have hc_424 : σ_365 295 = q_dn G 1 oD := (hf_355 295 (by decide)).trans hv22
      have e_r : r1C = r1M := q_nI_inj (by omega) (by omega) (Chx0.symm.trans Mhre)
      subst e_r
      exact (Chx2 a1M (by omega) (by omega) Mhke).elim
    · skip
      refine (?_ : AJ G K Q (kc + 2) (ks + 12) false 296 1399 [some (.ref bS), some (.ref (q_h G + 0)), some (.ref (q_h G + 279)), some (.ref (q_h G + 294)), some (.ref (q_h G + 295)), some (.int (nI (i))), some (.int (nI (2))), none, none] [.int (q_d (0))] σ_365)
      have hc_356 : σ_365 279 = o11 G (upd (upd (upd F 7 (nI (0))) 12 (nI (mcqM))) 16 (nI (zqM))) := hc_356
      have hc_425 : σ_365 0 = o10 G (nI (il)) (z2) (z3) := (hf_364 0 (by decide)).trans hv0
      have hc_426 : σ_365 1 = q_an G 600 f := (hf_364 1 (by decide)).trans hv1
      have hc_427 : σ_365 23 = o5 G (23) (nI (lo)) := (hf_364 23 (by decide)).trans hv2
      have hc_428 : σ_365 24 = q_an G 256 o := (hf_364 24 (by decide)).trans hv3
      have hc_429 : σ_365 224 = q_rn G 2 2 (fun j => some (243 + 18 * j)) := (hf_364 224 (by decide)).trans hv4
      have hc_430 : σ_365 225 = q_bn G 2 kp := (hf_364 225 (by decide)).trans hv5
      have hc_431 : σ_365 280 = q_an G 265 g := (hf_364 280 (by decide)).trans hv7
      have hc_432 : σ_365 281 = q_an G 265 wk := (hf_364 281 (by decide)).trans hv8
      have hc_433 : σ_365 282 = q_an G 265 as := (hf_364 282 (by decide)).trans hv9
      have hc_434 : σ_365 283 = q_an G 530 sh := (hf_364 283 (by decide)).trans hv10
      have hc_435 : σ_365 284 = q_an G 2120 a := (hf_364 284 (by decide)).trans hv11
      have hc_436 : σ_365 292 = q_an G 600 f := (hf_364 292 (by decide)).trans hv19
      have hc_437 : σ_365 293 = q_an G 300 ou := (hf_364 293 (by decide)).trans hv20
      have hc_438 : σ_365 294 = q_ln G 1 oL := (hf_364 294 (by decide)).trans hv21
      have hc_439 : σ_365 295 = q_dn G 1 oD := (hf_364 295 (by decide)).trans hv22
      have e_r : r1C = r1M := q_nI_inj (by omega) (by omega) (Chx0.symm.trans Mhre)
      subst e_r
      exact (Chx2 a1M (by omega) (by omega) Mhke).elim
set_option maxRecDepth 100000 in
set_option maxHeartbeats 4000000 in
theorem law_c19 (G : GL) (K : KC) (Q : State → Prop) (hh : List (Nat × Nat × Nat × Nat)) (hg : Gd G K RL code 9 ret room_1 hh) (bS L : Nat) (xs : Nat → Int32) (hX : q_scr G K bS L xs) (i kc ks J : Nat) (hi : i + 5 < L) (hL31 : L < 2 ^ 31) (hkc : kc + 8 ≤ 601024) (hks : ks + 48 ≤ 7293034) (σ : Nat → va_E) (hI : iv G σ J) (hJ : J < 512) (hfd : q_fdn) (hdd : q_ddn) (hf2 : q_f2n) (hds : q_dcs) (hnxt : ∀ σ9 : Nat → va_E, iv G σ9 (J + 1) → AJ G K Q (kc + 8) (ks + 48) false 296 3062 [some (.ref bS), some (.ref (q_h G + 0)), some (.ref (q_h G + 279)), some (.ref (q_h G + 294)), some (.ref (q_h G + 295)), some (.int (nI (i))), none, none, none] [] σ9) : AJ G K Q kc ks false 296 1432 [some (.ref bS), some (.ref (q_h G + 0)), some (.ref (q_h G + 279)), some (.ref (q_h G + 294)), some (.ref (q_h G + 295)), some (.int (nI (i))), none, none, none] [] σ := by
  refine iv_el hI ?_
  intro il z2 z3 f lo o g nx m ps kp sn F wk as sh a fb nv ns mk va sp lp mc z ss ou oL oD
  intro hv0 hv1 hv2 hv3 hv4 hv5 hv6 hv7 hv8 hv9 hv10 hv11 hv12 hv13 hv14 hv15 hv16 hv17 hv18 hv19 hv20 hv21 hv22
  intro hL hG hM hHi hO hT hH hSn hKp
  intro hil hfb hlo2 hou hgd hps hk1 hkss hss hsn hF5 hF6 hF12 hF16 hF21 hF22 hF23 hF33 hmc hmk hTI hlo
  have hfK : ∀ a b : Nat, a ≤ 8 → b ≤ 48 → kc + a ≤ room_1.cells ∧ ks + b ≤ room_1.slots := fun a b h1 h2 => ⟨by show kc + a ≤ 601024; omega, by show ks + b ≤ 7293034; omega⟩
  have hg9 := iv_g hG
  obtain ⟨hnx8, hm8, hc78⟩ := iv_hi hHi
  have hbb := iv_byte (m := il) hfb
  have hg90 := hg9.1
  have hg96 := hg9.2.2.2.2.1
  have hnp8 := s_np_le hg9
  refine A_aload_n hg dL_law_1432 rfl rfl ?_
  refine A_aload_n hg dL_law_1433 rfl rfl ?_
  refine A_iload hg dL_law_1434 rfl ?_
  refine A_iconst (v := (nI (1))) hg dL_law_1436 (by decide) ?_
  refine A_iaddN hg dL_law_1437 ?_
  refine A_sld hg hX (i + 1) (by omega) dL_law_1438 ?_
  refine A_aload_n hg dL_law_1439 rfl rfl ?_
  refine A_iload hg dL_law_1440 rfl ?_
  refine A_iconst (v := (nI (2))) hg dL_law_1442 (by decide) ?_
  refine A_iaddN hg dL_law_1443 ?_
  refine A_sld hg hX (i + 2) (by omega) dL_law_1444 ?_
  refine A_aload_n hg dL_law_1445 rfl rfl ?_
  refine A_iload hg dL_law_1446 rfl ?_
  refine A_iconst (v := (nI (3))) hg dL_law_1448 (by decide) ?_
  refine A_iaddN hg dL_law_1449 ?_
  refine A_sld hg hX (i + 3) (by omega) dL_law_1450 ?_
  refine A_if_eq (tgt := 1458) hg dL_law_1451 (by decide) (fun c1451 => ?_) (fun c1451 => ?_)
  · skip
    refine A_iconst (v := (nI (0))) hg dL_law_1458 (by decide) ?_
    refine A_aload_n hg dL_law_1459 rfl rfl ?_
    refine A_callSH (As := [.ref (q_h G + 0), .int (xs (i + 1)), .int (xs (i + 2)), .int (nI (0)), .ref (q_h G + 294)]) (rest := []) hg lkH_215 stH_L_golden dL_law_1460 ⟨by decide, by decide⟩ (hfK 2 12 (by decide) (by decide)) rfl rfl (Nat.le_of_ble_eq_true rfl) (c_L_golden G 296 σ (nI (il)) z2 z3 (xs (i + 1)) (xs (i + 2)) false oL hv0 hv21 (by omega) (by omega)) ?_
    rintro _ σ_1 (⟨s1C, v1C, rfl, Chse, Chsa, Chsl, Chve, Chva, Chvl, hc_2, hf_3⟩ | ⟨rfl, Chxx, he_4⟩ | ⟨rfl, Chxx, he_5⟩)
    · skip
      refine (?_ : AJ G K Q (kc + 2) (ks + 12) false 296 1463 [some (.ref bS), some (.ref (q_h G + 0)), some (.ref (q_h G + 279)), some (.ref (q_h G + 294)), some (.ref (q_h G + 295)), some (.int (nI (i))), none, none, none] [.int (nI (0))] σ_1)
      have hc_6 : σ_1 0 = o10 G (nI (il)) (z2) (z3) := (hf_3 0 (by decide)).trans hv0
      have hc_7 : σ_1 1 = q_an G 600 f := (hf_3 1 (by decide)).trans hv1
      have hc_8 : σ_1 23 = o5 G (23) (nI (lo)) := (hf_3 23 (by decide)).trans hv2
      have hc_9 : σ_1 24 = q_an G 256 o := (hf_3 24 (by decide)).trans hv3
      have hc_10 : σ_1 224 = q_rn G 2 2 (fun j => some (243 + 18 * j)) := (hf_3 224 (by decide)).trans hv4
      have hc_11 : σ_1 225 = q_bn G 2 kp := (hf_3 225 (by decide)).trans hv5
      have hc_12 : σ_1 279 = o11 G F := (hf_3 279 (by decide)).trans hv6
      have hc_13 : σ_1 280 = q_an G 265 g := (hf_3 280 (by decide)).trans hv7
      have hc_14 : σ_1 281 = q_an G 265 wk := (hf_3 281 (by decide)).trans hv8
      have hc_15 : σ_1 282 = q_an G 265 as := (hf_3 282 (by decide)).trans hv9
      have hc_16 : σ_1 283 = q_an G 530 sh := (hf_3 283 (by decide)).trans hv10
      have hc_17 : σ_1 284 = q_an G 2120 a := (hf_3 284 (by decide)).trans hv11
      have hc_18 : σ_1 285 = q_bn G 1681 fb := (hf_3 285 (by decide)).trans hv12
      have hc_19 : σ_1 286 = q_an G 1681 nv := (hf_3 286 (by decide)).trans hv13
      have hc_20 : σ_1 287 = q_an G 1681 ns := (hf_3 287 (by decide)).trans hv14
      have hc_21 : σ_1 288 = q_an G 2000 mk := (hf_3 288 (by decide)).trans hv15
      have hc_22 : σ_1 289 = q_an G 6724 va := (hf_3 289 (by decide)).trans hv16
      have hc_23 : σ_1 290 = q_an G 6724 sp := (hf_3 290 (by decide)).trans hv17
      have hc_24 : σ_1 291 = q_an G 80 lp := (hf_3 291 (by decide)).trans hv18
      have hc_25 : σ_1 292 = q_an G 600 f := (hf_3 292 (by decide)).trans hv19
      have hc_26 : σ_1 293 = q_an G 300 ou := (hf_3 293 (by decide)).trans hv20
      have hc_27 : σ_1 295 = q_dn G 1 oD := (hf_3 295 (by decide)).trans hv22
      refine A_istore hg dL_law_1463 (by decide) (q_c1d rfl) ?_
      refine A_eq (ls2 := [some (.ref bS), some (.ref (q_h G + 0)), some (.ref (q_h G + 279)), some (.ref (q_h G + 294)), some (.ref (q_h G + 295)), some (.int (nI (i))), some (.int (nI (0))), none, none]) (st2 := []) (pc2 := 0) rfl rfl ?_
      refine A_aload_n hg dL_law_1465 rfl rfl ?_
      refine A_aload_n hg dL_law_1466 rfl rfl ?_
      refine A_iload hg dL_law_1467 rfl ?_
      refine A_iconst (v := (nI (1))) hg dL_law_1469 (by decide) ?_
      refine A_iaddN hg dL_law_1470 ?_
      refine A_sld hg hX (i + 1) (by omega) dL_law_1471 ?_
      refine A_aload_n hg dL_law_1472 rfl rfl ?_
      refine A_iload hg dL_law_1473 rfl ?_
      refine A_iconst (v := (nI (2))) hg dL_law_1475 (by decide) ?_
      refine A_iaddN hg dL_law_1476 ?_
      refine A_sld hg hX (i + 2) (by omega) dL_law_1477 ?_
      refine A_aload_n hg dL_law_1478 rfl rfl ?_
      refine A_iload hg dL_law_1479 rfl ?_
      refine A_iconst (v := (nI (3))) hg dL_law_1481 (by decide) ?_
      refine A_iaddN hg dL_law_1482 ?_
      refine A_sld hg hX (i + 3) (by omega) dL_law_1483 ?_
      refine A_if_eq (tgt := 1491) hg dL_law_1484 (by decide) (fun _ => ?_) (fun z9 => absurd c1451 z9)
      refine A_iconst (v := (nI (0))) hg dL_law_1491 (by decide) ?_
      refine A_hV (kc2 := kc + 2) (ks2 := ks + 12) (As := [.int (xs (i + 1)), .int (xs (i + 2)), .int (nI (0))]) (rest := []) hg lk_RL_217 in_X11_golden se_X11_golden rfl dL_law_1492 ⟨by decide, by decide⟩ rfl rfl (hfK 2 12 (by decide) (by decide)) hc_12 (by omega) rfl rfl (Nat.le_of_ble_eq_true rfl) (c_X11_golden G false 296 σ_1 F (xs (i + 1)) (xs (i + 2)) false hc_12 (by omega)) ?_
      rintro _ σ_34 (⟨rfl, Mhno, hc_28, hf_29⟩ | ⟨s1M, rfl, Mhse, Mhsa, Mhsl, Mhnn, hc_30, hf_31⟩ | ⟨s1M, v1M, rfl, Mhse, Mhsa, Mhsl, Mhve, Mhva, Mhvl, hc_32, hf_33⟩)
      · skip
        refine (?_ : AJ G K Q (kc + 2) (ks + 12) false 296 1495 [some (.ref bS), some (.ref (q_h G + 0)), some (.ref (q_h G + 279)), some (.ref (q_h G + 294)), some (.ref (q_h G + 295)), some (.int (nI (i))), some (.int (nI (0))), none, none] [.int (nI (0))] σ_34)
        have hc_28 : σ_34 279 = o11 G (upd F 7 (nI (1))) := hc_28
        have hc_35 : σ_34 0 = o10 G (nI (il)) (z2) (z3) := (hf_29 0 (by decide)).trans hc_6
        have hc_36 : σ_34 1 = q_an G 600 f := (hf_29 1 (by decide)).trans hc_7
        have hc_37 : σ_34 23 = o5 G (23) (nI (lo)) := (hf_29 23 (by decide)).trans hc_8
        have hc_38 : σ_34 24 = q_an G 256 o := (hf_29 24 (by decide)).trans hc_9
        have hc_39 : σ_34 224 = q_rn G 2 2 (fun j => some (243 + 18 * j)) := (hf_29 224 (by decide)).trans hc_10
        have hc_40 : σ_34 225 = q_bn G 2 kp := (hf_29 225 (by decide)).trans hc_11
        have hc_41 : σ_34 280 = q_an G 265 g := (hf_29 280 (by decide)).trans hc_13
        have hc_42 : σ_34 281 = q_an G 265 wk := (hf_29 281 (by decide)).trans hc_14
        have hc_43 : σ_34 282 = q_an G 265 as := (hf_29 282 (by decide)).trans hc_15
        have hc_44 : σ_34 283 = q_an G 530 sh := (hf_29 283 (by decide)).trans hc_16
        have hc_45 : σ_34 284 = q_an G 2120 a := (hf_29 284 (by decide)).trans hc_17
        have hc_46 : σ_34 285 = q_bn G 1681 fb := (hf_29 285 (by decide)).trans hc_18
        have hc_47 : σ_34 286 = q_an G 1681 nv := (hf_29 286 (by decide)).trans hc_19
        have hc_48 : σ_34 287 = q_an G 1681 ns := (hf_29 287 (by decide)).trans hc_20
        have hc_49 : σ_34 288 = q_an G 2000 mk := (hf_29 288 (by decide)).trans hc_21
        have hc_50 : σ_34 289 = q_an G 6724 va := (hf_29 289 (by decide)).trans hc_22
        have hc_51 : σ_34 290 = q_an G 6724 sp := (hf_29 290 (by decide)).trans hc_23
        have hc_52 : σ_34 291 = q_an G 80 lp := (hf_29 291 (by decide)).trans hc_24
        have hc_53 : σ_34 292 = q_an G 600 f := (hf_29 292 (by decide)).trans hc_25
        have hc_54 : σ_34 293 = q_an G 300 ou := (hf_29 293 (by decide)).trans hc_26
        have hc_55 : σ_34 295 = q_dn G 1 oD := (hf_29 295 (by decide)).trans hc_27
        have hc_56 : σ_34 294 = q_ln G 1 (va_up oL 0 ((nI (s_gX s1C false v1C)).toInt64)) := (hf_29 294 (by decide)).trans hc_2
        exact (Mhno s1C (by omega) (by omega) Chse).elim
      · skip
        refine (?_ : AJ G K Q (kc + 2) (ks + 12) false 296 1495 [some (.ref bS), some (.ref (q_h G + 0)), some (.ref (q_h G + 279)), some (.ref (q_h G + 294)), some (.ref (q_h G + 295)), some (.int (nI (i))), some (.int (nI (0))), none, none] [.int (nI (0))] σ_34)
        have hc_30 : σ_34 279 = o11 G (upd F 7 (nI (1))) := hc_30
        have hc_57 : σ_34 0 = o10 G (nI (il)) (z2) (z3) := (hf_31 0 (by decide)).trans hc_6
        have hc_58 : σ_34 1 = q_an G 600 f := (hf_31 1 (by decide)).trans hc_7
        have hc_59 : σ_34 23 = o5 G (23) (nI (lo)) := (hf_31 23 (by decide)).trans hc_8
        have hc_60 : σ_34 24 = q_an G 256 o := (hf_31 24 (by decide)).trans hc_9
        have hc_61 : σ_34 224 = q_rn G 2 2 (fun j => some (243 + 18 * j)) := (hf_31 224 (by decide)).trans hc_10
        have hc_62 : σ_34 225 = q_bn G 2 kp := (hf_31 225 (by decide)).trans hc_11
        have hc_63 : σ_34 280 = q_an G 265 g := (hf_31 280 (by decide)).trans hc_13
        have hc_64 : σ_34 281 = q_an G 265 wk := (hf_31 281 (by decide)).trans hc_14
        have hc_65 : σ_34 282 = q_an G 265 as := (hf_31 282 (by decide)).trans hc_15
        have hc_66 : σ_34 283 = q_an G 530 sh := (hf_31 283 (by decide)).trans hc_16
        have hc_67 : σ_34 284 = q_an G 2120 a := (hf_31 284 (by decide)).trans hc_17
        have hc_68 : σ_34 285 = q_bn G 1681 fb := (hf_31 285 (by decide)).trans hc_18
        have hc_69 : σ_34 286 = q_an G 1681 nv := (hf_31 286 (by decide)).trans hc_19
        have hc_70 : σ_34 287 = q_an G 1681 ns := (hf_31 287 (by decide)).trans hc_20
        have hc_71 : σ_34 288 = q_an G 2000 mk := (hf_31 288 (by decide)).trans hc_21
        have hc_72 : σ_34 289 = q_an G 6724 va := (hf_31 289 (by decide)).trans hc_22
        have hc_73 : σ_34 290 = q_an G 6724 sp := (hf_31 290 (by decide)).trans hc_23
        have hc_74 : σ_34 291 = q_an G 80 lp := (hf_31 291 (by decide)).trans hc_24
        have hc_75 : σ_34 292 = q_an G 600 f := (hf_31 292 (by decide)).trans hc_25
        have hc_76 : σ_34 293 = q_an G 300 ou := (hf_31 293 (by decide)).trans hc_26
        have hc_77 : σ_34 295 = q_dn G 1 oD := (hf_31 295 (by decide)).trans hc_27
        have hc_78 : σ_34 294 = q_ln G 1 (va_up oL 0 ((nI (s_gX s1C false v1C)).toInt64)) := (hf_31 294 (by decide)).trans hc_2
        have e_s : s1C = s1M := q_nI_inj (by omega) (by omega) (Chse.symm.trans Mhse)
        subst e_s
        exact (Mhnn v1C (by omega) (by omega) Chve).elim
      · skip
        refine (?_ : AJ G K Q (kc + 2) (ks + 12) false 296 1495 [some (.ref bS), some (.ref (q_h G + 0)), some (.ref (q_h G + 279)), some (.ref (q_h G + 294)), some (.ref (q_h G + 295)), some (.int (nI (i))), some (.int (nI (0))), none, none] [.int (nI (s_gX s1M false v1M))] σ_34)
        have hc_32 : σ_34 279 = o11 G (upd F 7 (nI (0))) := hc_32
        have hc_79 : σ_34 0 = o10 G (nI (il)) (z2) (z3) := (hf_33 0 (by decide)).trans hc_6
        have hc_80 : σ_34 1 = q_an G 600 f := (hf_33 1 (by decide)).trans hc_7
        have hc_81 : σ_34 23 = o5 G (23) (nI (lo)) := (hf_33 23 (by decide)).trans hc_8
        have hc_82 : σ_34 24 = q_an G 256 o := (hf_33 24 (by decide)).trans hc_9
        have hc_83 : σ_34 224 = q_rn G 2 2 (fun j => some (243 + 18 * j)) := (hf_33 224 (by decide)).trans hc_10
        have hc_84 : σ_34 225 = q_bn G 2 kp := (hf_33 225 (by decide)).trans hc_11
        have hc_85 : σ_34 280 = q_an G 265 g := (hf_33 280 (by decide)).trans hc_13
        have hc_86 : σ_34 281 = q_an G 265 wk := (hf_33 281 (by decide)).trans hc_14
        have hc_87 : σ_34 282 = q_an G 265 as := (hf_33 282 (by decide)).trans hc_15
        have hc_88 : σ_34 283 = q_an G 530 sh := (hf_33 283 (by decide)).trans hc_16
        have hc_89 : σ_34 284 = q_an G 2120 a := (hf_33 284 (by decide)).trans hc_17
        have hc_90 : σ_34 285 = q_bn G 1681 fb := (hf_33 285 (by decide)).trans hc_18
        have hc_91 : σ_34 286 = q_an G 1681 nv := (hf_33 286 (by decide)).trans hc_19
        have hc_92 : σ_34 287 = q_an G 1681 ns := (hf_33 287 (by decide)).trans hc_20
        have hc_93 : σ_34 288 = q_an G 2000 mk := (hf_33 288 (by decide)).trans hc_21
        have hc_94 : σ_34 289 = q_an G 6724 va := (hf_33 289 (by decide)).trans hc_22
        have hc_95 : σ_34 290 = q_an G 6724 sp := (hf_33 290 (by decide)).trans hc_23
        have hc_96 : σ_34 291 = q_an G 80 lp := (hf_33 291 (by decide)).trans hc_24
        have hc_97 : σ_34 292 = q_an G 600 f := (hf_33 292 (by decide)).trans hc_25
        have hc_98 : σ_34 293 = q_an G 300 ou := (hf_33 293 (by decide)).trans hc_26
        have hc_99 : σ_34 295 = q_dn G 1 oD := (hf_33 295 (by decide)).trans hc_27
        have hc_100 : σ_34 294 = q_ln G 1 (va_up oL 0 ((nI (s_gX s1C false v1C)).toInt64)) := (hf_33 294 (by decide)).trans hc_2
        have e_s : s1C = s1M := q_nI_inj (by omega) (by omega) (Chse.symm.trans Mhse)
        subst e_s
        have e_v : v1C = v1M := q_nI_inj (by omega) (by omega) (Chve.symm.trans Mhve)
        subst e_v
        refine A_istore hg dL_law_1495 (by decide) (q_c1d rfl) ?_
        refine A_eq (ls2 := [some (.ref bS), some (.ref (q_h G + 0)), some (.ref (q_h G + 279)), some (.ref (q_h G + 294)), some (.ref (q_h G + 295)), some (.int (nI (i))), some (.int (nI (0))), some (.int (nI (s_gX s1C false v1C))), none]) (st2 := []) (pc2 := 0) rfl rfl ?_
        refine A_aload_n hg dL_law_1497 rfl rfl ?_
        refine A_eV (kc2 := kc + 2) (ks2 := ks + 12) (As := []) (rest := []) hg lk_RL_170 in_X11_thrown se_X11_thrown rfl dL_law_1498 ⟨by decide, by decide⟩ rfl rfl (hfK 2 12 (by decide) (by decide)) hc_32 (by omega) rfl rfl (Nat.le_of_ble_eq_true rfl) (c_X11_thrown G false 296 σ_34 (upd F 7 (nI (0))) hc_32 (by omega)) ?_
        refine A_top (w := .int (nI (0))) (congrArg Value.int rfl) ?_
        refine A_iload hg dL_law_1501 rfl ?_
        refine A_icmp_eqN (tgt := 1508) hg dL_law_1503 (by decide) (by decide) (by decide) (fun c1503 => ?_) (fun c1503 => False.elim (by omega))
        refine A_iload hg dL_law_1508 rfl ?_
        refine A_if_neN (tgt := 1525) hg dL_law_1510 (by decide) (by decide) (fun c1510 => absurd (by decide) c1510) (fun c1510 => ?_)
        refine A_aload_n hg dL_law_1513 rfl rfl ?_
        refine A_iconst (v := (nI (0))) hg dL_law_1514 (by decide) ?_
        refine A_lald (j := 0) hg dL_law_1515 hc_100 (by omega) (by decide) (by decide) ?_
        refine A_top (w := .long ((nI (s_gX s1C false v1C)).toInt64)) (congrArg Value.long iv_up0) ?_
        refine A_iload hg dL_law_1516 rfl ?_
        refine A_i2l (v := (nI (s_gX s1C false v1C)).toInt64) hg dL_law_1518 rfl ?_
        refine A_lcmp hg dL_law_1519 ?_
        refine A_top (w := .int (nI 0)) (congrArg Value.int (lc_self _)) ?_
        refine A_if_eqN (tgt := 1525) hg dL_law_1520 (by decide) (by decide) (fun c1520 => ?_) (fun c1520 => absurd (by decide) c1520)
        refine A_goto (tgt := 3062) hg dL_law_1525 (by decide) ?_
        refine A_drop 6 ?_
        refine A_drop 7 ?_
        refine A_eq (ls2 := [some (.ref bS), some (.ref (q_h G + 0)), some (.ref (q_h G + 279)), some (.ref (q_h G + 294)), some (.ref (q_h G + 295)), some (.int (nI (i))), none, none, none]) (st2 := []) (pc2 := 0) rfl rfl ?_
        refine A_wide (kc2 := kc + 8) (ks2 := ks + 48) (by omega) (by omega) ?_
        exact hnxt _ (iv_mk il z2 z3 f lo o g nx m ps kp sn (upd F 7 (nI (0))) wk as sh a fb nv ns mk va sp lp mc z ss ou (va_up oL 0 ((nI (s_gX s1C false v1C)).toInt64)) oD hc_79 hc_80 hc_81 hc_82 hc_83 hc_84 hc_32 hc_85 hc_86 hc_87 hc_88 hc_89 hc_90 hc_91 hc_92 hc_93 hc_94 hc_95 hc_96 hc_97 hc_98 hc_100 hc_99 (x_lj_e (fun i _ _ => ((hf_33 i (by omega)).trans (hf_3 i (by omega)))) hL) (x_gm_e (fun i _ _ => ((hf_33 i (by omega)).trans (hf_3 i (by omega)))) hG) (x_mx_e (fun i _ _ => ((hf_33 i (by omega)).trans (hf_3 i (by omega)))) hM) (x_hi_e (fun i _ _ => ((hf_33 i (by omega)).trans (hf_3 i (by omega)))) hHi) (x_oj_e (fun i _ _ => ((hf_33 i (by omega)).trans (hf_3 i (by omega)))) hO) (x_pj_e (fun i _ _ => ((hf_33 i (by omega)).trans (hf_3 i (by omega)))) hT) (iv_hn (fun i _ _ => ((hf_33 i (by omega)).trans (hf_3 i (by omega)))) hH) (iv_Sn (fun i _ _ => ((hf_33 i (by omega)).trans (hf_3 i (by omega)))) hSn) (iv_Kp (fun i _ _ => ((hf_33 i (by omega)).trans (hf_3 i (by omega)))) hKp) (by omega) hfb (by omega) hou hgd hps hk1 hkss hss hsn hF5 hF6 hF12 hF16 hF21 hF22 hF23 hF33 (by omega) hmk hTI hlo)
    · skip
      rw [he_4]
      refine (?_ : AJ G K Q (kc + 2) (ks + 12) false 296 1463 [some (.ref bS), some (.ref (q_h G + 0)), some (.ref (q_h G + 279)), some (.ref (q_h G + 294)), some (.ref (q_h G + 295)), some (.int (nI (i))), none, none, none] [.int (nI (1))] σ)
      refine A_istore hg dL_law_1463 (by decide) (q_c1d rfl) ?_
      refine A_eq (ls2 := [some (.ref bS), some (.ref (q_h G + 0)), some (.ref (q_h G + 279)), some (.ref (q_h G + 294)), some (.ref (q_h G + 295)), some (.int (nI (i))), some (.int (nI (1))), none, none]) (st2 := []) (pc2 := 0) rfl rfl ?_
      refine A_aload_n hg dL_law_1465 rfl rfl ?_
      refine A_aload_n hg dL_law_1466 rfl rfl ?_
      refine A_iload hg dL_law_1467 rfl ?_
      refine A_iconst (v := (nI (1))) hg dL_law_1469 (by decide) ?_
      refine A_iaddN hg dL_law_1470 ?_
      refine A_sld hg hX (i + 1) (by omega) dL_law_1471 ?_
      refine A_aload_n hg dL_law_1472 rfl rfl ?_
      refine A_iload hg dL_law_1473 rfl ?_
      refine A_iconst (v := (nI (2))) hg dL_law_1475 (by decide) ?_
      refine A_iaddN hg dL_law_1476 ?_
      refine A_sld hg hX (i + 2) (by omega) dL_law_1477 ?_
      refine A_aload_n hg dL_law_1478 rfl rfl ?_
      refine A_iload hg dL_law_1479 rfl ?_
      refine A_iconst (v := (nI (3))) hg dL_law_1481 (by decide) ?_
      refine A_iaddN hg dL_law_1482 ?_
      refine A_sld hg hX (i + 3) (by omega) dL_law_1483 ?_
      refine A_if_eq (tgt := 1491) hg dL_law_1484 (by decide) (fun _ => ?_) (fun z9 => absurd c1451 z9)
      refine A_iconst (v := (nI (0))) hg dL_law_1491 (by decide) ?_
      refine A_hV (kc2 := kc + 2) (ks2 := ks + 12) (As := [.int (xs (i + 1)), .int (xs (i + 2)), .int (nI (0))]) (rest := []) hg lk_RL_217 in_X11_golden se_X11_golden rfl dL_law_1492 ⟨by decide, by decide⟩ rfl rfl (hfK 2 12 (by decide) (by decide)) hv6 (by omega) rfl rfl (Nat.le_of_ble_eq_true rfl) (c_X11_golden G false 296 σ F (xs (i + 1)) (xs (i + 2)) false hv6 (by omega)) ?_
      rintro _ σ_107 (⟨rfl, Mhno, hc_101, hf_102⟩ | ⟨s1M, rfl, Mhse, Mhsa, Mhsl, Mhnn, hc_103, hf_104⟩ | ⟨s1M, v1M, rfl, Mhse, Mhsa, Mhsl, Mhve, Mhva, Mhvl, hc_105, hf_106⟩)
      · skip
        refine (?_ : AJ G K Q (kc + 2) (ks + 12) false 296 1495 [some (.ref bS), some (.ref (q_h G + 0)), some (.ref (q_h G + 279)), some (.ref (q_h G + 294)), some (.ref (q_h G + 295)), some (.int (nI (i))), some (.int (nI (1))), none, none] [.int (nI (0))] σ_107)
        have hc_101 : σ_107 279 = o11 G (upd F 7 (nI (1))) := hc_101
        have hc_108 : σ_107 0 = o10 G (nI (il)) (z2) (z3) := (hf_102 0 (by decide)).trans hv0
        have hc_109 : σ_107 1 = q_an G 600 f := (hf_102 1 (by decide)).trans hv1
        have hc_110 : σ_107 23 = o5 G (23) (nI (lo)) := (hf_102 23 (by decide)).trans hv2
        have hc_111 : σ_107 24 = q_an G 256 o := (hf_102 24 (by decide)).trans hv3
        have hc_112 : σ_107 224 = q_rn G 2 2 (fun j => some (243 + 18 * j)) := (hf_102 224 (by decide)).trans hv4
        have hc_113 : σ_107 225 = q_bn G 2 kp := (hf_102 225 (by decide)).trans hv5
        have hc_114 : σ_107 280 = q_an G 265 g := (hf_102 280 (by decide)).trans hv7
        have hc_115 : σ_107 281 = q_an G 265 wk := (hf_102 281 (by decide)).trans hv8
        have hc_116 : σ_107 282 = q_an G 265 as := (hf_102 282 (by decide)).trans hv9
        have hc_117 : σ_107 283 = q_an G 530 sh := (hf_102 283 (by decide)).trans hv10
        have hc_118 : σ_107 284 = q_an G 2120 a := (hf_102 284 (by decide)).trans hv11
        have hc_119 : σ_107 285 = q_bn G 1681 fb := (hf_102 285 (by decide)).trans hv12
        have hc_120 : σ_107 286 = q_an G 1681 nv := (hf_102 286 (by decide)).trans hv13
        have hc_121 : σ_107 287 = q_an G 1681 ns := (hf_102 287 (by decide)).trans hv14
        have hc_122 : σ_107 288 = q_an G 2000 mk := (hf_102 288 (by decide)).trans hv15
        have hc_123 : σ_107 289 = q_an G 6724 va := (hf_102 289 (by decide)).trans hv16
        have hc_124 : σ_107 290 = q_an G 6724 sp := (hf_102 290 (by decide)).trans hv17
        have hc_125 : σ_107 291 = q_an G 80 lp := (hf_102 291 (by decide)).trans hv18
        have hc_126 : σ_107 292 = q_an G 600 f := (hf_102 292 (by decide)).trans hv19
        have hc_127 : σ_107 293 = q_an G 300 ou := (hf_102 293 (by decide)).trans hv20
        have hc_128 : σ_107 294 = q_ln G 1 oL := (hf_102 294 (by decide)).trans hv21
        have hc_129 : σ_107 295 = q_dn G 1 oD := (hf_102 295 (by decide)).trans hv22
        refine A_istore hg dL_law_1495 (by decide) (q_c1d rfl) ?_
        refine A_eq (ls2 := [some (.ref bS), some (.ref (q_h G + 0)), some (.ref (q_h G + 279)), some (.ref (q_h G + 294)), some (.ref (q_h G + 295)), some (.int (nI (i))), some (.int (nI (1))), some (.int (nI (0))), none]) (st2 := []) (pc2 := 0) rfl rfl ?_
        refine A_aload_n hg dL_law_1497 rfl rfl ?_
        refine A_eV (kc2 := kc + 2) (ks2 := ks + 12) (As := []) (rest := []) hg lk_RL_170 in_X11_thrown se_X11_thrown rfl dL_law_1498 ⟨by decide, by decide⟩ rfl rfl (hfK 2 12 (by decide) (by decide)) hc_101 (by omega) rfl rfl (Nat.le_of_ble_eq_true rfl) (c_X11_thrown G false 296 σ_107 (upd F 7 (nI (1))) hc_101 (by omega)) ?_
        refine A_top (w := .int (nI (1))) (congrArg Value.int rfl) ?_
        refine A_iload hg dL_law_1501 rfl ?_
        refine A_icmp_eqN (tgt := 1508) hg dL_law_1503 (by decide) (by decide) (by decide) (fun c1503 => ?_) (fun c1503 => False.elim (by omega))
        refine A_iload hg dL_law_1508 rfl ?_
        refine A_if_neN (tgt := 1525) hg dL_law_1510 (by decide) (by decide) (fun c1510 => ?_) (fun c1510 => absurd c1510 (by decide))
        refine A_goto (tgt := 3062) hg dL_law_1525 (by decide) ?_
        refine A_drop 6 ?_
        refine A_drop 7 ?_
        refine A_eq (ls2 := [some (.ref bS), some (.ref (q_h G + 0)), some (.ref (q_h G + 279)), some (.ref (q_h G + 294)), some (.ref (q_h G + 295)), some (.int (nI (i))), none, none, none]) (st2 := []) (pc2 := 0) rfl rfl ?_
        refine A_wide (kc2 := kc + 8) (ks2 := ks + 48) (by omega) (by omega) ?_
        exact hnxt _ (iv_mk il z2 z3 f lo o g nx m ps kp sn (upd F 7 (nI (1))) wk as sh a fb nv ns mk va sp lp mc z ss ou oL oD hc_108 hc_109 hc_110 hc_111 hc_112 hc_113 hc_101 hc_114 hc_115 hc_116 hc_117 hc_118 hc_119 hc_120 hc_121 hc_122 hc_123 hc_124 hc_125 hc_126 hc_127 hc_128 hc_129 (x_lj_e (fun i _ _ => (hf_102 i (by omega))) hL) (x_gm_e (fun i _ _ => (hf_102 i (by omega))) hG) (x_mx_e (fun i _ _ => (hf_102 i (by omega))) hM) (x_hi_e (fun i _ _ => (hf_102 i (by omega))) hHi) (x_oj_e (fun i _ _ => (hf_102 i (by omega))) hO) (x_pj_e (fun i _ _ => (hf_102 i (by omega))) hT) (iv_hn (fun i _ _ => (hf_102 i (by omega))) hH) (iv_Sn (fun i _ _ => (hf_102 i (by omega))) hSn) (iv_Kp (fun i _ _ => (hf_102 i (by omega))) hKp) (by omega) hfb (by omega) hou hgd hps hk1 hkss hss hsn hF5 hF6 hF12 hF16 hF21 hF22 hF23 hF33 (by omega) hmk hTI hlo)
      · skip
        refine (?_ : AJ G K Q (kc + 2) (ks + 12) false 296 1495 [some (.ref bS), some (.ref (q_h G + 0)), some (.ref (q_h G + 279)), some (.ref (q_h G + 294)), some (.ref (q_h G + 295)), some (.int (nI (i))), some (.int (nI (1))), none, none] [.int (nI (0))] σ_107)
        have hc_103 : σ_107 279 = o11 G (upd F 7 (nI (1))) := hc_103
        have hc_130 : σ_107 0 = o10 G (nI (il)) (z2) (z3) := (hf_104 0 (by decide)).trans hv0
        have hc_131 : σ_107 1 = q_an G 600 f := (hf_104 1 (by decide)).trans hv1
        have hc_132 : σ_107 23 = o5 G (23) (nI (lo)) := (hf_104 23 (by decide)).trans hv2
        have hc_133 : σ_107 24 = q_an G 256 o := (hf_104 24 (by decide)).trans hv3
        have hc_134 : σ_107 224 = q_rn G 2 2 (fun j => some (243 + 18 * j)) := (hf_104 224 (by decide)).trans hv4
        have hc_135 : σ_107 225 = q_bn G 2 kp := (hf_104 225 (by decide)).trans hv5
        have hc_136 : σ_107 280 = q_an G 265 g := (hf_104 280 (by decide)).trans hv7
        have hc_137 : σ_107 281 = q_an G 265 wk := (hf_104 281 (by decide)).trans hv8
        have hc_138 : σ_107 282 = q_an G 265 as := (hf_104 282 (by decide)).trans hv9
        have hc_139 : σ_107 283 = q_an G 530 sh := (hf_104 283 (by decide)).trans hv10
        have hc_140 : σ_107 284 = q_an G 2120 a := (hf_104 284 (by decide)).trans hv11
        have hc_141 : σ_107 285 = q_bn G 1681 fb := (hf_104 285 (by decide)).trans hv12
        have hc_142 : σ_107 286 = q_an G 1681 nv := (hf_104 286 (by decide)).trans hv13
        have hc_143 : σ_107 287 = q_an G 1681 ns := (hf_104 287 (by decide)).trans hv14
        have hc_144 : σ_107 288 = q_an G 2000 mk := (hf_104 288 (by decide)).trans hv15
        have hc_145 : σ_107 289 = q_an G 6724 va := (hf_104 289 (by decide)).trans hv16
        have hc_146 : σ_107 290 = q_an G 6724 sp := (hf_104 290 (by decide)).trans hv17
        have hc_147 : σ_107 291 = q_an G 80 lp := (hf_104 291 (by decide)).trans hv18
        have hc_148 : σ_107 292 = q_an G 600 f := (hf_104 292 (by decide)).trans hv19
        have hc_149 : σ_107 293 = q_an G 300 ou := (hf_104 293 (by decide)).trans hv20
        have hc_150 : σ_107 294 = q_ln G 1 oL := (hf_104 294 (by decide)).trans hv21
        have hc_151 : σ_107 295 = q_dn G 1 oD := (hf_104 295 (by decide)).trans hv22
        exact (Chxx s1M (by omega) (by omega) Mhse).elim
      · skip
        refine (?_ : AJ G K Q (kc + 2) (ks + 12) false 296 1495 [some (.ref bS), some (.ref (q_h G + 0)), some (.ref (q_h G + 279)), some (.ref (q_h G + 294)), some (.ref (q_h G + 295)), some (.int (nI (i))), some (.int (nI (1))), none, none] [.int (nI (s_gX s1M false v1M))] σ_107)
        have hc_105 : σ_107 279 = o11 G (upd F 7 (nI (0))) := hc_105
        have hc_152 : σ_107 0 = o10 G (nI (il)) (z2) (z3) := (hf_106 0 (by decide)).trans hv0
        have hc_153 : σ_107 1 = q_an G 600 f := (hf_106 1 (by decide)).trans hv1
        have hc_154 : σ_107 23 = o5 G (23) (nI (lo)) := (hf_106 23 (by decide)).trans hv2
        have hc_155 : σ_107 24 = q_an G 256 o := (hf_106 24 (by decide)).trans hv3
        have hc_156 : σ_107 224 = q_rn G 2 2 (fun j => some (243 + 18 * j)) := (hf_106 224 (by decide)).trans hv4
        have hc_157 : σ_107 225 = q_bn G 2 kp := (hf_106 225 (by decide)).trans hv5
        have hc_158 : σ_107 280 = q_an G 265 g := (hf_106 280 (by decide)).trans hv7
        have hc_159 : σ_107 281 = q_an G 265 wk := (hf_106 281 (by decide)).trans hv8
        have hc_160 : σ_107 282 = q_an G 265 as := (hf_106 282 (by decide)).trans hv9
        have hc_161 : σ_107 283 = q_an G 530 sh := (hf_106 283 (by decide)).trans hv10
        have hc_162 : σ_107 284 = q_an G 2120 a := (hf_106 284 (by decide)).trans hv11
        have hc_163 : σ_107 285 = q_bn G 1681 fb := (hf_106 285 (by decide)).trans hv12
        have hc_164 : σ_107 286 = q_an G 1681 nv := (hf_106 286 (by decide)).trans hv13
        have hc_165 : σ_107 287 = q_an G 1681 ns := (hf_106 287 (by decide)).trans hv14
        have hc_166 : σ_107 288 = q_an G 2000 mk := (hf_106 288 (by decide)).trans hv15
        have hc_167 : σ_107 289 = q_an G 6724 va := (hf_106 289 (by decide)).trans hv16
        have hc_168 : σ_107 290 = q_an G 6724 sp := (hf_106 290 (by decide)).trans hv17
        have hc_169 : σ_107 291 = q_an G 80 lp := (hf_106 291 (by decide)).trans hv18
        have hc_170 : σ_107 292 = q_an G 600 f := (hf_106 292 (by decide)).trans hv19
        have hc_171 : σ_107 293 = q_an G 300 ou := (hf_106 293 (by decide)).trans hv20
        have hc_172 : σ_107 294 = q_ln G 1 oL := (hf_106 294 (by decide)).trans hv21
        have hc_173 : σ_107 295 = q_dn G 1 oD := (hf_106 295 (by decide)).trans hv22
        exact (Chxx s1M (by omega) (by omega) Mhse).elim
    · skip
      rw [he_5]
      refine (?_ : AJ G K Q (kc + 2) (ks + 12) false 296 1463 [some (.ref bS), some (.ref (q_h G + 0)), some (.ref (q_h G + 279)), some (.ref (q_h G + 294)), some (.ref (q_h G + 295)), some (.int (nI (i))), none, none, none] [.int (nI (1))] σ)
      obtain ⟨s1C, Chx0, Chx1, Chx2, Chx3⟩ := Chxx
      refine A_istore hg dL_law_1463 (by decide) (q_c1d rfl) ?_
      refine A_eq (ls2 := [some (.ref bS), some (.ref (q_h G + 0)), some (.ref (q_h G + 279)), some (.ref (q_h G + 294)), some (.ref (q_h G + 295)), some (.int (nI (i))), some (.int (nI (1))), none, none]) (st2 := []) (pc2 := 0) rfl rfl ?_
      refine A_aload_n hg dL_law_1465 rfl rfl ?_
      refine A_aload_n hg dL_law_1466 rfl rfl ?_
      refine A_iload hg dL_law_1467 rfl ?_
      refine A_iconst (v := (nI (1))) hg dL_law_1469 (by decide) ?_
      refine A_iaddN hg dL_law_1470 ?_
      refine A_sld hg hX (i + 1) (by omega) dL_law_1471 ?_
      refine A_aload_n hg dL_law_1472 rfl rfl ?_
      refine A_iload hg dL_law_1473 rfl ?_
      refine A_iconst (v := (nI (2))) hg dL_law_1475 (by decide) ?_
      refine A_iaddN hg dL_law_1476 ?_
      refine A_sld hg hX (i + 2) (by omega) dL_law_1477 ?_
      refine A_aload_n hg dL_law_1478 rfl rfl ?_
      refine A_iload hg dL_law_1479 rfl ?_
      refine A_iconst (v := (nI (3))) hg dL_law_1481 (by decide) ?_
      refine A_iaddN hg dL_law_1482 ?_
      refine A_sld hg hX (i + 3) (by omega) dL_law_1483 ?_
      refine A_if_eq (tgt := 1491) hg dL_law_1484 (by decide) (fun _ => ?_) (fun z9 => absurd c1451 z9)
      refine A_iconst (v := (nI (0))) hg dL_law_1491 (by decide) ?_
      refine A_hV (kc2 := kc + 2) (ks2 := ks + 12) (As := [.int (xs (i + 1)), .int (xs (i + 2)), .int (nI (0))]) (rest := []) hg lk_RL_217 in_X11_golden se_X11_golden rfl dL_law_1492 ⟨by decide, by decide⟩ rfl rfl (hfK 2 12 (by decide) (by decide)) hv6 (by omega) rfl rfl (Nat.le_of_ble_eq_true rfl) (c_X11_golden G false 296 σ F (xs (i + 1)) (xs (i + 2)) false hv6 (by omega)) ?_
      rintro _ σ_180 (⟨rfl, Mhno, hc_174, hf_175⟩ | ⟨s1M, rfl, Mhse, Mhsa, Mhsl, Mhnn, hc_176, hf_177⟩ | ⟨s1M, v1M, rfl, Mhse, Mhsa, Mhsl, Mhve, Mhva, Mhvl, hc_178, hf_179⟩)
      · skip
        refine (?_ : AJ G K Q (kc + 2) (ks + 12) false 296 1495 [some (.ref bS), some (.ref (q_h G + 0)), some (.ref (q_h G + 279)), some (.ref (q_h G + 294)), some (.ref (q_h G + 295)), some (.int (nI (i))), some (.int (nI (1))), none, none] [.int (nI (0))] σ_180)
        have hc_174 : σ_180 279 = o11 G (upd F 7 (nI (1))) := hc_174
        have hc_181 : σ_180 0 = o10 G (nI (il)) (z2) (z3) := (hf_175 0 (by decide)).trans hv0
        have hc_182 : σ_180 1 = q_an G 600 f := (hf_175 1 (by decide)).trans hv1
        have hc_183 : σ_180 23 = o5 G (23) (nI (lo)) := (hf_175 23 (by decide)).trans hv2
        have hc_184 : σ_180 24 = q_an G 256 o := (hf_175 24 (by decide)).trans hv3
        have hc_185 : σ_180 224 = q_rn G 2 2 (fun j => some (243 + 18 * j)) := (hf_175 224 (by decide)).trans hv4
        have hc_186 : σ_180 225 = q_bn G 2 kp := (hf_175 225 (by decide)).trans hv5
        have hc_187 : σ_180 280 = q_an G 265 g := (hf_175 280 (by decide)).trans hv7
        have hc_188 : σ_180 281 = q_an G 265 wk := (hf_175 281 (by decide)).trans hv8
        have hc_189 : σ_180 282 = q_an G 265 as := (hf_175 282 (by decide)).trans hv9
        have hc_190 : σ_180 283 = q_an G 530 sh := (hf_175 283 (by decide)).trans hv10
        have hc_191 : σ_180 284 = q_an G 2120 a := (hf_175 284 (by decide)).trans hv11
        have hc_192 : σ_180 285 = q_bn G 1681 fb := (hf_175 285 (by decide)).trans hv12
        have hc_193 : σ_180 286 = q_an G 1681 nv := (hf_175 286 (by decide)).trans hv13
        have hc_194 : σ_180 287 = q_an G 1681 ns := (hf_175 287 (by decide)).trans hv14
        have hc_195 : σ_180 288 = q_an G 2000 mk := (hf_175 288 (by decide)).trans hv15
        have hc_196 : σ_180 289 = q_an G 6724 va := (hf_175 289 (by decide)).trans hv16
        have hc_197 : σ_180 290 = q_an G 6724 sp := (hf_175 290 (by decide)).trans hv17
        have hc_198 : σ_180 291 = q_an G 80 lp := (hf_175 291 (by decide)).trans hv18
        have hc_199 : σ_180 292 = q_an G 600 f := (hf_175 292 (by decide)).trans hv19
        have hc_200 : σ_180 293 = q_an G 300 ou := (hf_175 293 (by decide)).trans hv20
        have hc_201 : σ_180 294 = q_ln G 1 oL := (hf_175 294 (by decide)).trans hv21
        have hc_202 : σ_180 295 = q_dn G 1 oD := (hf_175 295 (by decide)).trans hv22
        exact (Mhno s1C (by omega) (by omega) Chx0).elim
      · skip
        refine (?_ : AJ G K Q (kc + 2) (ks + 12) false 296 1495 [some (.ref bS), some (.ref (q_h G + 0)), some (.ref (q_h G + 279)), some (.ref (q_h G + 294)), some (.ref (q_h G + 295)), some (.int (nI (i))), some (.int (nI (1))), none, none] [.int (nI (0))] σ_180)
        have hc_176 : σ_180 279 = o11 G (upd F 7 (nI (1))) := hc_176
        have hc_203 : σ_180 0 = o10 G (nI (il)) (z2) (z3) := (hf_177 0 (by decide)).trans hv0
        have hc_204 : σ_180 1 = q_an G 600 f := (hf_177 1 (by decide)).trans hv1
        have hc_205 : σ_180 23 = o5 G (23) (nI (lo)) := (hf_177 23 (by decide)).trans hv2
        have hc_206 : σ_180 24 = q_an G 256 o := (hf_177 24 (by decide)).trans hv3
        have hc_207 : σ_180 224 = q_rn G 2 2 (fun j => some (243 + 18 * j)) := (hf_177 224 (by decide)).trans hv4
        have hc_208 : σ_180 225 = q_bn G 2 kp := (hf_177 225 (by decide)).trans hv5
        have hc_209 : σ_180 280 = q_an G 265 g := (hf_177 280 (by decide)).trans hv7
        have hc_210 : σ_180 281 = q_an G 265 wk := (hf_177 281 (by decide)).trans hv8
        have hc_211 : σ_180 282 = q_an G 265 as := (hf_177 282 (by decide)).trans hv9
        have hc_212 : σ_180 283 = q_an G 530 sh := (hf_177 283 (by decide)).trans hv10
        have hc_213 : σ_180 284 = q_an G 2120 a := (hf_177 284 (by decide)).trans hv11
        have hc_214 : σ_180 285 = q_bn G 1681 fb := (hf_177 285 (by decide)).trans hv12
        have hc_215 : σ_180 286 = q_an G 1681 nv := (hf_177 286 (by decide)).trans hv13
        have hc_216 : σ_180 287 = q_an G 1681 ns := (hf_177 287 (by decide)).trans hv14
        have hc_217 : σ_180 288 = q_an G 2000 mk := (hf_177 288 (by decide)).trans hv15
        have hc_218 : σ_180 289 = q_an G 6724 va := (hf_177 289 (by decide)).trans hv16
        have hc_219 : σ_180 290 = q_an G 6724 sp := (hf_177 290 (by decide)).trans hv17
        have hc_220 : σ_180 291 = q_an G 80 lp := (hf_177 291 (by decide)).trans hv18
        have hc_221 : σ_180 292 = q_an G 600 f := (hf_177 292 (by decide)).trans hv19
        have hc_222 : σ_180 293 = q_an G 300 ou := (hf_177 293 (by decide)).trans hv20
        have hc_223 : σ_180 294 = q_ln G 1 oL := (hf_177 294 (by decide)).trans hv21
        have hc_224 : σ_180 295 = q_dn G 1 oD := (hf_177 295 (by decide)).trans hv22
        have e_s : s1C = s1M := q_nI_inj (by omega) (by omega) (Chx0.symm.trans Mhse)
        subst e_s
        refine A_istore hg dL_law_1495 (by decide) (q_c1d rfl) ?_
        refine A_eq (ls2 := [some (.ref bS), some (.ref (q_h G + 0)), some (.ref (q_h G + 279)), some (.ref (q_h G + 294)), some (.ref (q_h G + 295)), some (.int (nI (i))), some (.int (nI (1))), some (.int (nI (0))), none]) (st2 := []) (pc2 := 0) rfl rfl ?_
        refine A_aload_n hg dL_law_1497 rfl rfl ?_
        refine A_eV (kc2 := kc + 2) (ks2 := ks + 12) (As := []) (rest := []) hg lk_RL_170 in_X11_thrown se_X11_thrown rfl dL_law_1498 ⟨by decide, by decide⟩ rfl rfl (hfK 2 12 (by decide) (by decide)) hc_176 (by omega) rfl rfl (Nat.le_of_ble_eq_true rfl) (c_X11_thrown G false 296 σ_180 (upd F 7 (nI (1))) hc_176 (by omega)) ?_
        refine A_top (w := .int (nI (1))) (congrArg Value.int rfl) ?_
        refine A_iload hg dL_law_1501 rfl ?_
        refine A_icmp_eqN (tgt := 1508) hg dL_law_1503 (by decide) (by decide) (by decide) (fun c1503 => ?_) (fun c1503 => False.elim (by omega))
        refine A_iload hg dL_law_1508 rfl ?_
        refine A_if_neN (tgt := 1525) hg dL_law_1510 (by decide) (by decide) (fun c1510 => ?_) (fun c1510 => absurd c1510 (by decide))
        refine A_goto (tgt := 3062) hg dL_law_1525 (by decide) ?_
        refine A_drop 6 ?_
        refine A_drop 7 ?_
        refine A_eq (ls2 := [some (.ref bS), some (.ref (q_h G + 0)), some (.ref (q_h G + 279)), some (.ref (q_h G + 294)), some (.ref (q_h G + 295)), some (.int (nI (i))), none, none, none]) (st2 := []) (pc2 := 0) rfl rfl ?_
        refine A_wide (kc2 := kc + 8) (ks2 := ks + 48) (by omega) (by omega) ?_
        exact hnxt _ (iv_mk il z2 z3 f lo o g nx m ps kp sn (upd F 7 (nI (1))) wk as sh a fb nv ns mk va sp lp mc z ss ou oL oD hc_203 hc_204 hc_205 hc_206 hc_207 hc_208 hc_176 hc_209 hc_210 hc_211 hc_212 hc_213 hc_214 hc_215 hc_216 hc_217 hc_218 hc_219 hc_220 hc_221 hc_222 hc_223 hc_224 (x_lj_e (fun i _ _ => (hf_177 i (by omega))) hL) (x_gm_e (fun i _ _ => (hf_177 i (by omega))) hG) (x_mx_e (fun i _ _ => (hf_177 i (by omega))) hM) (x_hi_e (fun i _ _ => (hf_177 i (by omega))) hHi) (x_oj_e (fun i _ _ => (hf_177 i (by omega))) hO) (x_pj_e (fun i _ _ => (hf_177 i (by omega))) hT) (iv_hn (fun i _ _ => (hf_177 i (by omega))) hH) (iv_Sn (fun i _ _ => (hf_177 i (by omega))) hSn) (iv_Kp (fun i _ _ => (hf_177 i (by omega))) hKp) (by omega) hfb (by omega) hou hgd hps hk1 hkss hss hsn hF5 hF6 hF12 hF16 hF21 hF22 hF23 hF33 (by omega) hmk hTI hlo)
      · skip
        refine (?_ : AJ G K Q (kc + 2) (ks + 12) false 296 1495 [some (.ref bS), some (.ref (q_h G + 0)), some (.ref (q_h G + 279)), some (.ref (q_h G + 294)), some (.ref (q_h G + 295)), some (.int (nI (i))), some (.int (nI (1))), none, none] [.int (nI (s_gX s1M false v1M))] σ_180)
        have hc_178 : σ_180 279 = o11 G (upd F 7 (nI (0))) := hc_178
        have hc_225 : σ_180 0 = o10 G (nI (il)) (z2) (z3) := (hf_179 0 (by decide)).trans hv0
        have hc_226 : σ_180 1 = q_an G 600 f := (hf_179 1 (by decide)).trans hv1
        have hc_227 : σ_180 23 = o5 G (23) (nI (lo)) := (hf_179 23 (by decide)).trans hv2
        have hc_228 : σ_180 24 = q_an G 256 o := (hf_179 24 (by decide)).trans hv3
        have hc_229 : σ_180 224 = q_rn G 2 2 (fun j => some (243 + 18 * j)) := (hf_179 224 (by decide)).trans hv4
        have hc_230 : σ_180 225 = q_bn G 2 kp := (hf_179 225 (by decide)).trans hv5
        have hc_231 : σ_180 280 = q_an G 265 g := (hf_179 280 (by decide)).trans hv7
        have hc_232 : σ_180 281 = q_an G 265 wk := (hf_179 281 (by decide)).trans hv8
        have hc_233 : σ_180 282 = q_an G 265 as := (hf_179 282 (by decide)).trans hv9
        have hc_234 : σ_180 283 = q_an G 530 sh := (hf_179 283 (by decide)).trans hv10
        have hc_235 : σ_180 284 = q_an G 2120 a := (hf_179 284 (by decide)).trans hv11
        have hc_236 : σ_180 285 = q_bn G 1681 fb := (hf_179 285 (by decide)).trans hv12
        have hc_237 : σ_180 286 = q_an G 1681 nv := (hf_179 286 (by decide)).trans hv13
        have hc_238 : σ_180 287 = q_an G 1681 ns := (hf_179 287 (by decide)).trans hv14
        have hc_239 : σ_180 288 = q_an G 2000 mk := (hf_179 288 (by decide)).trans hv15
        have hc_240 : σ_180 289 = q_an G 6724 va := (hf_179 289 (by decide)).trans hv16
        have hc_241 : σ_180 290 = q_an G 6724 sp := (hf_179 290 (by decide)).trans hv17
        have hc_242 : σ_180 291 = q_an G 80 lp := (hf_179 291 (by decide)).trans hv18
        have hc_243 : σ_180 292 = q_an G 600 f := (hf_179 292 (by decide)).trans hv19
        have hc_244 : σ_180 293 = q_an G 300 ou := (hf_179 293 (by decide)).trans hv20
        have hc_245 : σ_180 294 = q_ln G 1 oL := (hf_179 294 (by decide)).trans hv21
        have hc_246 : σ_180 295 = q_dn G 1 oD := (hf_179 295 (by decide)).trans hv22
        have e_s : s1C = s1M := q_nI_inj (by omega) (by omega) (Chx0.symm.trans Mhse)
        subst e_s
        exact (Chx3 v1M (by omega) (by omega) Mhve).elim
  · skip
    refine A_iconst (v := (nI (1))) hg dL_law_1454 (by decide) ?_
    refine A_goto (tgt := 1459) hg dL_law_1455 (by decide) ?_
    refine A_aload_n hg dL_law_1459 rfl rfl ?_
    refine A_callSH (As := [.ref (q_h G + 0), .int (xs (i + 1)), .int (xs (i + 2)), .int (nI (1)), .ref (q_h G + 294)]) (rest := []) hg lkH_215 stH_L_golden dL_law_1460 ⟨by decide, by decide⟩ (hfK 2 12 (by decide) (by decide)) rfl rfl (Nat.le_of_ble_eq_true rfl) (c_L_golden G 296 σ (nI (il)) z2 z3 (xs (i + 1)) (xs (i + 2)) true oL hv0 hv21 (by omega) (by omega)) ?_
    rintro _ σ_247 (⟨s1C, v1C, rfl, Chse, Chsa, Chsl, Chve, Chva, Chvl, hc_248, hf_249⟩ | ⟨rfl, Chxx, he_250⟩ | ⟨rfl, Chxx, he_251⟩)
    · skip
      refine (?_ : AJ G K Q (kc + 2) (ks + 12) false 296 1463 [some (.ref bS), some (.ref (q_h G + 0)), some (.ref (q_h G + 279)), some (.ref (q_h G + 294)), some (.ref (q_h G + 295)), some (.int (nI (i))), none, none, none] [.int (nI (0))] σ_247)
      have hc_252 : σ_247 0 = o10 G (nI (il)) (z2) (z3) := (hf_249 0 (by decide)).trans hv0
      have hc_253 : σ_247 1 = q_an G 600 f := (hf_249 1 (by decide)).trans hv1
      have hc_254 : σ_247 23 = o5 G (23) (nI (lo)) := (hf_249 23 (by decide)).trans hv2
      have hc_255 : σ_247 24 = q_an G 256 o := (hf_249 24 (by decide)).trans hv3
      have hc_256 : σ_247 224 = q_rn G 2 2 (fun j => some (243 + 18 * j)) := (hf_249 224 (by decide)).trans hv4
      have hc_257 : σ_247 225 = q_bn G 2 kp := (hf_249 225 (by decide)).trans hv5
      have hc_258 : σ_247 279 = o11 G F := (hf_249 279 (by decide)).trans hv6
      have hc_259 : σ_247 280 = q_an G 265 g := (hf_249 280 (by decide)).trans hv7
      have hc_260 : σ_247 281 = q_an G 265 wk := (hf_249 281 (by decide)).trans hv8
      have hc_261 : σ_247 282 = q_an G 265 as := (hf_249 282 (by decide)).trans hv9
      have hc_262 : σ_247 283 = q_an G 530 sh := (hf_249 283 (by decide)).trans hv10
      have hc_263 : σ_247 284 = q_an G 2120 a := (hf_249 284 (by decide)).trans hv11
      have hc_264 : σ_247 285 = q_bn G 1681 fb := (hf_249 285 (by decide)).trans hv12
      have hc_265 : σ_247 286 = q_an G 1681 nv := (hf_249 286 (by decide)).trans hv13
      have hc_266 : σ_247 287 = q_an G 1681 ns := (hf_249 287 (by decide)).trans hv14
      have hc_267 : σ_247 288 = q_an G 2000 mk := (hf_249 288 (by decide)).trans hv15
      have hc_268 : σ_247 289 = q_an G 6724 va := (hf_249 289 (by decide)).trans hv16
      have hc_269 : σ_247 290 = q_an G 6724 sp := (hf_249 290 (by decide)).trans hv17
      have hc_270 : σ_247 291 = q_an G 80 lp := (hf_249 291 (by decide)).trans hv18
      have hc_271 : σ_247 292 = q_an G 600 f := (hf_249 292 (by decide)).trans hv19
      have hc_272 : σ_247 293 = q_an G 300 ou := (hf_249 293 (by decide)).trans hv20
      have hc_273 : σ_247 295 = q_dn G 1 oD := (hf_249 295 (by decide)).trans hv22
      refine A_istore hg dL_law_1463 (by decide) (q_c1d rfl) ?_
      refine A_eq (ls2 := [some (.ref bS), some (.ref (q_h G + 0)), some (.ref (q_h G + 279)), some (.ref (q_h G + 294)), some (.ref (q_h G + 295)), some (.int (nI (i))), some (.int (nI (0))), none, none]) (st2 := []) (pc2 := 0) rfl rfl ?_
      refine A_aload_n hg dL_law_1465 rfl rfl ?_
      refine A_aload_n hg dL_law_1466 rfl rfl ?_
      refine A_iload hg dL_law_1467 rfl ?_
      refine A_iconst (v := (nI (1))) hg dL_law_1469 (by decide) ?_
      refine A_iaddN hg dL_law_1470 ?_
      refine A_sld hg hX (i + 1) (by omega) dL_law_1471 ?_
      refine A_aload_n hg dL_law_1472 rfl rfl ?_
      refine A_iload hg dL_law_1473 rfl ?_
      refine A_iconst (v := (nI (2))) hg dL_law_1475 (by decide) ?_
      refine A_iaddN hg dL_law_1476 ?_
      refine A_sld hg hX (i + 2) (by omega) dL_law_1477 ?_
      refine A_aload_n hg dL_law_1478 rfl rfl ?_
      refine A_iload hg dL_law_1479 rfl ?_
      refine A_iconst (v := (nI (3))) hg dL_law_1481 (by decide) ?_
      refine A_iaddN hg dL_law_1482 ?_
      refine A_sld hg hX (i + 3) (by omega) dL_law_1483 ?_
      refine A_if_eq (tgt := 1491) hg dL_law_1484 (by decide) (fun z9 => absurd z9 c1451) (fun _ => ?_)
      refine A_iconst (v := (nI (1))) hg dL_law_1487 (by decide) ?_
      refine A_goto (tgt := 1492) hg dL_law_1488 (by decide) ?_
      refine A_hV (kc2 := kc + 2) (ks2 := ks + 12) (As := [.int (xs (i + 1)), .int (xs (i + 2)), .int (nI (1))]) (rest := []) hg lk_RL_217 in_X11_golden se_X11_golden rfl dL_law_1492 ⟨by decide, by decide⟩ rfl rfl (hfK 2 12 (by decide) (by decide)) hc_258 (by omega) rfl rfl (Nat.le_of_ble_eq_true rfl) (c_X11_golden G false 296 σ_247 F (xs (i + 1)) (xs (i + 2)) true hc_258 (by omega)) ?_
      rintro _ σ_280 (⟨rfl, Mhno, hc_274, hf_275⟩ | ⟨s1M, rfl, Mhse, Mhsa, Mhsl, Mhnn, hc_276, hf_277⟩ | ⟨s1M, v1M, rfl, Mhse, Mhsa, Mhsl, Mhve, Mhva, Mhvl, hc_278, hf_279⟩)
      · skip
        refine (?_ : AJ G K Q (kc + 2) (ks + 12) false 296 1495 [some (.ref bS), some (.ref (q_h G + 0)), some (.ref (q_h G + 279)), some (.ref (q_h G + 294)), some (.ref (q_h G + 295)), some (.int (nI (i))), some (.int (nI (0))), none, none] [.int (nI (0))] σ_280)
        have hc_274 : σ_280 279 = o11 G (upd F 7 (nI (1))) := hc_274
        have hc_281 : σ_280 0 = o10 G (nI (il)) (z2) (z3) := (hf_275 0 (by decide)).trans hc_252
        have hc_282 : σ_280 1 = q_an G 600 f := (hf_275 1 (by decide)).trans hc_253
        have hc_283 : σ_280 23 = o5 G (23) (nI (lo)) := (hf_275 23 (by decide)).trans hc_254
        have hc_284 : σ_280 24 = q_an G 256 o := (hf_275 24 (by decide)).trans hc_255
        have hc_285 : σ_280 224 = q_rn G 2 2 (fun j => some (243 + 18 * j)) := (hf_275 224 (by decide)).trans hc_256
        have hc_286 : σ_280 225 = q_bn G 2 kp := (hf_275 225 (by decide)).trans hc_257
        have hc_287 : σ_280 280 = q_an G 265 g := (hf_275 280 (by decide)).trans hc_259
        have hc_288 : σ_280 281 = q_an G 265 wk := (hf_275 281 (by decide)).trans hc_260
        have hc_289 : σ_280 282 = q_an G 265 as := (hf_275 282 (by decide)).trans hc_261
        have hc_290 : σ_280 283 = q_an G 530 sh := (hf_275 283 (by decide)).trans hc_262
        have hc_291 : σ_280 284 = q_an G 2120 a := (hf_275 284 (by decide)).trans hc_263
        have hc_292 : σ_280 285 = q_bn G 1681 fb := (hf_275 285 (by decide)).trans hc_264
        have hc_293 : σ_280 286 = q_an G 1681 nv := (hf_275 286 (by decide)).trans hc_265
        have hc_294 : σ_280 287 = q_an G 1681 ns := (hf_275 287 (by decide)).trans hc_266
        have hc_295 : σ_280 288 = q_an G 2000 mk := (hf_275 288 (by decide)).trans hc_267
        have hc_296 : σ_280 289 = q_an G 6724 va := (hf_275 289 (by decide)).trans hc_268
        have hc_297 : σ_280 290 = q_an G 6724 sp := (hf_275 290 (by decide)).trans hc_269
        have hc_298 : σ_280 291 = q_an G 80 lp := (hf_275 291 (by decide)).trans hc_270
        have hc_299 : σ_280 292 = q_an G 600 f := (hf_275 292 (by decide)).trans hc_271
        have hc_300 : σ_280 293 = q_an G 300 ou := (hf_275 293 (by decide)).trans hc_272
        have hc_301 : σ_280 295 = q_dn G 1 oD := (hf_275 295 (by decide)).trans hc_273
        have hc_302 : σ_280 294 = q_ln G 1 (va_up oL 0 ((nI (s_gX s1C true v1C)).toInt64)) := (hf_275 294 (by decide)).trans hc_248
        exact (Mhno s1C (by omega) (by omega) Chse).elim
      · skip
        refine (?_ : AJ G K Q (kc + 2) (ks + 12) false 296 1495 [some (.ref bS), some (.ref (q_h G + 0)), some (.ref (q_h G + 279)), some (.ref (q_h G + 294)), some (.ref (q_h G + 295)), some (.int (nI (i))), some (.int (nI (0))), none, none] [.int (nI (0))] σ_280)
        have hc_276 : σ_280 279 = o11 G (upd F 7 (nI (1))) := hc_276
        have hc_303 : σ_280 0 = o10 G (nI (il)) (z2) (z3) := (hf_277 0 (by decide)).trans hc_252
        have hc_304 : σ_280 1 = q_an G 600 f := (hf_277 1 (by decide)).trans hc_253
        have hc_305 : σ_280 23 = o5 G (23) (nI (lo)) := (hf_277 23 (by decide)).trans hc_254
        have hc_306 : σ_280 24 = q_an G 256 o := (hf_277 24 (by decide)).trans hc_255
        have hc_307 : σ_280 224 = q_rn G 2 2 (fun j => some (243 + 18 * j)) := (hf_277 224 (by decide)).trans hc_256
        have hc_308 : σ_280 225 = q_bn G 2 kp := (hf_277 225 (by decide)).trans hc_257
        have hc_309 : σ_280 280 = q_an G 265 g := (hf_277 280 (by decide)).trans hc_259
        have hc_310 : σ_280 281 = q_an G 265 wk := (hf_277 281 (by decide)).trans hc_260
        have hc_311 : σ_280 282 = q_an G 265 as := (hf_277 282 (by decide)).trans hc_261
        have hc_312 : σ_280 283 = q_an G 530 sh := (hf_277 283 (by decide)).trans hc_262
        have hc_313 : σ_280 284 = q_an G 2120 a := (hf_277 284 (by decide)).trans hc_263
        have hc_314 : σ_280 285 = q_bn G 1681 fb := (hf_277 285 (by decide)).trans hc_264
        have hc_315 : σ_280 286 = q_an G 1681 nv := (hf_277 286 (by decide)).trans hc_265
        have hc_316 : σ_280 287 = q_an G 1681 ns := (hf_277 287 (by decide)).trans hc_266
        have hc_317 : σ_280 288 = q_an G 2000 mk := (hf_277 288 (by decide)).trans hc_267
        have hc_318 : σ_280 289 = q_an G 6724 va := (hf_277 289 (by decide)).trans hc_268
        have hc_319 : σ_280 290 = q_an G 6724 sp := (hf_277 290 (by decide)).trans hc_269
        have hc_320 : σ_280 291 = q_an G 80 lp := (hf_277 291 (by decide)).trans hc_270
        have hc_321 : σ_280 292 = q_an G 600 f := (hf_277 292 (by decide)).trans hc_271
        have hc_322 : σ_280 293 = q_an G 300 ou := (hf_277 293 (by decide)).trans hc_272
        have hc_323 : σ_280 295 = q_dn G 1 oD := (hf_277 295 (by decide)).trans hc_273
        have hc_324 : σ_280 294 = q_ln G 1 (va_up oL 0 ((nI (s_gX s1C true v1C)).toInt64)) := (hf_277 294 (by decide)).trans hc_248
        have e_s : s1C = s1M := q_nI_inj (by omega) (by omega) (Chse.symm.trans Mhse)
        subst e_s
        exact (Mhnn v1C (by omega) (by omega) Chve).elim
      · skip
        refine (?_ : AJ G K Q (kc + 2) (ks + 12) false 296 1495 [some (.ref bS), some (.ref (q_h G + 0)), some (.ref (q_h G + 279)), some (.ref (q_h G + 294)), some (.ref (q_h G + 295)), some (.int (nI (i))), some (.int (nI (0))), none, none] [.int (nI (s_gX s1M true v1M))] σ_280)
        have hc_278 : σ_280 279 = o11 G (upd F 7 (nI (0))) := hc_278
        have hc_325 : σ_280 0 = o10 G (nI (il)) (z2) (z3) := (hf_279 0 (by decide)).trans hc_252
        have hc_326 : σ_280 1 = q_an G 600 f := (hf_279 1 (by decide)).trans hc_253
        have hc_327 : σ_280 23 = o5 G (23) (nI (lo)) := (hf_279 23 (by decide)).trans hc_254
        have hc_328 : σ_280 24 = q_an G 256 o := (hf_279 24 (by decide)).trans hc_255
        have hc_329 : σ_280 224 = q_rn G 2 2 (fun j => some (243 + 18 * j)) := (hf_279 224 (by decide)).trans hc_256
        have hc_330 : σ_280 225 = q_bn G 2 kp := (hf_279 225 (by decide)).trans hc_257
        have hc_331 : σ_280 280 = q_an G 265 g := (hf_279 280 (by decide)).trans hc_259
        have hc_332 : σ_280 281 = q_an G 265 wk := (hf_279 281 (by decide)).trans hc_260
        have hc_333 : σ_280 282 = q_an G 265 as := (hf_279 282 (by decide)).trans hc_261
        have hc_334 : σ_280 283 = q_an G 530 sh := (hf_279 283 (by decide)).trans hc_262
        have hc_335 : σ_280 284 = q_an G 2120 a := (hf_279 284 (by decide)).trans hc_263
        have hc_336 : σ_280 285 = q_bn G 1681 fb := (hf_279 285 (by decide)).trans hc_264
        have hc_337 : σ_280 286 = q_an G 1681 nv := (hf_279 286 (by decide)).trans hc_265
        have hc_338 : σ_280 287 = q_an G 1681 ns := (hf_279 287 (by decide)).trans hc_266
        have hc_339 : σ_280 288 = q_an G 2000 mk := (hf_279 288 (by decide)).trans hc_267
        have hc_340 : σ_280 289 = q_an G 6724 va := (hf_279 289 (by decide)).trans hc_268
        have hc_341 : σ_280 290 = q_an G 6724 sp := (hf_279 290 (by decide)).trans hc_269
        have hc_342 : σ_280 291 = q_an G 80 lp := (hf_279 291 (by decide)).trans hc_270
        have hc_343 : σ_280 292 = q_an G 600 f := (hf_279 292 (by decide)).trans hc_271
        have hc_344 : σ_280 293 = q_an G 300 ou := (hf_279 293 (by decide)).trans hc_272
        have hc_345 : σ_280 295 = q_dn G 1 oD := (hf_279 295 (by decide)).trans hc_273
        have hc_346 : σ_280 294 = q_ln G 1 (va_up oL 0 ((nI (s_gX s1C true v1C)).toInt64)) := (hf_279 294 (by decide)).trans hc_248
        have e_s : s1C = s1M := q_nI_inj (by omega) (by omega) (Chse.symm.trans Mhse)
        subst e_s
        have e_v : v1C = v1M := q_nI_inj (by omega) (by omega) (Chve.symm.trans Mhve)
        subst e_v
        refine A_istore hg dL_law_1495 (by decide) (q_c1d rfl) ?_
        refine A_eq (ls2 := [some (.ref bS), some (.ref (q_h G + 0)), some (.ref (q_h G + 279)), some (.ref (q_h G + 294)), some (.ref (q_h G + 295)), some (.int (nI (i))), some (.int (nI (0))), some (.int (nI (s_gX s1C true v1C))), none]) (st2 := []) (pc2 := 0) rfl rfl ?_
        refine A_aload_n hg dL_law_1497 rfl rfl ?_
        refine A_eV (kc2 := kc + 2) (ks2 := ks + 12) (As := []) (rest := []) hg lk_RL_170 in_X11_thrown se_X11_thrown rfl dL_law_1498 ⟨by decide, by decide⟩ rfl rfl (hfK 2 12 (by decide) (by decide)) hc_278 (by omega) rfl rfl (Nat.le_of_ble_eq_true rfl) (c_X11_thrown G false 296 σ_280 (upd F 7 (nI (0))) hc_278 (by omega)) ?_
        refine A_top (w := .int (nI (0))) (congrArg Value.int rfl) ?_
        refine A_iload hg dL_law_1501 rfl ?_
        refine A_icmp_eqN (tgt := 1508) hg dL_law_1503 (by decide) (by decide) (by decide) (fun c1503 => ?_) (fun c1503 => False.elim (by omega))
        refine A_iload hg dL_law_1508 rfl ?_
        refine A_if_neN (tgt := 1525) hg dL_law_1510 (by decide) (by decide) (fun c1510 => absurd (by decide) c1510) (fun c1510 => ?_)
        refine A_aload_n hg dL_law_1513 rfl rfl ?_
        refine A_iconst (v := (nI (0))) hg dL_law_1514 (by decide) ?_
        refine A_lald (j := 0) hg dL_law_1515 hc_346 (by omega) (by decide) (by decide) ?_
        refine A_top (w := .long ((nI (s_gX s1C true v1C)).toInt64)) (congrArg Value.long iv_up0) ?_
        refine A_iload hg dL_law_1516 rfl ?_
        refine A_i2l (v := (nI (s_gX s1C true v1C)).toInt64) hg dL_law_1518 rfl ?_
        refine A_lcmp hg dL_law_1519 ?_
        refine A_top (w := .int (nI 0)) (congrArg Value.int (lc_self _)) ?_
        refine A_if_eqN (tgt := 1525) hg dL_law_1520 (by decide) (by decide) (fun c1520 => ?_) (fun c1520 => absurd (by decide) c1520)
        refine A_goto (tgt := 3062) hg dL_law_1525 (by decide) ?_
        refine A_drop 6 ?_
        refine A_drop 7 ?_
        refine A_eq (ls2 := [some (.ref bS), some (.ref (q_h G + 0)), some (.ref (q_h G + 279)), some (.ref (q_h G + 294)), some (.ref (q_h G + 295)), some (.int (nI (i))), none, none, none]) (st2 := []) (pc2 := 0) rfl rfl ?_
        refine A_wide (kc2 := kc + 8) (ks2 := ks + 48) (by omega) (by omega) ?_
        exact hnxt _ (iv_mk il z2 z3 f lo o g nx m ps kp sn (upd F 7 (nI (0))) wk as sh a fb nv ns mk va sp lp mc z ss ou (va_up oL 0 ((nI (s_gX s1C true v1C)).toInt64)) oD hc_325 hc_326 hc_327 hc_328 hc_329 hc_330 hc_278 hc_331 hc_332 hc_333 hc_334 hc_335 hc_336 hc_337 hc_338 hc_339 hc_340 hc_341 hc_342 hc_343 hc_344 hc_346 hc_345 (x_lj_e (fun i _ _ => ((hf_279 i (by omega)).trans (hf_249 i (by omega)))) hL) (x_gm_e (fun i _ _ => ((hf_279 i (by omega)).trans (hf_249 i (by omega)))) hG) (x_mx_e (fun i _ _ => ((hf_279 i (by omega)).trans (hf_249 i (by omega)))) hM) (x_hi_e (fun i _ _ => ((hf_279 i (by omega)).trans (hf_249 i (by omega)))) hHi) (x_oj_e (fun i _ _ => ((hf_279 i (by omega)).trans (hf_249 i (by omega)))) hO) (x_pj_e (fun i _ _ => ((hf_279 i (by omega)).trans (hf_249 i (by omega)))) hT) (iv_hn (fun i _ _ => ((hf_279 i (by omega)).trans (hf_249 i (by omega)))) hH) (iv_Sn (fun i _ _ => ((hf_279 i (by omega)).trans (hf_249 i (by omega)))) hSn) (iv_Kp (fun i _ _ => ((hf_279 i (by omega)).trans (hf_249 i (by omega)))) hKp) (by omega) hfb (by omega) hou hgd hps hk1 hkss hss hsn hF5 hF6 hF12 hF16 hF21 hF22 hF23 hF33 (by omega) hmk hTI hlo)
    · skip
      rw [he_250]
      refine (?_ : AJ G K Q (kc + 2) (ks + 12) false 296 1463 [some (.ref bS), some (.ref (q_h G + 0)), some (.ref (q_h G + 279)), some (.ref (q_h G + 294)), some (.ref (q_h G + 295)), some (.int (nI (i))), none, none, none] [.int (nI (1))] σ)
      refine A_istore hg dL_law_1463 (by decide) (q_c1d rfl) ?_
      refine A_eq (ls2 := [some (.ref bS), some (.ref (q_h G + 0)), some (.ref (q_h G + 279)), some (.ref (q_h G + 294)), some (.ref (q_h G + 295)), some (.int (nI (i))), some (.int (nI (1))), none, none]) (st2 := []) (pc2 := 0) rfl rfl ?_
      refine A_aload_n hg dL_law_1465 rfl rfl ?_
      refine A_aload_n hg dL_law_1466 rfl rfl ?_
      refine A_iload hg dL_law_1467 rfl ?_
      refine A_iconst (v := (nI (1))) hg dL_law_1469 (by decide) ?_
      refine A_iaddN hg dL_law_1470 ?_
      refine A_sld hg hX (i + 1) (by omega) dL_law_1471 ?_
      refine A_aload_n hg dL_law_1472 rfl rfl ?_
      refine A_iload hg dL_law_1473 rfl ?_
      refine A_iconst (v := (nI (2))) hg dL_law_1475 (by decide) ?_
      refine A_iaddN hg dL_law_1476 ?_
      refine A_sld hg hX (i + 2) (by omega) dL_law_1477 ?_
      refine A_aload_n hg dL_law_1478 rfl rfl ?_
      refine A_iload hg dL_law_1479 rfl ?_
      refine A_iconst (v := (nI (3))) hg dL_law_1481 (by decide) ?_
      refine A_iaddN hg dL_law_1482 ?_
      refine A_sld hg hX (i + 3) (by omega) dL_law_1483 ?_
      refine A_if_eq (tgt := 1491) hg dL_law_1484 (by decide) (fun z9 => absurd z9 c1451) (fun _ => ?_)
      refine A_iconst (v := (nI (1))) hg dL_law_1487 (by decide) ?_
      refine A_goto (tgt := 1492) hg dL_law_1488 (by decide) ?_
      refine A_hV (kc2 := kc + 2) (ks2 := ks + 12) (As := [.int (xs (i + 1)), .int (xs (i + 2)), .int (nI (1))]) (rest := []) hg lk_RL_217 in_X11_golden se_X11_golden rfl dL_law_1492 ⟨by decide, by decide⟩ rfl rfl (hfK 2 12 (by decide) (by decide)) hv6 (by omega) rfl rfl (Nat.le_of_ble_eq_true rfl) (c_X11_golden G false 296 σ F (xs (i + 1)) (xs (i + 2)) true hv6 (by omega)) ?_
      rintro _ σ_353 (⟨rfl, Mhno, hc_347, hf_348⟩ | ⟨s1M, rfl, Mhse, Mhsa, Mhsl, Mhnn, hc_349, hf_350⟩ | ⟨s1M, v1M, rfl, Mhse, Mhsa, Mhsl, Mhve, Mhva, Mhvl, hc_351, hf_352⟩)
      · skip
        refine (?_ : AJ G K Q (kc + 2) (ks + 12) false 296 1495 [some (.ref bS), some (.ref (q_h G + 0)), some (.ref (q_h G + 279)), some (.ref (q_h G + 294)), some (.ref (q_h G + 295)), some (.int (nI (i))), some (.int (nI (1))), none, none] [.int (nI (0))] σ_353)
        have hc_347 : σ_353 279 = o11 G (upd F 7 (nI (1))) := hc_347
        have hc_354 : σ_353 0 = o10 G (nI (il)) (z2) (z3) := (hf_348 0 (by decide)).trans hv0
        have hc_355 : σ_353 1 = q_an G 600 f := (hf_348 1 (by decide)).trans hv1
        have hc_356 : σ_353 23 = o5 G (23) (nI (lo)) := (hf_348 23 (by decide)).trans hv2
        have hc_357 : σ_353 24 = q_an G 256 o := (hf_348 24 (by decide)).trans hv3
        have hc_358 : σ_353 224 = q_rn G 2 2 (fun j => some (243 + 18 * j)) := (hf_348 224 (by decide)).trans hv4
        have hc_359 : σ_353 225 = q_bn G 2 kp := (hf_348 225 (by decide)).trans hv5
        have hc_360 : σ_353 280 = q_an G 265 g := (hf_348 280 (by decide)).trans hv7
        have hc_361 : σ_353 281 = q_an G 265 wk := (hf_348 281 (by decide)).trans hv8
        have hc_362 : σ_353 282 = q_an G 265 as := (hf_348 282 (by decide)).trans hv9
        have hc_363 : σ_353 283 = q_an G 530 sh := (hf_348 283 (by decide)).trans hv10
        have hc_364 : σ_353 284 = q_an G 2120 a := (hf_348 284 (by decide)).trans hv11
        have hc_365 : σ_353 285 = q_bn G 1681 fb := (hf_348 285 (by decide)).trans hv12
        have hc_366 : σ_353 286 = q_an G 1681 nv := (hf_348 286 (by decide)).trans hv13
        have hc_367 : σ_353 287 = q_an G 1681 ns := (hf_348 287 (by decide)).trans hv14
        have hc_368 : σ_353 288 = q_an G 2000 mk := (hf_348 288 (by decide)).trans hv15
        have hc_369 : σ_353 289 = q_an G 6724 va := (hf_348 289 (by decide)).trans hv16
        have hc_370 : σ_353 290 = q_an G 6724 sp := (hf_348 290 (by decide)).trans hv17
        have hc_371 : σ_353 291 = q_an G 80 lp := (hf_348 291 (by decide)).trans hv18
        have hc_372 : σ_353 292 = q_an G 600 f := (hf_348 292 (by decide)).trans hv19
        have hc_373 : σ_353 293 = q_an G 300 ou := (hf_348 293 (by decide)).trans hv20
        have hc_374 : σ_353 294 = q_ln G 1 oL := (hf_348 294 (by decide)).trans hv21
        have hc_375 : σ_353 295 = q_dn G 1 oD := (hf_348 295 (by decide)).trans hv22
        refine A_istore hg dL_law_1495 (by decide) (q_c1d rfl) ?_
        refine A_eq (ls2 := [some (.ref bS), some (.ref (q_h G + 0)), some (.ref (q_h G + 279)), some (.ref (q_h G + 294)), some (.ref (q_h G + 295)), some (.int (nI (i))), some (.int (nI (1))), some (.int (nI (0))), none]) (st2 := []) (pc2 := 0) rfl rfl ?_
        refine A_aload_n hg dL_law_1497 rfl rfl ?_
        refine A_eV (kc2 := kc + 2) (ks2 := ks + 12) (As := []) (rest := []) hg lk_RL_170 in_X11_thrown se_X11_thrown rfl dL_law_1498 ⟨by decide, by decide⟩ rfl rfl (hfK 2 12 (by decide) (by decide)) hc_347 (by omega) rfl rfl (Nat.le_of_ble_eq_true rfl) (c_X11_thrown G false 296 σ_353 (upd F 7 (nI (1))) hc_347 (by omega)) ?_
        refine A_top (w := .int (nI (1))) (congrArg Value.int rfl) ?_
        refine A_iload hg dL_law_1501 rfl ?_
        refine A_icmp_eqN (tgt := 1508) hg dL_law_1503 (by decide) (by decide) (by decide) (fun c1503 => ?_) (fun c1503 => False.elim (by omega))
        refine A_iload hg dL_law_1508 rfl ?_
        refine A_if_neN (tgt := 1525) hg dL_law_1510 (by decide) (by decide) (fun c1510 => ?_) (fun c1510 => absurd c1510 (by decide))
        refine A_goto (tgt := 3062) hg dL_law_1525 (by decide) ?_
        refine A_drop 6 ?_
        refine A_drop 7 ?_
        refine A_eq (ls2 := [some (.ref bS), some (.ref (q_h G + 0)), some (.ref (q_h G + 279)), some (.ref (q_h G + 294)), some (.ref (q_h G + 295)), some (.int (nI (i))), none, none, none]) (st2 := []) (pc2 := 0) rfl rfl ?_
        refine A_wide (kc2 := kc + 8) (ks2 := ks + 48) (by omega) (by omega) ?_
        exact hnxt _ (iv_mk il z2 z3 f lo o g nx m ps kp sn (upd F 7 (nI (1))) wk as sh a fb nv ns mk va sp lp mc z ss ou oL oD hc_354 hc_355 hc_356 hc_357 hc_358 hc_359 hc_347 hc_360 hc_361 hc_362 hc_363 hc_364 hc_365 hc_366 hc_367 hc_368 hc_369 hc_370 hc_371 hc_372 hc_373 hc_374 hc_375 (x_lj_e (fun i _ _ => (hf_348 i (by omega))) hL) (x_gm_e (fun i _ _ => (hf_348 i (by omega))) hG) (x_mx_e (fun i _ _ => (hf_348 i (by omega))) hM) (x_hi_e (fun i _ _ => (hf_348 i (by omega))) hHi) (x_oj_e (fun i _ _ => (hf_348 i (by omega))) hO) (x_pj_e (fun i _ _ => (hf_348 i (by omega))) hT) (iv_hn (fun i _ _ => (hf_348 i (by omega))) hH) (iv_Sn (fun i _ _ => (hf_348 i (by omega))) hSn) (iv_Kp (fun i _ _ => (hf_348 i (by omega))) hKp) (by omega) hfb (by omega) hou hgd hps hk1 hkss hss hsn hF5 hF6 hF12 hF16 hF21 hF22 hF23 hF33 (by omega) hmk hTI hlo)
      · skip
        refine (?_ : AJ G K Q (kc + 2) (ks + 12) false 296 1495 [some (.ref bS), some (.ref (q_h G + 0)), some (.ref (q_h G + 279)), some (.ref (q_h G + 294)), some (.ref (q_h G + 295)), some (.int (nI (i))), some (.int (nI (1))), none, none] [.int (nI (0))] σ_353)
        have hc_349 : σ_353 279 = o11 G (upd F 7 (nI (1))) := hc_349
        have hc_376 : σ_353 0 = o10 G (nI (il)) (z2) (z3) := (hf_350 0 (by decide)).trans hv0
        have hc_377 : σ_353 1 = q_an G 600 f := (hf_350 1 (by decide)).trans hv1
        have hc_378 : σ_353 23 = o5 G (23) (nI (lo)) := (hf_350 23 (by decide)).trans hv2
        have hc_379 : σ_353 24 = q_an G 256 o := (hf_350 24 (by decide)).trans hv3
        have hc_380 : σ_353 224 = q_rn G 2 2 (fun j => some (243 + 18 * j)) := (hf_350 224 (by decide)).trans hv4
        have hc_381 : σ_353 225 = q_bn G 2 kp := (hf_350 225 (by decide)).trans hv5
        have hc_382 : σ_353 280 = q_an G 265 g := (hf_350 280 (by decide)).trans hv7
        have hc_383 : σ_353 281 = q_an G 265 wk := (hf_350 281 (by decide)).trans hv8
        have hc_384 : σ_353 282 = q_an G 265 as := (hf_350 282 (by decide)).trans hv9
        have hc_385 : σ_353 283 = q_an G 530 sh := (hf_350 283 (by decide)).trans hv10
        have hc_386 : σ_353 284 = q_an G 2120 a := (hf_350 284 (by decide)).trans hv11
        have hc_387 : σ_353 285 = q_bn G 1681 fb := (hf_350 285 (by decide)).trans hv12
        have hc_388 : σ_353 286 = q_an G 1681 nv := (hf_350 286 (by decide)).trans hv13
        have hc_389 : σ_353 287 = q_an G 1681 ns := (hf_350 287 (by decide)).trans hv14
        have hc_390 : σ_353 288 = q_an G 2000 mk := (hf_350 288 (by decide)).trans hv15
        have hc_391 : σ_353 289 = q_an G 6724 va := (hf_350 289 (by decide)).trans hv16
        have hc_392 : σ_353 290 = q_an G 6724 sp := (hf_350 290 (by decide)).trans hv17
        have hc_393 : σ_353 291 = q_an G 80 lp := (hf_350 291 (by decide)).trans hv18
        have hc_394 : σ_353 292 = q_an G 600 f := (hf_350 292 (by decide)).trans hv19
        have hc_395 : σ_353 293 = q_an G 300 ou := (hf_350 293 (by decide)).trans hv20
        have hc_396 : σ_353 294 = q_ln G 1 oL := (hf_350 294 (by decide)).trans hv21
        have hc_397 : σ_353 295 = q_dn G 1 oD := (hf_350 295 (by decide)).trans hv22
        exact (Chxx s1M (by omega) (by omega) Mhse).elim
      · skip
        refine (?_ : AJ G K Q (kc + 2) (ks + 12) false 296 1495 [some (.ref bS), some (.ref (q_h G + 0)), some (.ref (q_h G + 279)), some (.ref (q_h G + 294)), some (.ref (q_h G + 295)), some (.int (nI (i))), some (.int (nI (1))), none, none] [.int (nI (s_gX s1M true v1M))] σ_353)
        have hc_351 : σ_353 279 = o11 G (upd F 7 (nI (0))) := hc_351
        have hc_398 : σ_353 0 = o10 G (nI (il)) (z2) (z3) := (hf_352 0 (by decide)).trans hv0
        have hc_399 : σ_353 1 = q_an G 600 f := (hf_352 1 (by decide)).trans hv1
        have hc_400 : σ_353 23 = o5 G (23) (nI (lo)) := (hf_352 23 (by decide)).trans hv2
        have hc_401 : σ_353 24 = q_an G 256 o := (hf_352 24 (by decide)).trans hv3
        have hc_402 : σ_353 224 = q_rn G 2 2 (fun j => some (243 + 18 * j)) := (hf_352 224 (by decide)).trans hv4
        have hc_403 : σ_353 225 = q_bn G 2 kp := (hf_352 225 (by decide)).trans hv5
        have hc_404 : σ_353 280 = q_an G 265 g := (hf_352 280 (by decide)).trans hv7
        have hc_405 : σ_353 281 = q_an G 265 wk := (hf_352 281 (by decide)).trans hv8
        have hc_406 : σ_353 282 = q_an G 265 as := (hf_352 282 (by decide)).trans hv9
        have hc_407 : σ_353 283 = q_an G 530 sh := (hf_352 283 (by decide)).trans hv10
        have hc_408 : σ_353 284 = q_an G 2120 a := (hf_352 284 (by decide)).trans hv11
        have hc_409 : σ_353 285 = q_bn G 1681 fb := (hf_352 285 (by decide)).trans hv12
        have hc_410 : σ_353 286 = q_an G 1681 nv := (hf_352 286 (by decide)).trans hv13
        have hc_411 : σ_353 287 = q_an G 1681 ns := (hf_352 287 (by decide)).trans hv14
        have hc_412 : σ_353 288 = q_an G 2000 mk := (hf_352 288 (by decide)).trans hv15
        have hc_413 : σ_353 289 = q_an G 6724 va := (hf_352 289 (by decide)).trans hv16
        have hc_414 : σ_353 290 = q_an G 6724 sp := (hf_352 290 (by decide)).trans hv17
        have hc_415 : σ_353 291 = q_an G 80 lp := (hf_352 291 (by decide)).trans hv18
        have hc_416 : σ_353 292 = q_an G 600 f := (hf_352 292 (by decide)).trans hv19
        have hc_417 : σ_353 293 = q_an G 300 ou := (hf_352 293 (by decide)).trans hv20
        have hc_418 : σ_353 294 = q_ln G 1 oL := (hf_352 294 (by decide)).trans hv21
        have hc_419 : σ_353 295 = q_dn G 1 oD := (hf_352 295 (by decide)).trans hv22
        exact (Chxx s1M (by omega) (by omega) Mhse).elim
    · skip
      rw [he_251]
      refine (?_ : AJ G K Q (kc + 2) (ks + 12) false 296 1463 [some (.ref bS), some (.ref (q_h G + 0)), some (.ref (q_h G + 279)), some (.ref (q_h G + 294)), some (.ref (q_h G + 295)), some (.int (nI (i))), none, none, none] [.int (nI (1))] σ)
      obtain ⟨s1C, Chx0, Chx1, Chx2, Chx3⟩ := Chxx
      refine A_istore hg dL_law_1463 (by decide) (q_c1d rfl) ?_
      refine A_eq (ls2 := [some (.ref bS), some (.ref (q_h G + 0)), some (.ref (q_h G + 279)), some (.ref (q_h G + 294)), some (.ref (q_h G + 295)), some (.int (nI (i))), some (.int (nI (1))), none, none]) (st2 := []) (pc2 := 0) rfl rfl ?_
      refine A_aload_n hg dL_law_1465 rfl rfl ?_
      refine A_aload_n hg dL_law_1466 rfl rfl ?_
      refine A_iload hg dL_law_1467 rfl ?_
      refine A_iconst (v := (nI (1))) hg dL_law_1469 (by decide) ?_
      refine A_iaddN hg dL_law_1470 ?_
      refine A_sld hg hX (i + 1) (by omega) dL_law_1471 ?_
      refine A_aload_n hg dL_law_1472 rfl rfl ?_
      refine A_iload hg dL_law_1473 rfl ?_
      refine A_iconst (v := (nI (2))) hg dL_law_1475 (by decide) ?_
      refine A_iaddN hg dL_law_1476 ?_
      refine A_sld hg hX (i + 2) (by omega) dL_law_1477 ?_
      refine A_aload_n hg dL_law_1478 rfl rfl ?_
      refine A_iload hg dL_law_1479 rfl ?_
      refine A_iconst (v := (nI (3))) hg dL_law_1481 (by decide) ?_
      refine A_iaddN hg dL_law_1482 ?_
      refine A_sld hg hX (i + 3) (by omega) dL_law_1483 ?_
      refine A_if_eq (tgt := 1491) hg dL_law_1484 (by decide) (fun z9 => absurd z9 c1451) (fun _ => ?_)
      refine A_iconst (v := (nI (1))) hg dL_law_1487 (by decide) ?_
      refine A_goto (tgt := 1492) hg dL_law_1488 (by decide) ?_
      refine A_hV (kc2 := kc + 2) (ks2 := ks + 12) (As := [.int (xs (i + 1)), .int (xs (i + 2)), .int (nI (1))]) (rest := []) hg lk_RL_217 in_X11_golden se_X11_golden rfl dL_law_1492 ⟨by decide, by decide⟩ rfl rfl (hfK 2 12 (by decide) (by decide)) hv6 (by omega) rfl rfl (Nat.le_of_ble_eq_true rfl) (c_X11_golden G false 296 σ F (xs (i + 1)) (xs (i + 2)) true hv6 (by omega)) ?_
      rintro _ σ_426 (⟨rfl, Mhno, hc_420, hf_421⟩ | ⟨s1M, rfl, Mhse, Mhsa, Mhsl, Mhnn, hc_422, hf_423⟩ | ⟨s1M, v1M, rfl, Mhse, Mhsa, Mhsl, Mhve, Mhva, Mhvl, hc_424, hf_425⟩)
      · skip
        refine (?_ : AJ G K Q (kc + 2) (ks + 12) false 296 1495 [some (.ref bS), some (.ref (q_h G + 0)), some (.ref (q_h G + 279)), some (.ref (q_h G + 294)), some (.ref (q_h G + 295)), some (.int (nI (i))), some (.int (nI (1))), none, none] [.int (nI (0))] σ_426)
        have hc_420 : σ_426 279 = o11 G (upd F 7 (nI (1))) := hc_420
        have hc_427 : σ_426 0 = o10 G (nI (il)) (z2) (z3) := (hf_421 0 (by decide)).trans hv0
        have hc_428 : σ_426 1 = q_an G 600 f := (hf_421 1 (by decide)).trans hv1
        have hc_429 : σ_426 23 = o5 G (23) (nI (lo)) := (hf_421 23 (by decide)).trans hv2
        have hc_430 : σ_426 24 = q_an G 256 o := (hf_421 24 (by decide)).trans hv3
        have hc_431 : σ_426 224 = q_rn G 2 2 (fun j => some (243 + 18 * j)) := (hf_421 224 (by decide)).trans hv4
        have hc_432 : σ_426 225 = q_bn G 2 kp := (hf_421 225 (by decide)).trans hv5
        have hc_433 : σ_426 280 = q_an G 265 g := (hf_421 280 (by decide)).trans hv7
        have hc_434 : σ_426 281 = q_an G 265 wk := (hf_421 281 (by decide)).trans hv8
        have hc_435 : σ_426 282 = q_an G 265 as := (hf_421 282 (by decide)).trans hv9
        have hc_436 : σ_426 283 = q_an G 530 sh := (hf_421 283 (by decide)).trans hv10
        have hc_437 : σ_426 284 = q_an G 2120 a := (hf_421 284 (by decide)).trans hv11
        have hc_438 : σ_426 285 = q_bn G 1681 fb := (hf_421 285 (by decide)).trans hv12
        have hc_439 : σ_426 286 = q_an G 1681 nv := (hf_421 286 (by decide)).trans hv13
        have hc_440 : σ_426 287 = q_an G 1681 ns := (hf_421 287 (by decide)).trans hv14
        have hc_441 : σ_426 288 = q_an G 2000 mk := (hf_421 288 (by decide)).trans hv15
        have hc_442 : σ_426 289 = q_an G 6724 va := (hf_421 289 (by decide)).trans hv16
        have hc_443 : σ_426 290 = q_an G 6724 sp := (hf_421 290 (by decide)).trans hv17
        have hc_444 : σ_426 291 = q_an G 80 lp := (hf_421 291 (by decide)).trans hv18
        have hc_445 : σ_426 292 = q_an G 600 f := (hf_421 292 (by decide)).trans hv19
        have hc_446 : σ_426 293 = q_an G 300 ou := (hf_421 293 (by decide)).trans hv20
        have hc_447 : σ_426 294 = q_ln G 1 oL := (hf_421 294 (by decide)).trans hv21
        have hc_448 : σ_426 295 = q_dn G 1 oD := (hf_421 295 (by decide)).trans hv22
        exact (Mhno s1C (by omega) (by omega) Chx0).elim
      · skip
        refine (?_ : AJ G K Q (kc + 2) (ks + 12) false 296 1495 [some (.ref bS), some (.ref (q_h G + 0)), some (.ref (q_h G + 279)), some (.ref (q_h G + 294)), some (.ref (q_h G + 295)), some (.int (nI (i))), some (.int (nI (1))), none, none] [.int (nI (0))] σ_426)
        have hc_422 : σ_426 279 = o11 G (upd F 7 (nI (1))) := hc_422
        have hc_449 : σ_426 0 = o10 G (nI (il)) (z2) (z3) := (hf_423 0 (by decide)).trans hv0
        have hc_450 : σ_426 1 = q_an G 600 f := (hf_423 1 (by decide)).trans hv1
        have hc_451 : σ_426 23 = o5 G (23) (nI (lo)) := (hf_423 23 (by decide)).trans hv2
        have hc_452 : σ_426 24 = q_an G 256 o := (hf_423 24 (by decide)).trans hv3
        have hc_453 : σ_426 224 = q_rn G 2 2 (fun j => some (243 + 18 * j)) := (hf_423 224 (by decide)).trans hv4
        have hc_454 : σ_426 225 = q_bn G 2 kp := (hf_423 225 (by decide)).trans hv5
        have hc_455 : σ_426 280 = q_an G 265 g := (hf_423 280 (by decide)).trans hv7
        have hc_456 : σ_426 281 = q_an G 265 wk := (hf_423 281 (by decide)).trans hv8
        have hc_457 : σ_426 282 = q_an G 265 as := (hf_423 282 (by decide)).trans hv9
        have hc_458 : σ_426 283 = q_an G 530 sh := (hf_423 283 (by decide)).trans hv10
        have hc_459 : σ_426 284 = q_an G 2120 a := (hf_423 284 (by decide)).trans hv11
        have hc_460 : σ_426 285 = q_bn G 1681 fb := (hf_423 285 (by decide)).trans hv12
        have hc_461 : σ_426 286 = q_an G 1681 nv := (hf_423 286 (by decide)).trans hv13
        have hc_462 : σ_426 287 = q_an G 1681 ns := (hf_423 287 (by decide)).trans hv14
        have hc_463 : σ_426 288 = q_an G 2000 mk := (hf_423 288 (by decide)).trans hv15
        have hc_464 : σ_426 289 = q_an G 6724 va := (hf_423 289 (by decide)).trans hv16
        have hc_465 : σ_426 290 = q_an G 6724 sp := (hf_423 290 (by decide)).trans hv17
        have hc_466 : σ_426 291 = q_an G 80 lp := (hf_423 291 (by decide)).trans hv18
        have hc_467 : σ_426 292 = q_an G 600 f := (hf_423 292 (by decide)).trans hv19
        have hc_468 : σ_426 293 = q_an G 300 ou := (hf_423 293 (by decide)).trans hv20
        have hc_469 : σ_426 294 = q_ln G 1 oL := (hf_423 294 (by decide)).trans hv21
        have hc_470 : σ_426 295 = q_dn G 1 oD := (hf_423 295 (by decide)).trans hv22
        have e_s : s1C = s1M := q_nI_inj (by omega) (by omega) (Chx0.symm.trans Mhse)
        subst e_s
        refine A_istore hg dL_law_1495 (by decide) (q_c1d rfl) ?_
        refine A_eq (ls2 := [some (.ref bS), some (.ref (q_h G + 0)), some (.ref (q_h G + 279)), some (.ref (q_h G + 294)), some (.ref (q_h G + 295)), some (.int (nI (i))), some (.int (nI (1))), some (.int (nI (0))), none]) (st2 := []) (pc2 := 0) rfl rfl ?_
        refine A_aload_n hg dL_law_1497 rfl rfl ?_
        refine A_eV (kc2 := kc + 2) (ks2 := ks + 12) (As := []) (rest := []) hg lk_RL_170 in_X11_thrown se_X11_thrown rfl dL_law_1498 ⟨by decide, by decide⟩ rfl rfl (hfK 2 12 (by decide) (by decide)) hc_422 (by omega) rfl rfl (Nat.le_of_ble_eq_true rfl) (c_X11_thrown G false 296 σ_426 (upd F 7 (nI (1))) hc_422 (by omega)) ?_
        refine A_top (w := .int (nI (1))) (congrArg Value.int rfl) ?_
        refine A_iload hg dL_law_1501 rfl ?_
        refine A_icmp_eqN (tgt := 1508) hg dL_law_1503 (by decide) (by decide) (by decide) (fun c1503 => ?_) (fun c1503 => False.elim (by omega))
        refine A_iload hg dL_law_1508 rfl ?_
        refine A_if_neN (tgt := 1525) hg dL_law_1510 (by decide) (by decide) (fun c1510 => ?_) (fun c1510 => absurd c1510 (by decide))
        refine A_goto (tgt := 3062) hg dL_law_1525 (by decide) ?_
        refine A_drop 6 ?_
        refine A_drop 7 ?_
        refine A_eq (ls2 := [some (.ref bS), some (.ref (q_h G + 0)), some (.ref (q_h G + 279)), some (.ref (q_h G + 294)), some (.ref (q_h G + 295)), some (.int (nI (i))), none, none, none]) (st2 := []) (pc2 := 0) rfl rfl ?_
        refine A_wide (kc2 := kc + 8) (ks2 := ks + 48) (by omega) (by omega) ?_
        exact hnxt _ (iv_mk il z2 z3 f lo o g nx m ps kp sn (upd F 7 (nI (1))) wk as sh a fb nv ns mk va sp lp mc z ss ou oL oD hc_449 hc_450 hc_451 hc_452 hc_453 hc_454 hc_422 hc_455 hc_456 hc_457 hc_458 hc_459 hc_460 hc_461 hc_462 hc_463 hc_464 hc_465 hc_466 hc_467 hc_468 hc_469 hc_470 (x_lj_e (fun i _ _ => (hf_423 i (by omega))) hL) (x_gm_e (fun i _ _ => (hf_423 i (by omega))) hG) (x_mx_e (fun i _ _ => (hf_423 i (by omega))) hM) (x_hi_e (fun i _ _ => (hf_423 i (by omega))) hHi) (x_oj_e (fun i _ _ => (hf_423 i (by omega))) hO) (x_pj_e (fun i _ _ => (hf_423 i (by omega))) hT) (iv_hn (fun i _ _ => (hf_423 i (by omega))) hH) (iv_Sn (fun i _ _ => (hf_423 i (by omega))) hSn) (iv_Kp (fun i _ _ => (hf_423 i (by omega))) hKp) (by omega) hfb (by omega) hou hgd hps hk1 hkss hss hsn hF5 hF6 hF12 hF16 hF21 hF22 hF23 hF33 (by omega) hmk hTI hlo)
      · skip
        refine (?_ : AJ G K Q (kc + 2) (ks + 12) false 296 1495 [some (.ref bS), some (.ref (q_h G + 0)), some (.ref (q_h G + 279)), some (.ref (q_h G + 294)), some (.ref (q_h G + 295)), some (.int (nI (i))), some (.int (nI (1))), none, none] [.int (nI (s_gX s1M true v1M))] σ_426)
        have hc_424 : σ_426 279 = o11 G (upd F 7 (nI (0))) := hc_424
        have hc_471 : σ_426 0 = o10 G (nI (il)) (z2) (z3) := (hf_425 0 (by decide)).trans hv0
        have hc_472 : σ_426 1 = q_an G 600 f := (hf_425 1 (by decide)).trans hv1
        have hc_473 : σ_426 23 = o5 G (23) (nI (lo)) := (hf_425 23 (by decide)).trans hv2
        have hc_474 : σ_426 24 = q_an G 256 o := (hf_425 24 (by decide)).trans hv3
        have hc_475 : σ_426 224 = q_rn G 2 2 (fun j => some (243 + 18 * j)) := (hf_425 224 (by decide)).trans hv4
        have hc_476 : σ_426 225 = q_bn G 2 kp := (hf_425 225 (by decide)).trans hv5
        have hc_477 : σ_426 280 = q_an G 265 g := (hf_425 280 (by decide)).trans hv7
        have hc_478 : σ_426 281 = q_an G 265 wk := (hf_425 281 (by decide)).trans hv8
        have hc_479 : σ_426 282 = q_an G 265 as := (hf_425 282 (by decide)).trans hv9
        have hc_480 : σ_426 283 = q_an G 530 sh := (hf_425 283 (by decide)).trans hv10
        have hc_481 : σ_426 284 = q_an G 2120 a := (hf_425 284 (by decide)).trans hv11
        have hc_482 : σ_426 285 = q_bn G 1681 fb := (hf_425 285 (by decide)).trans hv12
        have hc_483 : σ_426 286 = q_an G 1681 nv := (hf_425 286 (by decide)).trans hv13
        have hc_484 : σ_426 287 = q_an G 1681 ns := (hf_425 287 (by decide)).trans hv14
        have hc_485 : σ_426 288 = q_an G 2000 mk := (hf_425 288 (by decide)).trans hv15
        have hc_486 : σ_426 289 = q_an G 6724 va := (hf_425 289 (by decide)).trans hv16
        have hc_487 : σ_426 290 = q_an G 6724 sp := (hf_425 290 (by decide)).trans hv17
        have hc_488 : σ_426 291 = q_an G 80 lp := (hf_425 291 (by decide)).trans hv18
        have hc_489 : σ_426 292 = q_an G 600 f := (hf_425 292 (by decide)).trans hv19
        have hc_490 : σ_426 293 = q_an G 300 ou := (hf_425 293 (by decide)).trans hv20
        have hc_491 : σ_426 294 = q_ln G 1 oL := (hf_425 294 (by decide)).trans hv21
        have hc_492 : σ_426 295 = q_dn G 1 oD := (hf_425 295 (by decide)).trans hv22
        have e_s : s1C = s1M := q_nI_inj (by omega) (by omega) (Chx0.symm.trans Mhse)
        subst e_s
        exact (Chx3 v1M (by omega) (by omega) Mhve).elim
set_option maxRecDepth 100000 in
set_option maxHeartbeats 4000000 in
theorem law_c20 (G : GL) (K : KC) (Q : State → Prop) (hh : List (Nat × Nat × Nat × Nat)) (hg : Gd G K RL code 9 ret room_1 hh) (bS L : Nat) (xs : Nat → Int32) (hX : q_scr G K bS L xs) (i kc ks J : Nat) (hi : i + 5 < L) (hL31 : L < 2 ^ 31) (hkc : kc + 8 ≤ 601024) (hks : ks + 48 ≤ 7293034) (σ : Nat → va_E) (hI : iv G σ J) (hJ : J < 512) (hfd : q_fdn) (hdd : q_ddn) (hf2 : q_f2n) (hds : q_dcs) (hnxt : ∀ σ9 : Nat → va_E, iv G σ9 (J + 1) → AJ G K Q (kc + 8) (ks + 48) false 296 3062 [some (.ref bS), some (.ref (q_h G + 0)), some (.ref (q_h G + 279)), some (.ref (q_h G + 294)), some (.ref (q_h G + 295)), some (.int (nI (i))), none, none, none] [] σ9) : AJ G K Q kc ks false 296 1528 [some (.ref bS), some (.ref (q_h G + 0)), some (.ref (q_h G + 279)), some (.ref (q_h G + 294)), some (.ref (q_h G + 295)), some (.int (nI (i))), none, none, none] [] σ := by
  refine iv_el hI ?_
  intro il z2 z3 f lo o g nx m ps kp sn F wk as sh a fb nv ns mk va sp lp mc z ss ou oL oD
  intro hv0 hv1 hv2 hv3 hv4 hv5 hv6 hv7 hv8 hv9 hv10 hv11 hv12 hv13 hv14 hv15 hv16 hv17 hv18 hv19 hv20 hv21 hv22
  intro hL hG hM hHi hO hT hH hSn hKp
  intro hil hfb hlo2 hou hgd hps hk1 hkss hss hsn hF5 hF6 hF12 hF16 hF21 hF22 hF23 hF33 hmc hmk hTI hlo
  have hfK : ∀ a b : Nat, a ≤ 8 → b ≤ 48 → kc + a ≤ room_1.cells ∧ ks + b ≤ room_1.slots := fun a b h1 h2 => ⟨by show kc + a ≤ 601024; omega, by show ks + b ≤ 7293034; omega⟩
  have hg9 := iv_g hG
  obtain ⟨hnx8, hm8, hc78⟩ := iv_hi hHi
  have hbb := iv_byte (m := il) hfb
  have hg90 := hg9.1
  have hg96 := hg9.2.2.2.2.1
  have hnp8 := s_np_le hg9
  refine A_aload_n hg dL_law_1528 rfl rfl ?_
  refine A_aload_n hg dL_law_1529 rfl rfl ?_
  refine A_iload hg dL_law_1530 rfl ?_
  refine A_iconst (v := (nI (1))) hg dL_law_1532 (by decide) ?_
  refine A_iaddN hg dL_law_1533 ?_
  refine A_sld hg hX (i + 1) (by omega) dL_law_1534 ?_
  refine A_aload_n hg dL_law_1535 rfl rfl ?_
  refine A_iload hg dL_law_1536 rfl ?_
  refine A_iconst (v := (nI (2))) hg dL_law_1538 (by decide) ?_
  refine A_iaddN hg dL_law_1539 ?_
  refine A_sld hg hX (i + 2) (by omega) dL_law_1540 ?_
  refine A_aload_n hg dL_law_1541 rfl rfl ?_
  refine A_callSH (As := [.ref (q_h G + 0), .int (xs (i + 1)), .int (xs (i + 2)), .ref (q_h G + 294)]) (rest := []) hg lkH_218 stH_L_goldenOf dL_law_1542 ⟨by decide, by decide⟩ (hfK 2 12 (by decide) (by decide)) rfl rfl (Nat.le_of_ble_eq_true rfl) (c_L_goldenOf G 296 σ (nI (il)) z2 z3 (xs (i + 1)) (xs (i + 2)) oL hv0 hv21 (by omega) (by omega)) ?_
  rintro _ σ_1 (⟨s1C, v1C, rfl, Chse, Chsa, Chsl, Chve, Chva, Chvl, hc_2, hf_3⟩ | ⟨rfl, Chxx, he_4⟩ | ⟨rfl, Chxx, he_5⟩)
  · skip
    refine (?_ : AJ G K Q (kc + 2) (ks + 12) false 296 1545 [some (.ref bS), some (.ref (q_h G + 0)), some (.ref (q_h G + 279)), some (.ref (q_h G + 294)), some (.ref (q_h G + 295)), some (.int (nI (i))), none, none, none] [.int (nI (0))] σ_1)
    have hc_6 : σ_1 0 = o10 G (nI (il)) (z2) (z3) := (hf_3 0 (by decide)).trans hv0
    have hc_7 : σ_1 1 = q_an G 600 f := (hf_3 1 (by decide)).trans hv1
    have hc_8 : σ_1 23 = o5 G (23) (nI (lo)) := (hf_3 23 (by decide)).trans hv2
    have hc_9 : σ_1 24 = q_an G 256 o := (hf_3 24 (by decide)).trans hv3
    have hc_10 : σ_1 224 = q_rn G 2 2 (fun j => some (243 + 18 * j)) := (hf_3 224 (by decide)).trans hv4
    have hc_11 : σ_1 225 = q_bn G 2 kp := (hf_3 225 (by decide)).trans hv5
    have hc_12 : σ_1 279 = o11 G F := (hf_3 279 (by decide)).trans hv6
    have hc_13 : σ_1 280 = q_an G 265 g := (hf_3 280 (by decide)).trans hv7
    have hc_14 : σ_1 281 = q_an G 265 wk := (hf_3 281 (by decide)).trans hv8
    have hc_15 : σ_1 282 = q_an G 265 as := (hf_3 282 (by decide)).trans hv9
    have hc_16 : σ_1 283 = q_an G 530 sh := (hf_3 283 (by decide)).trans hv10
    have hc_17 : σ_1 284 = q_an G 2120 a := (hf_3 284 (by decide)).trans hv11
    have hc_18 : σ_1 285 = q_bn G 1681 fb := (hf_3 285 (by decide)).trans hv12
    have hc_19 : σ_1 286 = q_an G 1681 nv := (hf_3 286 (by decide)).trans hv13
    have hc_20 : σ_1 287 = q_an G 1681 ns := (hf_3 287 (by decide)).trans hv14
    have hc_21 : σ_1 288 = q_an G 2000 mk := (hf_3 288 (by decide)).trans hv15
    have hc_22 : σ_1 289 = q_an G 6724 va := (hf_3 289 (by decide)).trans hv16
    have hc_23 : σ_1 290 = q_an G 6724 sp := (hf_3 290 (by decide)).trans hv17
    have hc_24 : σ_1 291 = q_an G 80 lp := (hf_3 291 (by decide)).trans hv18
    have hc_25 : σ_1 292 = q_an G 600 f := (hf_3 292 (by decide)).trans hv19
    have hc_26 : σ_1 293 = q_an G 300 ou := (hf_3 293 (by decide)).trans hv20
    have hc_27 : σ_1 295 = q_dn G 1 oD := (hf_3 295 (by decide)).trans hv22
    refine A_istore hg dL_law_1545 (by decide) (q_c1d rfl) ?_
    refine A_eq (ls2 := [some (.ref bS), some (.ref (q_h G + 0)), some (.ref (q_h G + 279)), some (.ref (q_h G + 294)), some (.ref (q_h G + 295)), some (.int (nI (i))), some (.int (nI (0))), none, none]) (st2 := []) (pc2 := 0) rfl rfl ?_
    refine A_aload_n hg dL_law_1547 rfl rfl ?_
    refine A_aload_n hg dL_law_1548 rfl rfl ?_
    refine A_iload hg dL_law_1549 rfl ?_
    refine A_iconst (v := (nI (1))) hg dL_law_1551 (by decide) ?_
    refine A_iaddN hg dL_law_1552 ?_
    refine A_sld hg hX (i + 1) (by omega) dL_law_1553 ?_
    refine A_aload_n hg dL_law_1554 rfl rfl ?_
    refine A_iload hg dL_law_1555 rfl ?_
    refine A_iconst (v := (nI (2))) hg dL_law_1557 (by decide) ?_
    refine A_iaddN hg dL_law_1558 ?_
    refine A_sld hg hX (i + 2) (by omega) dL_law_1559 ?_
    refine A_hV (kc2 := kc + 2) (ks2 := ks + 12) (As := [.int (xs (i + 1)), .int (xs (i + 2))]) (rest := []) hg lk_RL_220 in_X11_goldenOf se_X11_goldenOf rfl dL_law_1560 ⟨by decide, by decide⟩ rfl rfl (hfK 2 12 (by decide) (by decide)) hc_12 (by omega) rfl rfl (Nat.le_of_ble_eq_true rfl) (c_X11_goldenOf G false 296 σ_1 F (xs (i + 1)) (xs (i + 2)) hc_12 (by omega)) ?_
    rintro _ σ_34 (⟨rfl, Mhno, hc_28, hf_29⟩ | ⟨s1M, rfl, Mhse, Mhsa, Mhsl, Mhnn, hc_30, hf_31⟩ | ⟨s1M, v1M, rfl, Mhse, Mhsa, Mhsl, Mhve, Mhva, Mhvl, hc_32, hf_33⟩)
    · skip
      refine (?_ : AJ G K Q (kc + 2) (ks + 12) false 296 1563 [some (.ref bS), some (.ref (q_h G + 0)), some (.ref (q_h G + 279)), some (.ref (q_h G + 294)), some (.ref (q_h G + 295)), some (.int (nI (i))), some (.int (nI (0))), none, none] [.int (nI (0))] σ_34)
      have hc_28 : σ_34 279 = o11 G (upd F 7 (nI (1))) := hc_28
      have hc_35 : σ_34 0 = o10 G (nI (il)) (z2) (z3) := (hf_29 0 (by decide)).trans hc_6
      have hc_36 : σ_34 1 = q_an G 600 f := (hf_29 1 (by decide)).trans hc_7
      have hc_37 : σ_34 23 = o5 G (23) (nI (lo)) := (hf_29 23 (by decide)).trans hc_8
      have hc_38 : σ_34 24 = q_an G 256 o := (hf_29 24 (by decide)).trans hc_9
      have hc_39 : σ_34 224 = q_rn G 2 2 (fun j => some (243 + 18 * j)) := (hf_29 224 (by decide)).trans hc_10
      have hc_40 : σ_34 225 = q_bn G 2 kp := (hf_29 225 (by decide)).trans hc_11
      have hc_41 : σ_34 280 = q_an G 265 g := (hf_29 280 (by decide)).trans hc_13
      have hc_42 : σ_34 281 = q_an G 265 wk := (hf_29 281 (by decide)).trans hc_14
      have hc_43 : σ_34 282 = q_an G 265 as := (hf_29 282 (by decide)).trans hc_15
      have hc_44 : σ_34 283 = q_an G 530 sh := (hf_29 283 (by decide)).trans hc_16
      have hc_45 : σ_34 284 = q_an G 2120 a := (hf_29 284 (by decide)).trans hc_17
      have hc_46 : σ_34 285 = q_bn G 1681 fb := (hf_29 285 (by decide)).trans hc_18
      have hc_47 : σ_34 286 = q_an G 1681 nv := (hf_29 286 (by decide)).trans hc_19
      have hc_48 : σ_34 287 = q_an G 1681 ns := (hf_29 287 (by decide)).trans hc_20
      have hc_49 : σ_34 288 = q_an G 2000 mk := (hf_29 288 (by decide)).trans hc_21
      have hc_50 : σ_34 289 = q_an G 6724 va := (hf_29 289 (by decide)).trans hc_22
      have hc_51 : σ_34 290 = q_an G 6724 sp := (hf_29 290 (by decide)).trans hc_23
      have hc_52 : σ_34 291 = q_an G 80 lp := (hf_29 291 (by decide)).trans hc_24
      have hc_53 : σ_34 292 = q_an G 600 f := (hf_29 292 (by decide)).trans hc_25
      have hc_54 : σ_34 293 = q_an G 300 ou := (hf_29 293 (by decide)).trans hc_26
      have hc_55 : σ_34 295 = q_dn G 1 oD := (hf_29 295 (by decide)).trans hc_27
      have hc_56 : σ_34 294 = q_ln G 1 (va_up oL 0 ((nI (s_gOf s1C v1C)).toInt64)) := (hf_29 294 (by decide)).trans hc_2
      exact (Mhno s1C (by omega) (by omega) Chse).elim
    · skip
      refine (?_ : AJ G K Q (kc + 2) (ks + 12) false 296 1563 [some (.ref bS), some (.ref (q_h G + 0)), some (.ref (q_h G + 279)), some (.ref (q_h G + 294)), some (.ref (q_h G + 295)), some (.int (nI (i))), some (.int (nI (0))), none, none] [.int (nI (0))] σ_34)
      have hc_30 : σ_34 279 = o11 G (upd F 7 (nI (1))) := hc_30
      have hc_57 : σ_34 0 = o10 G (nI (il)) (z2) (z3) := (hf_31 0 (by decide)).trans hc_6
      have hc_58 : σ_34 1 = q_an G 600 f := (hf_31 1 (by decide)).trans hc_7
      have hc_59 : σ_34 23 = o5 G (23) (nI (lo)) := (hf_31 23 (by decide)).trans hc_8
      have hc_60 : σ_34 24 = q_an G 256 o := (hf_31 24 (by decide)).trans hc_9
      have hc_61 : σ_34 224 = q_rn G 2 2 (fun j => some (243 + 18 * j)) := (hf_31 224 (by decide)).trans hc_10
      have hc_62 : σ_34 225 = q_bn G 2 kp := (hf_31 225 (by decide)).trans hc_11
      have hc_63 : σ_34 280 = q_an G 265 g := (hf_31 280 (by decide)).trans hc_13
      have hc_64 : σ_34 281 = q_an G 265 wk := (hf_31 281 (by decide)).trans hc_14
      have hc_65 : σ_34 282 = q_an G 265 as := (hf_31 282 (by decide)).trans hc_15
      have hc_66 : σ_34 283 = q_an G 530 sh := (hf_31 283 (by decide)).trans hc_16
      have hc_67 : σ_34 284 = q_an G 2120 a := (hf_31 284 (by decide)).trans hc_17
      have hc_68 : σ_34 285 = q_bn G 1681 fb := (hf_31 285 (by decide)).trans hc_18
      have hc_69 : σ_34 286 = q_an G 1681 nv := (hf_31 286 (by decide)).trans hc_19
      have hc_70 : σ_34 287 = q_an G 1681 ns := (hf_31 287 (by decide)).trans hc_20
      have hc_71 : σ_34 288 = q_an G 2000 mk := (hf_31 288 (by decide)).trans hc_21
      have hc_72 : σ_34 289 = q_an G 6724 va := (hf_31 289 (by decide)).trans hc_22
      have hc_73 : σ_34 290 = q_an G 6724 sp := (hf_31 290 (by decide)).trans hc_23
      have hc_74 : σ_34 291 = q_an G 80 lp := (hf_31 291 (by decide)).trans hc_24
      have hc_75 : σ_34 292 = q_an G 600 f := (hf_31 292 (by decide)).trans hc_25
      have hc_76 : σ_34 293 = q_an G 300 ou := (hf_31 293 (by decide)).trans hc_26
      have hc_77 : σ_34 295 = q_dn G 1 oD := (hf_31 295 (by decide)).trans hc_27
      have hc_78 : σ_34 294 = q_ln G 1 (va_up oL 0 ((nI (s_gOf s1C v1C)).toInt64)) := (hf_31 294 (by decide)).trans hc_2
      have e_s : s1C = s1M := q_nI_inj (by omega) (by omega) (Chse.symm.trans Mhse)
      subst e_s
      exact (Mhnn v1C (by omega) (by omega) Chve).elim
    · skip
      refine (?_ : AJ G K Q (kc + 2) (ks + 12) false 296 1563 [some (.ref bS), some (.ref (q_h G + 0)), some (.ref (q_h G + 279)), some (.ref (q_h G + 294)), some (.ref (q_h G + 295)), some (.int (nI (i))), some (.int (nI (0))), none, none] [.int (nI (s_gOf s1M v1M))] σ_34)
      have hc_32 : σ_34 279 = o11 G (upd F 7 (nI (0))) := hc_32
      have hc_79 : σ_34 0 = o10 G (nI (il)) (z2) (z3) := (hf_33 0 (by decide)).trans hc_6
      have hc_80 : σ_34 1 = q_an G 600 f := (hf_33 1 (by decide)).trans hc_7
      have hc_81 : σ_34 23 = o5 G (23) (nI (lo)) := (hf_33 23 (by decide)).trans hc_8
      have hc_82 : σ_34 24 = q_an G 256 o := (hf_33 24 (by decide)).trans hc_9
      have hc_83 : σ_34 224 = q_rn G 2 2 (fun j => some (243 + 18 * j)) := (hf_33 224 (by decide)).trans hc_10
      have hc_84 : σ_34 225 = q_bn G 2 kp := (hf_33 225 (by decide)).trans hc_11
      have hc_85 : σ_34 280 = q_an G 265 g := (hf_33 280 (by decide)).trans hc_13
      have hc_86 : σ_34 281 = q_an G 265 wk := (hf_33 281 (by decide)).trans hc_14
      have hc_87 : σ_34 282 = q_an G 265 as := (hf_33 282 (by decide)).trans hc_15
      have hc_88 : σ_34 283 = q_an G 530 sh := (hf_33 283 (by decide)).trans hc_16
      have hc_89 : σ_34 284 = q_an G 2120 a := (hf_33 284 (by decide)).trans hc_17
      have hc_90 : σ_34 285 = q_bn G 1681 fb := (hf_33 285 (by decide)).trans hc_18
      have hc_91 : σ_34 286 = q_an G 1681 nv := (hf_33 286 (by decide)).trans hc_19
      have hc_92 : σ_34 287 = q_an G 1681 ns := (hf_33 287 (by decide)).trans hc_20
      have hc_93 : σ_34 288 = q_an G 2000 mk := (hf_33 288 (by decide)).trans hc_21
      have hc_94 : σ_34 289 = q_an G 6724 va := (hf_33 289 (by decide)).trans hc_22
      have hc_95 : σ_34 290 = q_an G 6724 sp := (hf_33 290 (by decide)).trans hc_23
      have hc_96 : σ_34 291 = q_an G 80 lp := (hf_33 291 (by decide)).trans hc_24
      have hc_97 : σ_34 292 = q_an G 600 f := (hf_33 292 (by decide)).trans hc_25
      have hc_98 : σ_34 293 = q_an G 300 ou := (hf_33 293 (by decide)).trans hc_26
      have hc_99 : σ_34 295 = q_dn G 1 oD := (hf_33 295 (by decide)).trans hc_27
      have hc_100 : σ_34 294 = q_ln G 1 (va_up oL 0 ((nI (s_gOf s1C v1C)).toInt64)) := (hf_33 294 (by decide)).trans hc_2
      have e_s : s1C = s1M := q_nI_inj (by omega) (by omega) (Chse.symm.trans Mhse)
      subst e_s
      have e_v : v1C = v1M := q_nI_inj (by omega) (by omega) (Chve.symm.trans Mhve)
      subst e_v
      refine A_istore hg dL_law_1563 (by decide) (q_c1d rfl) ?_
      refine A_eq (ls2 := [some (.ref bS), some (.ref (q_h G + 0)), some (.ref (q_h G + 279)), some (.ref (q_h G + 294)), some (.ref (q_h G + 295)), some (.int (nI (i))), some (.int (nI (0))), some (.int (nI (s_gOf s1C v1C))), none]) (st2 := []) (pc2 := 0) rfl rfl ?_
      refine A_aload_n hg dL_law_1565 rfl rfl ?_
      refine A_eV (kc2 := kc + 2) (ks2 := ks + 12) (As := []) (rest := []) hg lk_RL_170 in_X11_thrown se_X11_thrown rfl dL_law_1566 ⟨by decide, by decide⟩ rfl rfl (hfK 2 12 (by decide) (by decide)) hc_32 (by omega) rfl rfl (Nat.le_of_ble_eq_true rfl) (c_X11_thrown G false 296 σ_34 (upd F 7 (nI (0))) hc_32 (by omega)) ?_
      refine A_top (w := .int (nI (0))) (congrArg Value.int rfl) ?_
      refine A_iload hg dL_law_1569 rfl ?_
      refine A_icmp_eqN (tgt := 1576) hg dL_law_1571 (by decide) (by decide) (by decide) (fun c1571 => ?_) (fun c1571 => False.elim (by omega))
      refine A_iload hg dL_law_1576 rfl ?_
      refine A_if_neN (tgt := 1593) hg dL_law_1578 (by decide) (by decide) (fun c1578 => absurd (by decide) c1578) (fun c1578 => ?_)
      refine A_aload_n hg dL_law_1581 rfl rfl ?_
      refine A_iconst (v := (nI (0))) hg dL_law_1582 (by decide) ?_
      refine A_lald (j := 0) hg dL_law_1583 hc_100 (by omega) (by decide) (by decide) ?_
      refine A_top (w := .long ((nI (s_gOf s1C v1C)).toInt64)) (congrArg Value.long iv_up0) ?_
      refine A_iload hg dL_law_1584 rfl ?_
      refine A_i2l (v := (nI (s_gOf s1C v1C)).toInt64) hg dL_law_1586 rfl ?_
      refine A_lcmp hg dL_law_1587 ?_
      refine A_top (w := .int (nI 0)) (congrArg Value.int (lc_self _)) ?_
      refine A_if_eqN (tgt := 1593) hg dL_law_1588 (by decide) (by decide) (fun c1588 => ?_) (fun c1588 => absurd (by decide) c1588)
      refine A_goto (tgt := 3062) hg dL_law_1593 (by decide) ?_
      refine A_drop 6 ?_
      refine A_drop 7 ?_
      refine A_eq (ls2 := [some (.ref bS), some (.ref (q_h G + 0)), some (.ref (q_h G + 279)), some (.ref (q_h G + 294)), some (.ref (q_h G + 295)), some (.int (nI (i))), none, none, none]) (st2 := []) (pc2 := 0) rfl rfl ?_
      refine A_wide (kc2 := kc + 8) (ks2 := ks + 48) (by omega) (by omega) ?_
      exact hnxt _ (iv_mk il z2 z3 f lo o g nx m ps kp sn (upd F 7 (nI (0))) wk as sh a fb nv ns mk va sp lp mc z ss ou (va_up oL 0 ((nI (s_gOf s1C v1C)).toInt64)) oD hc_79 hc_80 hc_81 hc_82 hc_83 hc_84 hc_32 hc_85 hc_86 hc_87 hc_88 hc_89 hc_90 hc_91 hc_92 hc_93 hc_94 hc_95 hc_96 hc_97 hc_98 hc_100 hc_99 (x_lj_e (fun i _ _ => ((hf_33 i (by omega)).trans (hf_3 i (by omega)))) hL) (x_gm_e (fun i _ _ => ((hf_33 i (by omega)).trans (hf_3 i (by omega)))) hG) (x_mx_e (fun i _ _ => ((hf_33 i (by omega)).trans (hf_3 i (by omega)))) hM) (x_hi_e (fun i _ _ => ((hf_33 i (by omega)).trans (hf_3 i (by omega)))) hHi) (x_oj_e (fun i _ _ => ((hf_33 i (by omega)).trans (hf_3 i (by omega)))) hO) (x_pj_e (fun i _ _ => ((hf_33 i (by omega)).trans (hf_3 i (by omega)))) hT) (iv_hn (fun i _ _ => ((hf_33 i (by omega)).trans (hf_3 i (by omega)))) hH) (iv_Sn (fun i _ _ => ((hf_33 i (by omega)).trans (hf_3 i (by omega)))) hSn) (iv_Kp (fun i _ _ => ((hf_33 i (by omega)).trans (hf_3 i (by omega)))) hKp) (by omega) hfb (by omega) hou hgd hps hk1 hkss hss hsn hF5 hF6 hF12 hF16 hF21 hF22 hF23 hF33 (by omega) hmk hTI hlo)
  · skip
    rw [he_4]
    refine (?_ : AJ G K Q (kc + 2) (ks + 12) false 296 1545 [some (.ref bS), some (.ref (q_h G + 0)), some (.ref (q_h G + 279)), some (.ref (q_h G + 294)), some (.ref (q_h G + 295)), some (.int (nI (i))), none, none, none] [.int (nI (1))] σ)
    refine A_istore hg dL_law_1545 (by decide) (q_c1d rfl) ?_
    refine A_eq (ls2 := [some (.ref bS), some (.ref (q_h G + 0)), some (.ref (q_h G + 279)), some (.ref (q_h G + 294)), some (.ref (q_h G + 295)), some (.int (nI (i))), some (.int (nI (1))), none, none]) (st2 := []) (pc2 := 0) rfl rfl ?_
    refine A_aload_n hg dL_law_1547 rfl rfl ?_
    refine A_aload_n hg dL_law_1548 rfl rfl ?_
    refine A_iload hg dL_law_1549 rfl ?_
    refine A_iconst (v := (nI (1))) hg dL_law_1551 (by decide) ?_
    refine A_iaddN hg dL_law_1552 ?_
    refine A_sld hg hX (i + 1) (by omega) dL_law_1553 ?_
    refine A_aload_n hg dL_law_1554 rfl rfl ?_
    refine A_iload hg dL_law_1555 rfl ?_
    refine A_iconst (v := (nI (2))) hg dL_law_1557 (by decide) ?_
    refine A_iaddN hg dL_law_1558 ?_
    refine A_sld hg hX (i + 2) (by omega) dL_law_1559 ?_
    refine A_hV (kc2 := kc + 2) (ks2 := ks + 12) (As := [.int (xs (i + 1)), .int (xs (i + 2))]) (rest := []) hg lk_RL_220 in_X11_goldenOf se_X11_goldenOf rfl dL_law_1560 ⟨by decide, by decide⟩ rfl rfl (hfK 2 12 (by decide) (by decide)) hv6 (by omega) rfl rfl (Nat.le_of_ble_eq_true rfl) (c_X11_goldenOf G false 296 σ F (xs (i + 1)) (xs (i + 2)) hv6 (by omega)) ?_
    rintro _ σ_107 (⟨rfl, Mhno, hc_101, hf_102⟩ | ⟨s1M, rfl, Mhse, Mhsa, Mhsl, Mhnn, hc_103, hf_104⟩ | ⟨s1M, v1M, rfl, Mhse, Mhsa, Mhsl, Mhve, Mhva, Mhvl, hc_105, hf_106⟩)
    · skip
      refine (?_ : AJ G K Q (kc + 2) (ks + 12) false 296 1563 [some (.ref bS), some (.ref (q_h G + 0)), some (.ref (q_h G + 279)), some (.ref (q_h G + 294)), some (.ref (q_h G + 295)), some (.int (nI (i))), some (.int (nI (1))), none, none] [.int (nI (0))] σ_107)
      have hc_101 : σ_107 279 = o11 G (upd F 7 (nI (1))) := hc_101
      have hc_108 : σ_107 0 = o10 G (nI (il)) (z2) (z3) := (hf_102 0 (by decide)).trans hv0
      have hc_109 : σ_107 1 = q_an G 600 f := (hf_102 1 (by decide)).trans hv1
      have hc_110 : σ_107 23 = o5 G (23) (nI (lo)) := (hf_102 23 (by decide)).trans hv2
      have hc_111 : σ_107 24 = q_an G 256 o := (hf_102 24 (by decide)).trans hv3
      have hc_112 : σ_107 224 = q_rn G 2 2 (fun j => some (243 + 18 * j)) := (hf_102 224 (by decide)).trans hv4
      have hc_113 : σ_107 225 = q_bn G 2 kp := (hf_102 225 (by decide)).trans hv5
      have hc_114 : σ_107 280 = q_an G 265 g := (hf_102 280 (by decide)).trans hv7
      have hc_115 : σ_107 281 = q_an G 265 wk := (hf_102 281 (by decide)).trans hv8
      have hc_116 : σ_107 282 = q_an G 265 as := (hf_102 282 (by decide)).trans hv9
      have hc_117 : σ_107 283 = q_an G 530 sh := (hf_102 283 (by decide)).trans hv10
      have hc_118 : σ_107 284 = q_an G 2120 a := (hf_102 284 (by decide)).trans hv11
      have hc_119 : σ_107 285 = q_bn G 1681 fb := (hf_102 285 (by decide)).trans hv12
      have hc_120 : σ_107 286 = q_an G 1681 nv := (hf_102 286 (by decide)).trans hv13
      have hc_121 : σ_107 287 = q_an G 1681 ns := (hf_102 287 (by decide)).trans hv14
      have hc_122 : σ_107 288 = q_an G 2000 mk := (hf_102 288 (by decide)).trans hv15
      have hc_123 : σ_107 289 = q_an G 6724 va := (hf_102 289 (by decide)).trans hv16
      have hc_124 : σ_107 290 = q_an G 6724 sp := (hf_102 290 (by decide)).trans hv17
      have hc_125 : σ_107 291 = q_an G 80 lp := (hf_102 291 (by decide)).trans hv18
      have hc_126 : σ_107 292 = q_an G 600 f := (hf_102 292 (by decide)).trans hv19
      have hc_127 : σ_107 293 = q_an G 300 ou := (hf_102 293 (by decide)).trans hv20
      have hc_128 : σ_107 294 = q_ln G 1 oL := (hf_102 294 (by decide)).trans hv21
      have hc_129 : σ_107 295 = q_dn G 1 oD := (hf_102 295 (by decide)).trans hv22
      refine A_istore hg dL_law_1563 (by decide) (q_c1d rfl) ?_
      refine A_eq (ls2 := [some (.ref bS), some (.ref (q_h G + 0)), some (.ref (q_h G + 279)), some (.ref (q_h G + 294)), some (.ref (q_h G + 295)), some (.int (nI (i))), some (.int (nI (1))), some (.int (nI (0))), none]) (st2 := []) (pc2 := 0) rfl rfl ?_
      refine A_aload_n hg dL_law_1565 rfl rfl ?_
      refine A_eV (kc2 := kc + 2) (ks2 := ks + 12) (As := []) (rest := []) hg lk_RL_170 in_X11_thrown se_X11_thrown rfl dL_law_1566 ⟨by decide, by decide⟩ rfl rfl (hfK 2 12 (by decide) (by decide)) hc_101 (by omega) rfl rfl (Nat.le_of_ble_eq_true rfl) (c_X11_thrown G false 296 σ_107 (upd F 7 (nI (1))) hc_101 (by omega)) ?_
      refine A_top (w := .int (nI (1))) (congrArg Value.int rfl) ?_
      refine A_iload hg dL_law_1569 rfl ?_
      refine A_icmp_eqN (tgt := 1576) hg dL_law_1571 (by decide) (by decide) (by decide) (fun c1571 => ?_) (fun c1571 => False.elim (by omega))
      refine A_iload hg dL_law_1576 rfl ?_
      refine A_if_neN (tgt := 1593) hg dL_law_1578 (by decide) (by decide) (fun c1578 => ?_) (fun c1578 => absurd c1578 (by decide))
      refine A_goto (tgt := 3062) hg dL_law_1593 (by decide) ?_
      refine A_drop 6 ?_
      refine A_drop 7 ?_
      refine A_eq (ls2 := [some (.ref bS), some (.ref (q_h G + 0)), some (.ref (q_h G + 279)), some (.ref (q_h G + 294)), some (.ref (q_h G + 295)), some (.int (nI (i))), none, none, none]) (st2 := []) (pc2 := 0) rfl rfl ?_
      refine A_wide (kc2 := kc + 8) (ks2 := ks + 48) (by omega) (by omega) ?_
      exact hnxt _ (iv_mk il z2 z3 f lo o g nx m ps kp sn (upd F 7 (nI (1))) wk as sh a fb nv ns mk va sp lp mc z ss ou oL oD hc_108 hc_109 hc_110 hc_111 hc_112 hc_113 hc_101 hc_114 hc_115 hc_116 hc_117 hc_118 hc_119 hc_120 hc_121 hc_122 hc_123 hc_124 hc_125 hc_126 hc_127 hc_128 hc_129 (x_lj_e (fun i _ _ => (hf_102 i (by omega))) hL) (x_gm_e (fun i _ _ => (hf_102 i (by omega))) hG) (x_mx_e (fun i _ _ => (hf_102 i (by omega))) hM) (x_hi_e (fun i _ _ => (hf_102 i (by omega))) hHi) (x_oj_e (fun i _ _ => (hf_102 i (by omega))) hO) (x_pj_e (fun i _ _ => (hf_102 i (by omega))) hT) (iv_hn (fun i _ _ => (hf_102 i (by omega))) hH) (iv_Sn (fun i _ _ => (hf_102 i (by omega))) hSn) (iv_Kp (fun i _ _ => (hf_102 i (by omega))) hKp) (by omega) hfb (by omega) hou hgd hps hk1 hkss hss hsn hF5 hF6 hF12 hF16 hF21 hF22 hF23 hF33 (by omega) hmk hTI hlo)
    · skip
      refine (?_ : AJ G K Q (kc + 2) (ks + 12) false 296 1563 [some (.ref bS), some (.ref (q_h G + 0)), some (.ref (q_h G + 279)), some (.ref (q_h G + 294)), some (.ref (q_h G + 295)), some (.int (nI (i))), some (.int (nI (1))), none, none] [.int (nI (0))] σ_107)
      have hc_103 : σ_107 279 = o11 G (upd F 7 (nI (1))) := hc_103
      have hc_130 : σ_107 0 = o10 G (nI (il)) (z2) (z3) := (hf_104 0 (by decide)).trans hv0
      have hc_131 : σ_107 1 = q_an G 600 f := (hf_104 1 (by decide)).trans hv1
      have hc_132 : σ_107 23 = o5 G (23) (nI (lo)) := (hf_104 23 (by decide)).trans hv2
      have hc_133 : σ_107 24 = q_an G 256 o := (hf_104 24 (by decide)).trans hv3
      have hc_134 : σ_107 224 = q_rn G 2 2 (fun j => some (243 + 18 * j)) := (hf_104 224 (by decide)).trans hv4
      have hc_135 : σ_107 225 = q_bn G 2 kp := (hf_104 225 (by decide)).trans hv5
      have hc_136 : σ_107 280 = q_an G 265 g := (hf_104 280 (by decide)).trans hv7
      have hc_137 : σ_107 281 = q_an G 265 wk := (hf_104 281 (by decide)).trans hv8
      have hc_138 : σ_107 282 = q_an G 265 as := (hf_104 282 (by decide)).trans hv9
      have hc_139 : σ_107 283 = q_an G 530 sh := (hf_104 283 (by decide)).trans hv10
      have hc_140 : σ_107 284 = q_an G 2120 a := (hf_104 284 (by decide)).trans hv11
      have hc_141 : σ_107 285 = q_bn G 1681 fb := (hf_104 285 (by decide)).trans hv12
      have hc_142 : σ_107 286 = q_an G 1681 nv := (hf_104 286 (by decide)).trans hv13
      have hc_143 : σ_107 287 = q_an G 1681 ns := (hf_104 287 (by decide)).trans hv14
      have hc_144 : σ_107 288 = q_an G 2000 mk := (hf_104 288 (by decide)).trans hv15
      have hc_145 : σ_107 289 = q_an G 6724 va := (hf_104 289 (by decide)).trans hv16
      have hc_146 : σ_107 290 = q_an G 6724 sp := (hf_104 290 (by decide)).trans hv17
      have hc_147 : σ_107 291 = q_an G 80 lp := (hf_104 291 (by decide)).trans hv18
      have hc_148 : σ_107 292 = q_an G 600 f := (hf_104 292 (by decide)).trans hv19
      have hc_149 : σ_107 293 = q_an G 300 ou := (hf_104 293 (by decide)).trans hv20
      have hc_150 : σ_107 294 = q_ln G 1 oL := (hf_104 294 (by decide)).trans hv21
      have hc_151 : σ_107 295 = q_dn G 1 oD := (hf_104 295 (by decide)).trans hv22
      exact (Chxx s1M (by omega) (by omega) Mhse).elim
    · skip
      refine (?_ : AJ G K Q (kc + 2) (ks + 12) false 296 1563 [some (.ref bS), some (.ref (q_h G + 0)), some (.ref (q_h G + 279)), some (.ref (q_h G + 294)), some (.ref (q_h G + 295)), some (.int (nI (i))), some (.int (nI (1))), none, none] [.int (nI (s_gOf s1M v1M))] σ_107)
      have hc_105 : σ_107 279 = o11 G (upd F 7 (nI (0))) := hc_105
      have hc_152 : σ_107 0 = o10 G (nI (il)) (z2) (z3) := (hf_106 0 (by decide)).trans hv0
      have hc_153 : σ_107 1 = q_an G 600 f := (hf_106 1 (by decide)).trans hv1
      have hc_154 : σ_107 23 = o5 G (23) (nI (lo)) := (hf_106 23 (by decide)).trans hv2
      have hc_155 : σ_107 24 = q_an G 256 o := (hf_106 24 (by decide)).trans hv3
      have hc_156 : σ_107 224 = q_rn G 2 2 (fun j => some (243 + 18 * j)) := (hf_106 224 (by decide)).trans hv4
      have hc_157 : σ_107 225 = q_bn G 2 kp := (hf_106 225 (by decide)).trans hv5
      have hc_158 : σ_107 280 = q_an G 265 g := (hf_106 280 (by decide)).trans hv7
      have hc_159 : σ_107 281 = q_an G 265 wk := (hf_106 281 (by decide)).trans hv8
      have hc_160 : σ_107 282 = q_an G 265 as := (hf_106 282 (by decide)).trans hv9
      have hc_161 : σ_107 283 = q_an G 530 sh := (hf_106 283 (by decide)).trans hv10
      have hc_162 : σ_107 284 = q_an G 2120 a := (hf_106 284 (by decide)).trans hv11
      have hc_163 : σ_107 285 = q_bn G 1681 fb := (hf_106 285 (by decide)).trans hv12
      have hc_164 : σ_107 286 = q_an G 1681 nv := (hf_106 286 (by decide)).trans hv13
      have hc_165 : σ_107 287 = q_an G 1681 ns := (hf_106 287 (by decide)).trans hv14
      have hc_166 : σ_107 288 = q_an G 2000 mk := (hf_106 288 (by decide)).trans hv15
      have hc_167 : σ_107 289 = q_an G 6724 va := (hf_106 289 (by decide)).trans hv16
      have hc_168 : σ_107 290 = q_an G 6724 sp := (hf_106 290 (by decide)).trans hv17
      have hc_169 : σ_107 291 = q_an G 80 lp := (hf_106 291 (by decide)).trans hv18
      have hc_170 : σ_107 292 = q_an G 600 f := (hf_106 292 (by decide)).trans hv19
      have hc_171 : σ_107 293 = q_an G 300 ou := (hf_106 293 (by decide)).trans hv20
      have hc_172 : σ_107 294 = q_ln G 1 oL := (hf_106 294 (by decide)).trans hv21
      have hc_173 : σ_107 295 = q_dn G 1 oD := (hf_106 295 (by decide)).trans hv22
      exact (Chxx s1M (by omega) (by omega) Mhse).elim
  · skip
    rw [he_5]
    refine (?_ : AJ G K Q (kc + 2) (ks + 12) false 296 1545 [some (.ref bS), some (.ref (q_h G + 0)), some (.ref (q_h G + 279)), some (.ref (q_h G + 294)), some (.ref (q_h G + 295)), some (.int (nI (i))), none, none, none] [.int (nI (1))] σ)
    obtain ⟨s1C, Chx0, Chx1, Chx2, Chx3⟩ := Chxx
    refine A_istore hg dL_law_1545 (by decide) (q_c1d rfl) ?_
    refine A_eq (ls2 := [some (.ref bS), some (.ref (q_h G + 0)), some (.ref (q_h G + 279)), some (.ref (q_h G + 294)), some (.ref (q_h G + 295)), some (.int (nI (i))), some (.int (nI (1))), none, none]) (st2 := []) (pc2 := 0) rfl rfl ?_
    refine A_aload_n hg dL_law_1547 rfl rfl ?_
    refine A_aload_n hg dL_law_1548 rfl rfl ?_
    refine A_iload hg dL_law_1549 rfl ?_
    refine A_iconst (v := (nI (1))) hg dL_law_1551 (by decide) ?_
    refine A_iaddN hg dL_law_1552 ?_
    refine A_sld hg hX (i + 1) (by omega) dL_law_1553 ?_
    refine A_aload_n hg dL_law_1554 rfl rfl ?_
    refine A_iload hg dL_law_1555 rfl ?_
    refine A_iconst (v := (nI (2))) hg dL_law_1557 (by decide) ?_
    refine A_iaddN hg dL_law_1558 ?_
    refine A_sld hg hX (i + 2) (by omega) dL_law_1559 ?_
    refine A_hV (kc2 := kc + 2) (ks2 := ks + 12) (As := [.int (xs (i + 1)), .int (xs (i + 2))]) (rest := []) hg lk_RL_220 in_X11_goldenOf se_X11_goldenOf rfl dL_law_1560 ⟨by decide, by decide⟩ rfl rfl (hfK 2 12 (by decide) (by decide)) hv6 (by omega) rfl rfl (Nat.le_of_ble_eq_true rfl) (c_X11_goldenOf G false 296 σ F (xs (i + 1)) (xs (i + 2)) hv6 (by omega)) ?_
    rintro _ σ_180 (⟨rfl, Mhno, hc_174, hf_175⟩ | ⟨s1M, rfl, Mhse, Mhsa, Mhsl, Mhnn, hc_176, hf_177⟩ | ⟨s1M, v1M, rfl, Mhse, Mhsa, Mhsl, Mhve, Mhva, Mhvl, hc_178, hf_179⟩)
    · skip
      refine (?_ : AJ G K Q (kc + 2) (ks + 12) false 296 1563 [some (.ref bS), some (.ref (q_h G + 0)), some (.ref (q_h G + 279)), some (.ref (q_h G + 294)), some (.ref (q_h G + 295)), some (.int (nI (i))), some (.int (nI (1))), none, none] [.int (nI (0))] σ_180)
      have hc_174 : σ_180 279 = o11 G (upd F 7 (nI (1))) := hc_174
      have hc_181 : σ_180 0 = o10 G (nI (il)) (z2) (z3) := (hf_175 0 (by decide)).trans hv0
      have hc_182 : σ_180 1 = q_an G 600 f := (hf_175 1 (by decide)).trans hv1
      have hc_183 : σ_180 23 = o5 G (23) (nI (lo)) := (hf_175 23 (by decide)).trans hv2
      have hc_184 : σ_180 24 = q_an G 256 o := (hf_175 24 (by decide)).trans hv3
      have hc_185 : σ_180 224 = q_rn G 2 2 (fun j => some (243 + 18 * j)) := (hf_175 224 (by decide)).trans hv4
      have hc_186 : σ_180 225 = q_bn G 2 kp := (hf_175 225 (by decide)).trans hv5
      have hc_187 : σ_180 280 = q_an G 265 g := (hf_175 280 (by decide)).trans hv7
      have hc_188 : σ_180 281 = q_an G 265 wk := (hf_175 281 (by decide)).trans hv8
      have hc_189 : σ_180 282 = q_an G 265 as := (hf_175 282 (by decide)).trans hv9
      have hc_190 : σ_180 283 = q_an G 530 sh := (hf_175 283 (by decide)).trans hv10
      have hc_191 : σ_180 284 = q_an G 2120 a := (hf_175 284 (by decide)).trans hv11
      have hc_192 : σ_180 285 = q_bn G 1681 fb := (hf_175 285 (by decide)).trans hv12
      have hc_193 : σ_180 286 = q_an G 1681 nv := (hf_175 286 (by decide)).trans hv13
      have hc_194 : σ_180 287 = q_an G 1681 ns := (hf_175 287 (by decide)).trans hv14
      have hc_195 : σ_180 288 = q_an G 2000 mk := (hf_175 288 (by decide)).trans hv15
      have hc_196 : σ_180 289 = q_an G 6724 va := (hf_175 289 (by decide)).trans hv16
      have hc_197 : σ_180 290 = q_an G 6724 sp := (hf_175 290 (by decide)).trans hv17
      have hc_198 : σ_180 291 = q_an G 80 lp := (hf_175 291 (by decide)).trans hv18
      have hc_199 : σ_180 292 = q_an G 600 f := (hf_175 292 (by decide)).trans hv19
      have hc_200 : σ_180 293 = q_an G 300 ou := (hf_175 293 (by decide)).trans hv20
      have hc_201 : σ_180 294 = q_ln G 1 oL := (hf_175 294 (by decide)).trans hv21
      have hc_202 : σ_180 295 = q_dn G 1 oD := (hf_175 295 (by decide)).trans hv22
      exact (Mhno s1C (by omega) (by omega) Chx0).elim
    · skip
      refine (?_ : AJ G K Q (kc + 2) (ks + 12) false 296 1563 [some (.ref bS), some (.ref (q_h G + 0)), some (.ref (q_h G + 279)), some (.ref (q_h G + 294)), some (.ref (q_h G + 295)), some (.int (nI (i))), some (.int (nI (1))), none, none] [.int (nI (0))] σ_180)
      have hc_176 : σ_180 279 = o11 G (upd F 7 (nI (1))) := hc_176
      have hc_203 : σ_180 0 = o10 G (nI (il)) (z2) (z3) := (hf_177 0 (by decide)).trans hv0
      have hc_204 : σ_180 1 = q_an G 600 f := (hf_177 1 (by decide)).trans hv1
      have hc_205 : σ_180 23 = o5 G (23) (nI (lo)) := (hf_177 23 (by decide)).trans hv2
      have hc_206 : σ_180 24 = q_an G 256 o := (hf_177 24 (by decide)).trans hv3
      have hc_207 : σ_180 224 = q_rn G 2 2 (fun j => some (243 + 18 * j)) := (hf_177 224 (by decide)).trans hv4
      have hc_208 : σ_180 225 = q_bn G 2 kp := (hf_177 225 (by decide)).trans hv5
      have hc_209 : σ_180 280 = q_an G 265 g := (hf_177 280 (by decide)).trans hv7
      have hc_210 : σ_180 281 = q_an G 265 wk := (hf_177 281 (by decide)).trans hv8
      have hc_211 : σ_180 282 = q_an G 265 as := (hf_177 282 (by decide)).trans hv9
      have hc_212 : σ_180 283 = q_an G 530 sh := (hf_177 283 (by decide)).trans hv10
      have hc_213 : σ_180 284 = q_an G 2120 a := (hf_177 284 (by decide)).trans hv11
      have hc_214 : σ_180 285 = q_bn G 1681 fb := (hf_177 285 (by decide)).trans hv12
      have hc_215 : σ_180 286 = q_an G 1681 nv := (hf_177 286 (by decide)).trans hv13
      have hc_216 : σ_180 287 = q_an G 1681 ns := (hf_177 287 (by decide)).trans hv14
      have hc_217 : σ_180 288 = q_an G 2000 mk := (hf_177 288 (by decide)).trans hv15
      have hc_218 : σ_180 289 = q_an G 6724 va := (hf_177 289 (by decide)).trans hv16
      have hc_219 : σ_180 290 = q_an G 6724 sp := (hf_177 290 (by decide)).trans hv17
      have hc_220 : σ_180 291 = q_an G 80 lp := (hf_177 291 (by decide)).trans hv18
      have hc_221 : σ_180 292 = q_an G 600 f := (hf_177 292 (by decide)).trans hv19
      have hc_222 : σ_180 293 = q_an G 300 ou := (hf_177 293 (by decide)).trans hv20
      have hc_223 : σ_180 294 = q_ln G 1 oL := (hf_177 294 (by decide)).trans hv21
      have hc_224 : σ_180 295 = q_dn G 1 oD := (hf_177 295 (by decide)).trans hv22
      have e_s : s1C = s1M := q_nI_inj (by omega) (by omega) (Chx0.symm.trans Mhse)
      subst e_s
      refine A_istore hg dL_law_1563 (by decide) (q_c1d rfl) ?_
      refine A_eq (ls2 := [some (.ref bS), some (.ref (q_h G + 0)), some (.ref (q_h G + 279)), some (.ref (q_h G + 294)), some (.ref (q_h G + 295)), some (.int (nI (i))), some (.int (nI (1))), some (.int (nI (0))), none]) (st2 := []) (pc2 := 0) rfl rfl ?_
      refine A_aload_n hg dL_law_1565 rfl rfl ?_
      refine A_eV (kc2 := kc + 2) (ks2 := ks + 12) (As := []) (rest := []) hg lk_RL_170 in_X11_thrown se_X11_thrown rfl dL_law_1566 ⟨by decide, by decide⟩ rfl rfl (hfK 2 12 (by decide) (by decide)) hc_176 (by omega) rfl rfl (Nat.le_of_ble_eq_true rfl) (c_X11_thrown G false 296 σ_180 (upd F 7 (nI (1))) hc_176 (by omega)) ?_
      refine A_top (w := .int (nI (1))) (congrArg Value.int rfl) ?_
      refine A_iload hg dL_law_1569 rfl ?_
      refine A_icmp_eqN (tgt := 1576) hg dL_law_1571 (by decide) (by decide) (by decide) (fun c1571 => ?_) (fun c1571 => False.elim (by omega))
      refine A_iload hg dL_law_1576 rfl ?_
      refine A_if_neN (tgt := 1593) hg dL_law_1578 (by decide) (by decide) (fun c1578 => ?_) (fun c1578 => absurd c1578 (by decide))
      refine A_goto (tgt := 3062) hg dL_law_1593 (by decide) ?_
      refine A_drop 6 ?_
      refine A_drop 7 ?_
      refine A_eq (ls2 := [some (.ref bS), some (.ref (q_h G + 0)), some (.ref (q_h G + 279)), some (.ref (q_h G + 294)), some (.ref (q_h G + 295)), some (.int (nI (i))), none, none, none]) (st2 := []) (pc2 := 0) rfl rfl ?_
      refine A_wide (kc2 := kc + 8) (ks2 := ks + 48) (by omega) (by omega) ?_
      exact hnxt _ (iv_mk il z2 z3 f lo o g nx m ps kp sn (upd F 7 (nI (1))) wk as sh a fb nv ns mk va sp lp mc z ss ou oL oD hc_203 hc_204 hc_205 hc_206 hc_207 hc_208 hc_176 hc_209 hc_210 hc_211 hc_212 hc_213 hc_214 hc_215 hc_216 hc_217 hc_218 hc_219 hc_220 hc_221 hc_222 hc_223 hc_224 (x_lj_e (fun i _ _ => (hf_177 i (by omega))) hL) (x_gm_e (fun i _ _ => (hf_177 i (by omega))) hG) (x_mx_e (fun i _ _ => (hf_177 i (by omega))) hM) (x_hi_e (fun i _ _ => (hf_177 i (by omega))) hHi) (x_oj_e (fun i _ _ => (hf_177 i (by omega))) hO) (x_pj_e (fun i _ _ => (hf_177 i (by omega))) hT) (iv_hn (fun i _ _ => (hf_177 i (by omega))) hH) (iv_Sn (fun i _ _ => (hf_177 i (by omega))) hSn) (iv_Kp (fun i _ _ => (hf_177 i (by omega))) hKp) (by omega) hfb (by omega) hou hgd hps hk1 hkss hss hsn hF5 hF6 hF12 hF16 hF21 hF22 hF23 hF33 (by omega) hmk hTI hlo)
    · skip
      refine (?_ : AJ G K Q (kc + 2) (ks + 12) false 296 1563 [some (.ref bS), some (.ref (q_h G + 0)), some (.ref (q_h G + 279)), some (.ref (q_h G + 294)), some (.ref (q_h G + 295)), some (.int (nI (i))), some (.int (nI (1))), none, none] [.int (nI (s_gOf s1M v1M))] σ_180)
      have hc_178 : σ_180 279 = o11 G (upd F 7 (nI (0))) := hc_178
      have hc_225 : σ_180 0 = o10 G (nI (il)) (z2) (z3) := (hf_179 0 (by decide)).trans hv0
      have hc_226 : σ_180 1 = q_an G 600 f := (hf_179 1 (by decide)).trans hv1
      have hc_227 : σ_180 23 = o5 G (23) (nI (lo)) := (hf_179 23 (by decide)).trans hv2
      have hc_228 : σ_180 24 = q_an G 256 o := (hf_179 24 (by decide)).trans hv3
      have hc_229 : σ_180 224 = q_rn G 2 2 (fun j => some (243 + 18 * j)) := (hf_179 224 (by decide)).trans hv4
      have hc_230 : σ_180 225 = q_bn G 2 kp := (hf_179 225 (by decide)).trans hv5
      have hc_231 : σ_180 280 = q_an G 265 g := (hf_179 280 (by decide)).trans hv7
      have hc_232 : σ_180 281 = q_an G 265 wk := (hf_179 281 (by decide)).trans hv8
      have hc_233 : σ_180 282 = q_an G 265 as := (hf_179 282 (by decide)).trans hv9
      have hc_234 : σ_180 283 = q_an G 530 sh := (hf_179 283 (by decide)).trans hv10
      have hc_235 : σ_180 284 = q_an G 2120 a := (hf_179 284 (by decide)).trans hv11
      have hc_236 : σ_180 285 = q_bn G 1681 fb := (hf_179 285 (by decide)).trans hv12
      have hc_237 : σ_180 286 = q_an G 1681 nv := (hf_179 286 (by decide)).trans hv13
      have hc_238 : σ_180 287 = q_an G 1681 ns := (hf_179 287 (by decide)).trans hv14
      have hc_239 : σ_180 288 = q_an G 2000 mk := (hf_179 288 (by decide)).trans hv15
      have hc_240 : σ_180 289 = q_an G 6724 va := (hf_179 289 (by decide)).trans hv16
      have hc_241 : σ_180 290 = q_an G 6724 sp := (hf_179 290 (by decide)).trans hv17
      have hc_242 : σ_180 291 = q_an G 80 lp := (hf_179 291 (by decide)).trans hv18
      have hc_243 : σ_180 292 = q_an G 600 f := (hf_179 292 (by decide)).trans hv19
      have hc_244 : σ_180 293 = q_an G 300 ou := (hf_179 293 (by decide)).trans hv20
      have hc_245 : σ_180 294 = q_ln G 1 oL := (hf_179 294 (by decide)).trans hv21
      have hc_246 : σ_180 295 = q_dn G 1 oD := (hf_179 295 (by decide)).trans hv22
      have e_s : s1C = s1M := q_nI_inj (by omega) (by omega) (Chx0.symm.trans Mhse)
      subst e_s
      exact (Chx3 v1M (by omega) (by omega) Mhve).elim
set_option maxRecDepth 100000 in
set_option maxHeartbeats 4000000 in
theorem law_c21 (G : GL) (K : KC) (Q : State → Prop) (hh : List (Nat × Nat × Nat × Nat)) (hg : Gd G K RL code 9 ret room_1 hh) (bS L : Nat) (xs : Nat → Int32) (hX : q_scr G K bS L xs) (i kc ks J : Nat) (hi : i + 5 < L) (hL31 : L < 2 ^ 31) (hkc : kc + 8 ≤ 601024) (hks : ks + 48 ≤ 7293034) (σ : Nat → va_E) (hI : iv G σ J) (hJ : J < 512) (hfd : q_fdn) (hdd : q_ddn) (hf2 : q_f2n) (hds : q_dcs) (hnxt : ∀ σ9 : Nat → va_E, iv G σ9 (J + 1) → AJ G K Q (kc + 8) (ks + 48) false 296 3062 [some (.ref bS), some (.ref (q_h G + 0)), some (.ref (q_h G + 279)), some (.ref (q_h G + 294)), some (.ref (q_h G + 295)), some (.int (nI (i))), none, none, none] [] σ9) : AJ G K Q kc ks false 296 1596 [some (.ref bS), some (.ref (q_h G + 0)), some (.ref (q_h G + 279)), some (.ref (q_h G + 294)), some (.ref (q_h G + 295)), some (.int (nI (i))), none, none, none] [] σ := by
  refine iv_el hI ?_
  intro il z2 z3 f lo o g nx m ps kp sn F wk as sh a fb nv ns mk va sp lp mc z ss ou oL oD
  intro hv0 hv1 hv2 hv3 hv4 hv5 hv6 hv7 hv8 hv9 hv10 hv11 hv12 hv13 hv14 hv15 hv16 hv17 hv18 hv19 hv20 hv21 hv22
  intro hL hG hM hHi hO hT hH hSn hKp
  intro hil hfb hlo2 hou hgd hps hk1 hkss hss hsn hF5 hF6 hF12 hF16 hF21 hF22 hF23 hF33 hmc hmk hTI hlo
  have hfK : ∀ a b : Nat, a ≤ 8 → b ≤ 48 → kc + a ≤ room_1.cells ∧ ks + b ≤ room_1.slots := fun a b h1 h2 => ⟨by show kc + a ≤ 601024; omega, by show ks + b ≤ 7293034; omega⟩
  have hg9 := iv_g hG
  obtain ⟨hnx8, hm8, hc78⟩ := iv_hi hHi
  have hbb := iv_byte (m := il) hfb
  have hg90 := hg9.1
  have hg96 := hg9.2.2.2.2.1
  have hnp8 := s_np_le hg9
  refine A_aload_n hg dL_law_1596 rfl rfl ?_
  refine A_aload_n hg dL_law_1597 rfl rfl ?_
  refine A_iload hg dL_law_1598 rfl ?_
  refine A_iconst (v := (nI (1))) hg dL_law_1600 (by decide) ?_
  refine A_iaddN hg dL_law_1601 ?_
  refine A_sld hg hX (i + 1) (by omega) dL_law_1602 ?_
  refine A_aload_n hg dL_law_1603 rfl rfl ?_
  refine A_iload hg dL_law_1604 rfl ?_
  refine A_iconst (v := (nI (2))) hg dL_law_1606 (by decide) ?_
  refine A_iaddN hg dL_law_1607 ?_
  refine A_sld hg hX (i + 2) (by omega) dL_law_1608 ?_
  refine A_aload_n hg dL_law_1609 rfl rfl ?_
  refine A_callSH (As := [.ref (q_h G + 0), .int (xs (i + 1)), .int (xs (i + 2)), .ref (q_h G + 294)]) (rest := []) hg lkH_221 stH_L_goldenPartner dL_law_1610 ⟨by decide, by decide⟩ (hfK 2 12 (by decide) (by decide)) rfl rfl (Nat.le_of_ble_eq_true rfl) (c_L_goldenPartner G 296 σ (nI (il)) z2 z3 (xs (i + 1)) (xs (i + 2)) oL hv0 hv21 (by omega) (by omega)) ?_
  rintro _ σ_1 (⟨s1C, v1C, rfl, Chse, Chsa, Chsl, Chve, Chva, Chvl, hc_2, hf_3⟩ | ⟨rfl, Chxx, he_4⟩ | ⟨rfl, Chxx, he_5⟩)
  · skip
    refine (?_ : AJ G K Q (kc + 2) (ks + 12) false 296 1613 [some (.ref bS), some (.ref (q_h G + 0)), some (.ref (q_h G + 279)), some (.ref (q_h G + 294)), some (.ref (q_h G + 295)), some (.int (nI (i))), none, none, none] [.int (nI (0))] σ_1)
    have hc_6 : σ_1 0 = o10 G (nI (il)) (z2) (z3) := (hf_3 0 (by decide)).trans hv0
    have hc_7 : σ_1 1 = q_an G 600 f := (hf_3 1 (by decide)).trans hv1
    have hc_8 : σ_1 23 = o5 G (23) (nI (lo)) := (hf_3 23 (by decide)).trans hv2
    have hc_9 : σ_1 24 = q_an G 256 o := (hf_3 24 (by decide)).trans hv3
    have hc_10 : σ_1 224 = q_rn G 2 2 (fun j => some (243 + 18 * j)) := (hf_3 224 (by decide)).trans hv4
    have hc_11 : σ_1 225 = q_bn G 2 kp := (hf_3 225 (by decide)).trans hv5
    have hc_12 : σ_1 279 = o11 G F := (hf_3 279 (by decide)).trans hv6
    have hc_13 : σ_1 280 = q_an G 265 g := (hf_3 280 (by decide)).trans hv7
    have hc_14 : σ_1 281 = q_an G 265 wk := (hf_3 281 (by decide)).trans hv8
    have hc_15 : σ_1 282 = q_an G 265 as := (hf_3 282 (by decide)).trans hv9
    have hc_16 : σ_1 283 = q_an G 530 sh := (hf_3 283 (by decide)).trans hv10
    have hc_17 : σ_1 284 = q_an G 2120 a := (hf_3 284 (by decide)).trans hv11
    have hc_18 : σ_1 285 = q_bn G 1681 fb := (hf_3 285 (by decide)).trans hv12
    have hc_19 : σ_1 286 = q_an G 1681 nv := (hf_3 286 (by decide)).trans hv13
    have hc_20 : σ_1 287 = q_an G 1681 ns := (hf_3 287 (by decide)).trans hv14
    have hc_21 : σ_1 288 = q_an G 2000 mk := (hf_3 288 (by decide)).trans hv15
    have hc_22 : σ_1 289 = q_an G 6724 va := (hf_3 289 (by decide)).trans hv16
    have hc_23 : σ_1 290 = q_an G 6724 sp := (hf_3 290 (by decide)).trans hv17
    have hc_24 : σ_1 291 = q_an G 80 lp := (hf_3 291 (by decide)).trans hv18
    have hc_25 : σ_1 292 = q_an G 600 f := (hf_3 292 (by decide)).trans hv19
    have hc_26 : σ_1 293 = q_an G 300 ou := (hf_3 293 (by decide)).trans hv20
    have hc_27 : σ_1 295 = q_dn G 1 oD := (hf_3 295 (by decide)).trans hv22
    refine A_istore hg dL_law_1613 (by decide) (q_c1d rfl) ?_
    refine A_eq (ls2 := [some (.ref bS), some (.ref (q_h G + 0)), some (.ref (q_h G + 279)), some (.ref (q_h G + 294)), some (.ref (q_h G + 295)), some (.int (nI (i))), some (.int (nI (0))), none, none]) (st2 := []) (pc2 := 0) rfl rfl ?_
    refine A_aload_n hg dL_law_1615 rfl rfl ?_
    refine A_aload_n hg dL_law_1616 rfl rfl ?_
    refine A_iload hg dL_law_1617 rfl ?_
    refine A_iconst (v := (nI (1))) hg dL_law_1619 (by decide) ?_
    refine A_iaddN hg dL_law_1620 ?_
    refine A_sld hg hX (i + 1) (by omega) dL_law_1621 ?_
    refine A_aload_n hg dL_law_1622 rfl rfl ?_
    refine A_iload hg dL_law_1623 rfl ?_
    refine A_iconst (v := (nI (2))) hg dL_law_1625 (by decide) ?_
    refine A_iaddN hg dL_law_1626 ?_
    refine A_sld hg hX (i + 2) (by omega) dL_law_1627 ?_
    refine A_hV (kc2 := kc + 2) (ks2 := ks + 12) (As := [.int (xs (i + 1)), .int (xs (i + 2))]) (rest := []) hg lk_RL_223 in_X11_goldenPartner se_X11_goldenPartner rfl dL_law_1628 ⟨by decide, by decide⟩ rfl rfl (hfK 2 12 (by decide) (by decide)) hc_12 (by omega) rfl rfl (Nat.le_of_ble_eq_true rfl) (c_X11_goldenPartner G false 296 σ_1 F (xs (i + 1)) (xs (i + 2)) hc_12 (by omega)) ?_
    rintro _ σ_34 (⟨rfl, Mhno, hc_28, hf_29⟩ | ⟨s1M, rfl, Mhse, Mhsa, Mhsl, Mhnn, hc_30, hf_31⟩ | ⟨s1M, v1M, rfl, Mhse, Mhsa, Mhsl, Mhve, Mhva, Mhvl, hc_32, hf_33⟩)
    · skip
      refine (?_ : AJ G K Q (kc + 2) (ks + 12) false 296 1631 [some (.ref bS), some (.ref (q_h G + 0)), some (.ref (q_h G + 279)), some (.ref (q_h G + 294)), some (.ref (q_h G + 295)), some (.int (nI (i))), some (.int (nI (0))), none, none] [.long (lN (0))] σ_34)
      have hc_28 : σ_34 279 = o11 G (upd F 7 (nI (1))) := hc_28
      have hc_35 : σ_34 0 = o10 G (nI (il)) (z2) (z3) := (hf_29 0 (by decide)).trans hc_6
      have hc_36 : σ_34 1 = q_an G 600 f := (hf_29 1 (by decide)).trans hc_7
      have hc_37 : σ_34 23 = o5 G (23) (nI (lo)) := (hf_29 23 (by decide)).trans hc_8
      have hc_38 : σ_34 24 = q_an G 256 o := (hf_29 24 (by decide)).trans hc_9
      have hc_39 : σ_34 224 = q_rn G 2 2 (fun j => some (243 + 18 * j)) := (hf_29 224 (by decide)).trans hc_10
      have hc_40 : σ_34 225 = q_bn G 2 kp := (hf_29 225 (by decide)).trans hc_11
      have hc_41 : σ_34 280 = q_an G 265 g := (hf_29 280 (by decide)).trans hc_13
      have hc_42 : σ_34 281 = q_an G 265 wk := (hf_29 281 (by decide)).trans hc_14
      have hc_43 : σ_34 282 = q_an G 265 as := (hf_29 282 (by decide)).trans hc_15
      have hc_44 : σ_34 283 = q_an G 530 sh := (hf_29 283 (by decide)).trans hc_16
      have hc_45 : σ_34 284 = q_an G 2120 a := (hf_29 284 (by decide)).trans hc_17
      have hc_46 : σ_34 285 = q_bn G 1681 fb := (hf_29 285 (by decide)).trans hc_18
      have hc_47 : σ_34 286 = q_an G 1681 nv := (hf_29 286 (by decide)).trans hc_19
      have hc_48 : σ_34 287 = q_an G 1681 ns := (hf_29 287 (by decide)).trans hc_20
      have hc_49 : σ_34 288 = q_an G 2000 mk := (hf_29 288 (by decide)).trans hc_21
      have hc_50 : σ_34 289 = q_an G 6724 va := (hf_29 289 (by decide)).trans hc_22
      have hc_51 : σ_34 290 = q_an G 6724 sp := (hf_29 290 (by decide)).trans hc_23
      have hc_52 : σ_34 291 = q_an G 80 lp := (hf_29 291 (by decide)).trans hc_24
      have hc_53 : σ_34 292 = q_an G 600 f := (hf_29 292 (by decide)).trans hc_25
      have hc_54 : σ_34 293 = q_an G 300 ou := (hf_29 293 (by decide)).trans hc_26
      have hc_55 : σ_34 295 = q_dn G 1 oD := (hf_29 295 (by decide)).trans hc_27
      have hc_56 : σ_34 294 = q_ln G 1 (va_up oL 0 (lN (s_gPt s1C v1C))) := (hf_29 294 (by decide)).trans hc_2
      exact (Mhno s1C (by omega) (by omega) Chse).elim
    · skip
      refine (?_ : AJ G K Q (kc + 2) (ks + 12) false 296 1631 [some (.ref bS), some (.ref (q_h G + 0)), some (.ref (q_h G + 279)), some (.ref (q_h G + 294)), some (.ref (q_h G + 295)), some (.int (nI (i))), some (.int (nI (0))), none, none] [.long (lN (0))] σ_34)
      have hc_30 : σ_34 279 = o11 G (upd F 7 (nI (1))) := hc_30
      have hc_57 : σ_34 0 = o10 G (nI (il)) (z2) (z3) := (hf_31 0 (by decide)).trans hc_6
      have hc_58 : σ_34 1 = q_an G 600 f := (hf_31 1 (by decide)).trans hc_7
      have hc_59 : σ_34 23 = o5 G (23) (nI (lo)) := (hf_31 23 (by decide)).trans hc_8
      have hc_60 : σ_34 24 = q_an G 256 o := (hf_31 24 (by decide)).trans hc_9
      have hc_61 : σ_34 224 = q_rn G 2 2 (fun j => some (243 + 18 * j)) := (hf_31 224 (by decide)).trans hc_10
      have hc_62 : σ_34 225 = q_bn G 2 kp := (hf_31 225 (by decide)).trans hc_11
      have hc_63 : σ_34 280 = q_an G 265 g := (hf_31 280 (by decide)).trans hc_13
      have hc_64 : σ_34 281 = q_an G 265 wk := (hf_31 281 (by decide)).trans hc_14
      have hc_65 : σ_34 282 = q_an G 265 as := (hf_31 282 (by decide)).trans hc_15
      have hc_66 : σ_34 283 = q_an G 530 sh := (hf_31 283 (by decide)).trans hc_16
      have hc_67 : σ_34 284 = q_an G 2120 a := (hf_31 284 (by decide)).trans hc_17
      have hc_68 : σ_34 285 = q_bn G 1681 fb := (hf_31 285 (by decide)).trans hc_18
      have hc_69 : σ_34 286 = q_an G 1681 nv := (hf_31 286 (by decide)).trans hc_19
      have hc_70 : σ_34 287 = q_an G 1681 ns := (hf_31 287 (by decide)).trans hc_20
      have hc_71 : σ_34 288 = q_an G 2000 mk := (hf_31 288 (by decide)).trans hc_21
      have hc_72 : σ_34 289 = q_an G 6724 va := (hf_31 289 (by decide)).trans hc_22
      have hc_73 : σ_34 290 = q_an G 6724 sp := (hf_31 290 (by decide)).trans hc_23
      have hc_74 : σ_34 291 = q_an G 80 lp := (hf_31 291 (by decide)).trans hc_24
      have hc_75 : σ_34 292 = q_an G 600 f := (hf_31 292 (by decide)).trans hc_25
      have hc_76 : σ_34 293 = q_an G 300 ou := (hf_31 293 (by decide)).trans hc_26
      have hc_77 : σ_34 295 = q_dn G 1 oD := (hf_31 295 (by decide)).trans hc_27
      have hc_78 : σ_34 294 = q_ln G 1 (va_up oL 0 (lN (s_gPt s1C v1C))) := (hf_31 294 (by decide)).trans hc_2
      have e_s : s1C = s1M := q_nI_inj (by omega) (by omega) (Chse.symm.trans Mhse)
      subst e_s
      exact (Mhnn v1C (by omega) (by omega) Chve).elim
    · skip
      refine (?_ : AJ G K Q (kc + 2) (ks + 12) false 296 1631 [some (.ref bS), some (.ref (q_h G + 0)), some (.ref (q_h G + 279)), some (.ref (q_h G + 294)), some (.ref (q_h G + 295)), some (.int (nI (i))), some (.int (nI (0))), none, none] [.long (lN (s_gPt s1M v1M))] σ_34)
      have hc_32 : σ_34 279 = o11 G (upd F 7 (nI (0))) := hc_32
      have hc_79 : σ_34 0 = o10 G (nI (il)) (z2) (z3) := (hf_33 0 (by decide)).trans hc_6
      have hc_80 : σ_34 1 = q_an G 600 f := (hf_33 1 (by decide)).trans hc_7
      have hc_81 : σ_34 23 = o5 G (23) (nI (lo)) := (hf_33 23 (by decide)).trans hc_8
      have hc_82 : σ_34 24 = q_an G 256 o := (hf_33 24 (by decide)).trans hc_9
      have hc_83 : σ_34 224 = q_rn G 2 2 (fun j => some (243 + 18 * j)) := (hf_33 224 (by decide)).trans hc_10
      have hc_84 : σ_34 225 = q_bn G 2 kp := (hf_33 225 (by decide)).trans hc_11
      have hc_85 : σ_34 280 = q_an G 265 g := (hf_33 280 (by decide)).trans hc_13
      have hc_86 : σ_34 281 = q_an G 265 wk := (hf_33 281 (by decide)).trans hc_14
      have hc_87 : σ_34 282 = q_an G 265 as := (hf_33 282 (by decide)).trans hc_15
      have hc_88 : σ_34 283 = q_an G 530 sh := (hf_33 283 (by decide)).trans hc_16
      have hc_89 : σ_34 284 = q_an G 2120 a := (hf_33 284 (by decide)).trans hc_17
      have hc_90 : σ_34 285 = q_bn G 1681 fb := (hf_33 285 (by decide)).trans hc_18
      have hc_91 : σ_34 286 = q_an G 1681 nv := (hf_33 286 (by decide)).trans hc_19
      have hc_92 : σ_34 287 = q_an G 1681 ns := (hf_33 287 (by decide)).trans hc_20
      have hc_93 : σ_34 288 = q_an G 2000 mk := (hf_33 288 (by decide)).trans hc_21
      have hc_94 : σ_34 289 = q_an G 6724 va := (hf_33 289 (by decide)).trans hc_22
      have hc_95 : σ_34 290 = q_an G 6724 sp := (hf_33 290 (by decide)).trans hc_23
      have hc_96 : σ_34 291 = q_an G 80 lp := (hf_33 291 (by decide)).trans hc_24
      have hc_97 : σ_34 292 = q_an G 600 f := (hf_33 292 (by decide)).trans hc_25
      have hc_98 : σ_34 293 = q_an G 300 ou := (hf_33 293 (by decide)).trans hc_26
      have hc_99 : σ_34 295 = q_dn G 1 oD := (hf_33 295 (by decide)).trans hc_27
      have hc_100 : σ_34 294 = q_ln G 1 (va_up oL 0 (lN (s_gPt s1C v1C))) := (hf_33 294 (by decide)).trans hc_2
      have e_s : s1C = s1M := q_nI_inj (by omega) (by omega) (Chse.symm.trans Mhse)
      subst e_s
      have e_v : v1C = v1M := q_nI_inj (by omega) (by omega) (Chve.symm.trans Mhve)
      subst e_v
      refine A_lstore hg dL_law_1631 (by decide) (q_c1d rfl) (by simp) ?_
      refine A_eq (ls2 := [some (.ref bS), some (.ref (q_h G + 0)), some (.ref (q_h G + 279)), some (.ref (q_h G + 294)), some (.ref (q_h G + 295)), some (.int (nI (i))), some (.int (nI (0))), some (.long (lN (s_gPt s1C v1C))), none]) (st2 := []) (pc2 := 0) rfl rfl ?_
      refine A_aload_n hg dL_law_1633 rfl rfl ?_
      refine A_eV (kc2 := kc + 2) (ks2 := ks + 12) (As := []) (rest := []) hg lk_RL_170 in_X11_thrown se_X11_thrown rfl dL_law_1634 ⟨by decide, by decide⟩ rfl rfl (hfK 2 12 (by decide) (by decide)) hc_32 (by omega) rfl rfl (Nat.le_of_ble_eq_true rfl) (c_X11_thrown G false 296 σ_34 (upd F 7 (nI (0))) hc_32 (by omega)) ?_
      refine A_top (w := .int (nI (0))) (congrArg Value.int rfl) ?_
      refine A_iload hg dL_law_1637 rfl ?_
      refine A_icmp_eqN (tgt := 1644) hg dL_law_1639 (by decide) (by decide) (by decide) (fun c1639 => ?_) (fun c1639 => False.elim (by omega))
      refine A_iload hg dL_law_1644 rfl ?_
      refine A_if_neN (tgt := 1660) hg dL_law_1646 (by decide) (by decide) (fun c1646 => absurd (by decide) c1646) (fun c1646 => ?_)
      refine A_aload_n hg dL_law_1649 rfl rfl ?_
      refine A_iconst (v := (nI (0))) hg dL_law_1650 (by decide) ?_
      refine A_lald (j := 0) hg dL_law_1651 hc_100 (by omega) (by decide) (by decide) ?_
      refine A_top (w := .long (lN (s_gPt s1C v1C))) (congrArg Value.long iv_up0) ?_
      refine A_lload hg dL_law_1652 rfl ?_
      refine A_lcmp hg dL_law_1654 ?_
      refine A_top (w := .int (nI 0)) (congrArg Value.int (lc_self _)) ?_
      refine A_if_eqN (tgt := 1660) hg dL_law_1655 (by decide) (by decide) (fun c1655 => ?_) (fun c1655 => absurd (by decide) c1655)
      refine A_goto (tgt := 3062) hg dL_law_1660 (by decide) ?_
      refine A_drop 6 ?_
      refine A_drop 7 ?_
      refine A_eq (ls2 := [some (.ref bS), some (.ref (q_h G + 0)), some (.ref (q_h G + 279)), some (.ref (q_h G + 294)), some (.ref (q_h G + 295)), some (.int (nI (i))), none, none, none]) (st2 := []) (pc2 := 0) rfl rfl ?_
      refine A_wide (kc2 := kc + 8) (ks2 := ks + 48) (by omega) (by omega) ?_
      exact hnxt _ (iv_mk il z2 z3 f lo o g nx m ps kp sn (upd F 7 (nI (0))) wk as sh a fb nv ns mk va sp lp mc z ss ou (va_up oL 0 (lN (s_gPt s1C v1C))) oD hc_79 hc_80 hc_81 hc_82 hc_83 hc_84 hc_32 hc_85 hc_86 hc_87 hc_88 hc_89 hc_90 hc_91 hc_92 hc_93 hc_94 hc_95 hc_96 hc_97 hc_98 hc_100 hc_99 (x_lj_e (fun i _ _ => ((hf_33 i (by omega)).trans (hf_3 i (by omega)))) hL) (x_gm_e (fun i _ _ => ((hf_33 i (by omega)).trans (hf_3 i (by omega)))) hG) (x_mx_e (fun i _ _ => ((hf_33 i (by omega)).trans (hf_3 i (by omega)))) hM) (x_hi_e (fun i _ _ => ((hf_33 i (by omega)).trans (hf_3 i (by omega)))) hHi) (x_oj_e (fun i _ _ => ((hf_33 i (by omega)).trans (hf_3 i (by omega)))) hO) (x_pj_e (fun i _ _ => ((hf_33 i (by omega)).trans (hf_3 i (by omega)))) hT) (iv_hn (fun i _ _ => ((hf_33 i (by omega)).trans (hf_3 i (by omega)))) hH) (iv_Sn (fun i _ _ => ((hf_33 i (by omega)).trans (hf_3 i (by omega)))) hSn) (iv_Kp (fun i _ _ => ((hf_33 i (by omega)).trans (hf_3 i (by omega)))) hKp) (by omega) hfb (by omega) hou hgd hps hk1 hkss hss hsn hF5 hF6 hF12 hF16 hF21 hF22 hF23 hF33 (by omega) hmk hTI hlo)
  · skip
    rw [he_4]
    refine (?_ : AJ G K Q (kc + 2) (ks + 12) false 296 1613 [some (.ref bS), some (.ref (q_h G + 0)), some (.ref (q_h G + 279)), some (.ref (q_h G + 294)), some (.ref (q_h G + 295)), some (.int (nI (i))), none, none, none] [.int (nI (1))] σ)
    refine A_istore hg dL_law_1613 (by decide) (q_c1d rfl) ?_
    refine A_eq (ls2 := [some (.ref bS), some (.ref (q_h G + 0)), some (.ref (q_h G + 279)), some (.ref (q_h G + 294)), some (.ref (q_h G + 295)), some (.int (nI (i))), some (.int (nI (1))), none, none]) (st2 := []) (pc2 := 0) rfl rfl ?_
    refine A_aload_n hg dL_law_1615 rfl rfl ?_
    refine A_aload_n hg dL_law_1616 rfl rfl ?_
    refine A_iload hg dL_law_1617 rfl ?_
    refine A_iconst (v := (nI (1))) hg dL_law_1619 (by decide) ?_
    refine A_iaddN hg dL_law_1620 ?_
    refine A_sld hg hX (i + 1) (by omega) dL_law_1621 ?_
    refine A_aload_n hg dL_law_1622 rfl rfl ?_
    refine A_iload hg dL_law_1623 rfl ?_
    refine A_iconst (v := (nI (2))) hg dL_law_1625 (by decide) ?_
    refine A_iaddN hg dL_law_1626 ?_
    refine A_sld hg hX (i + 2) (by omega) dL_law_1627 ?_
    refine A_hV (kc2 := kc + 2) (ks2 := ks + 12) (As := [.int (xs (i + 1)), .int (xs (i + 2))]) (rest := []) hg lk_RL_223 in_X11_goldenPartner se_X11_goldenPartner rfl dL_law_1628 ⟨by decide, by decide⟩ rfl rfl (hfK 2 12 (by decide) (by decide)) hv6 (by omega) rfl rfl (Nat.le_of_ble_eq_true rfl) (c_X11_goldenPartner G false 296 σ F (xs (i + 1)) (xs (i + 2)) hv6 (by omega)) ?_
    rintro _ σ_107 (⟨rfl, Mhno, hc_101, hf_102⟩ | ⟨s1M, rfl, Mhse, Mhsa, Mhsl, Mhnn, hc_103, hf_104⟩ | ⟨s1M, v1M, rfl, Mhse, Mhsa, Mhsl, Mhve, Mhva, Mhvl, hc_105, hf_106⟩)
    · skip
      refine (?_ : AJ G K Q (kc + 2) (ks + 12) false 296 1631 [some (.ref bS), some (.ref (q_h G + 0)), some (.ref (q_h G + 279)), some (.ref (q_h G + 294)), some (.ref (q_h G + 295)), some (.int (nI (i))), some (.int (nI (1))), none, none] [.long (lN (0))] σ_107)
      have hc_101 : σ_107 279 = o11 G (upd F 7 (nI (1))) := hc_101
      have hc_108 : σ_107 0 = o10 G (nI (il)) (z2) (z3) := (hf_102 0 (by decide)).trans hv0
      have hc_109 : σ_107 1 = q_an G 600 f := (hf_102 1 (by decide)).trans hv1
      have hc_110 : σ_107 23 = o5 G (23) (nI (lo)) := (hf_102 23 (by decide)).trans hv2
      have hc_111 : σ_107 24 = q_an G 256 o := (hf_102 24 (by decide)).trans hv3
      have hc_112 : σ_107 224 = q_rn G 2 2 (fun j => some (243 + 18 * j)) := (hf_102 224 (by decide)).trans hv4
      have hc_113 : σ_107 225 = q_bn G 2 kp := (hf_102 225 (by decide)).trans hv5
      have hc_114 : σ_107 280 = q_an G 265 g := (hf_102 280 (by decide)).trans hv7
      have hc_115 : σ_107 281 = q_an G 265 wk := (hf_102 281 (by decide)).trans hv8
      have hc_116 : σ_107 282 = q_an G 265 as := (hf_102 282 (by decide)).trans hv9
      have hc_117 : σ_107 283 = q_an G 530 sh := (hf_102 283 (by decide)).trans hv10
      have hc_118 : σ_107 284 = q_an G 2120 a := (hf_102 284 (by decide)).trans hv11
      have hc_119 : σ_107 285 = q_bn G 1681 fb := (hf_102 285 (by decide)).trans hv12
      have hc_120 : σ_107 286 = q_an G 1681 nv := (hf_102 286 (by decide)).trans hv13
      have hc_121 : σ_107 287 = q_an G 1681 ns := (hf_102 287 (by decide)).trans hv14
      have hc_122 : σ_107 288 = q_an G 2000 mk := (hf_102 288 (by decide)).trans hv15
      have hc_123 : σ_107 289 = q_an G 6724 va := (hf_102 289 (by decide)).trans hv16
      have hc_124 : σ_107 290 = q_an G 6724 sp := (hf_102 290 (by decide)).trans hv17
      have hc_125 : σ_107 291 = q_an G 80 lp := (hf_102 291 (by decide)).trans hv18
      have hc_126 : σ_107 292 = q_an G 600 f := (hf_102 292 (by decide)).trans hv19
      have hc_127 : σ_107 293 = q_an G 300 ou := (hf_102 293 (by decide)).trans hv20
      have hc_128 : σ_107 294 = q_ln G 1 oL := (hf_102 294 (by decide)).trans hv21
      have hc_129 : σ_107 295 = q_dn G 1 oD := (hf_102 295 (by decide)).trans hv22
      refine A_lstore hg dL_law_1631 (by decide) (q_c1d rfl) (by simp) ?_
      refine A_eq (ls2 := [some (.ref bS), some (.ref (q_h G + 0)), some (.ref (q_h G + 279)), some (.ref (q_h G + 294)), some (.ref (q_h G + 295)), some (.int (nI (i))), some (.int (nI (1))), some (.long (lN (0))), none]) (st2 := []) (pc2 := 0) rfl rfl ?_
      refine A_aload_n hg dL_law_1633 rfl rfl ?_
      refine A_eV (kc2 := kc + 2) (ks2 := ks + 12) (As := []) (rest := []) hg lk_RL_170 in_X11_thrown se_X11_thrown rfl dL_law_1634 ⟨by decide, by decide⟩ rfl rfl (hfK 2 12 (by decide) (by decide)) hc_101 (by omega) rfl rfl (Nat.le_of_ble_eq_true rfl) (c_X11_thrown G false 296 σ_107 (upd F 7 (nI (1))) hc_101 (by omega)) ?_
      refine A_top (w := .int (nI (1))) (congrArg Value.int rfl) ?_
      refine A_iload hg dL_law_1637 rfl ?_
      refine A_icmp_eqN (tgt := 1644) hg dL_law_1639 (by decide) (by decide) (by decide) (fun c1639 => ?_) (fun c1639 => False.elim (by omega))
      refine A_iload hg dL_law_1644 rfl ?_
      refine A_if_neN (tgt := 1660) hg dL_law_1646 (by decide) (by decide) (fun c1646 => ?_) (fun c1646 => absurd c1646 (by decide))
      refine A_goto (tgt := 3062) hg dL_law_1660 (by decide) ?_
      refine A_drop 6 ?_
      refine A_drop 7 ?_
      refine A_eq (ls2 := [some (.ref bS), some (.ref (q_h G + 0)), some (.ref (q_h G + 279)), some (.ref (q_h G + 294)), some (.ref (q_h G + 295)), some (.int (nI (i))), none, none, none]) (st2 := []) (pc2 := 0) rfl rfl ?_
      refine A_wide (kc2 := kc + 8) (ks2 := ks + 48) (by omega) (by omega) ?_
      exact hnxt _ (iv_mk il z2 z3 f lo o g nx m ps kp sn (upd F 7 (nI (1))) wk as sh a fb nv ns mk va sp lp mc z ss ou oL oD hc_108 hc_109 hc_110 hc_111 hc_112 hc_113 hc_101 hc_114 hc_115 hc_116 hc_117 hc_118 hc_119 hc_120 hc_121 hc_122 hc_123 hc_124 hc_125 hc_126 hc_127 hc_128 hc_129 (x_lj_e (fun i _ _ => (hf_102 i (by omega))) hL) (x_gm_e (fun i _ _ => (hf_102 i (by omega))) hG) (x_mx_e (fun i _ _ => (hf_102 i (by omega))) hM) (x_hi_e (fun i _ _ => (hf_102 i (by omega))) hHi) (x_oj_e (fun i _ _ => (hf_102 i (by omega))) hO) (x_pj_e (fun i _ _ => (hf_102 i (by omega))) hT) (iv_hn (fun i _ _ => (hf_102 i (by omega))) hH) (iv_Sn (fun i _ _ => (hf_102 i (by omega))) hSn) (iv_Kp (fun i _ _ => (hf_102 i (by omega))) hKp) (by omega) hfb (by omega) hou hgd hps hk1 hkss hss hsn hF5 hF6 hF12 hF16 hF21 hF22 hF23 hF33 (by omega) hmk hTI hlo)
    · skip
      refine (?_ : AJ G K Q (kc + 2) (ks + 12) false 296 1631 [some (.ref bS), some (.ref (q_h G + 0)), some (.ref (q_h G + 279)), some (.ref (q_h G + 294)), some (.ref (q_h G + 295)), some (.int (nI (i))), some (.int (nI (1))), none, none] [.long (lN (0))] σ_107)
      have hc_103 : σ_107 279 = o11 G (upd F 7 (nI (1))) := hc_103
      have hc_130 : σ_107 0 = o10 G (nI (il)) (z2) (z3) := (hf_104 0 (by decide)).trans hv0
      have hc_131 : σ_107 1 = q_an G 600 f := (hf_104 1 (by decide)).trans hv1
      have hc_132 : σ_107 23 = o5 G (23) (nI (lo)) := (hf_104 23 (by decide)).trans hv2
      have hc_133 : σ_107 24 = q_an G 256 o := (hf_104 24 (by decide)).trans hv3
      have hc_134 : σ_107 224 = q_rn G 2 2 (fun j => some (243 + 18 * j)) := (hf_104 224 (by decide)).trans hv4
      have hc_135 : σ_107 225 = q_bn G 2 kp := (hf_104 225 (by decide)).trans hv5
      have hc_136 : σ_107 280 = q_an G 265 g := (hf_104 280 (by decide)).trans hv7
      have hc_137 : σ_107 281 = q_an G 265 wk := (hf_104 281 (by decide)).trans hv8
      have hc_138 : σ_107 282 = q_an G 265 as := (hf_104 282 (by decide)).trans hv9
      have hc_139 : σ_107 283 = q_an G 530 sh := (hf_104 283 (by decide)).trans hv10
      have hc_140 : σ_107 284 = q_an G 2120 a := (hf_104 284 (by decide)).trans hv11
      have hc_141 : σ_107 285 = q_bn G 1681 fb := (hf_104 285 (by decide)).trans hv12
      have hc_142 : σ_107 286 = q_an G 1681 nv := (hf_104 286 (by decide)).trans hv13
      have hc_143 : σ_107 287 = q_an G 1681 ns := (hf_104 287 (by decide)).trans hv14
      have hc_144 : σ_107 288 = q_an G 2000 mk := (hf_104 288 (by decide)).trans hv15
      have hc_145 : σ_107 289 = q_an G 6724 va := (hf_104 289 (by decide)).trans hv16
      have hc_146 : σ_107 290 = q_an G 6724 sp := (hf_104 290 (by decide)).trans hv17
      have hc_147 : σ_107 291 = q_an G 80 lp := (hf_104 291 (by decide)).trans hv18
      have hc_148 : σ_107 292 = q_an G 600 f := (hf_104 292 (by decide)).trans hv19
      have hc_149 : σ_107 293 = q_an G 300 ou := (hf_104 293 (by decide)).trans hv20
      have hc_150 : σ_107 294 = q_ln G 1 oL := (hf_104 294 (by decide)).trans hv21
      have hc_151 : σ_107 295 = q_dn G 1 oD := (hf_104 295 (by decide)).trans hv22
      exact (Chxx s1M (by omega) (by omega) Mhse).elim
    · skip
      refine (?_ : AJ G K Q (kc + 2) (ks + 12) false 296 1631 [some (.ref bS), some (.ref (q_h G + 0)), some (.ref (q_h G + 279)), some (.ref (q_h G + 294)), some (.ref (q_h G + 295)), some (.int (nI (i))), some (.int (nI (1))), none, none] [.long (lN (s_gPt s1M v1M))] σ_107)
      have hc_105 : σ_107 279 = o11 G (upd F 7 (nI (0))) := hc_105
      have hc_152 : σ_107 0 = o10 G (nI (il)) (z2) (z3) := (hf_106 0 (by decide)).trans hv0
      have hc_153 : σ_107 1 = q_an G 600 f := (hf_106 1 (by decide)).trans hv1
      have hc_154 : σ_107 23 = o5 G (23) (nI (lo)) := (hf_106 23 (by decide)).trans hv2
      have hc_155 : σ_107 24 = q_an G 256 o := (hf_106 24 (by decide)).trans hv3
      have hc_156 : σ_107 224 = q_rn G 2 2 (fun j => some (243 + 18 * j)) := (hf_106 224 (by decide)).trans hv4
      have hc_157 : σ_107 225 = q_bn G 2 kp := (hf_106 225 (by decide)).trans hv5
      have hc_158 : σ_107 280 = q_an G 265 g := (hf_106 280 (by decide)).trans hv7
      have hc_159 : σ_107 281 = q_an G 265 wk := (hf_106 281 (by decide)).trans hv8
      have hc_160 : σ_107 282 = q_an G 265 as := (hf_106 282 (by decide)).trans hv9
      have hc_161 : σ_107 283 = q_an G 530 sh := (hf_106 283 (by decide)).trans hv10
      have hc_162 : σ_107 284 = q_an G 2120 a := (hf_106 284 (by decide)).trans hv11
      have hc_163 : σ_107 285 = q_bn G 1681 fb := (hf_106 285 (by decide)).trans hv12
      have hc_164 : σ_107 286 = q_an G 1681 nv := (hf_106 286 (by decide)).trans hv13
      have hc_165 : σ_107 287 = q_an G 1681 ns := (hf_106 287 (by decide)).trans hv14
      have hc_166 : σ_107 288 = q_an G 2000 mk := (hf_106 288 (by decide)).trans hv15
      have hc_167 : σ_107 289 = q_an G 6724 va := (hf_106 289 (by decide)).trans hv16
      have hc_168 : σ_107 290 = q_an G 6724 sp := (hf_106 290 (by decide)).trans hv17
      have hc_169 : σ_107 291 = q_an G 80 lp := (hf_106 291 (by decide)).trans hv18
      have hc_170 : σ_107 292 = q_an G 600 f := (hf_106 292 (by decide)).trans hv19
      have hc_171 : σ_107 293 = q_an G 300 ou := (hf_106 293 (by decide)).trans hv20
      have hc_172 : σ_107 294 = q_ln G 1 oL := (hf_106 294 (by decide)).trans hv21
      have hc_173 : σ_107 295 = q_dn G 1 oD := (hf_106 295 (by decide)).trans hv22
      exact (Chxx s1M (by omega) (by omega) Mhse).elim
  · skip
    rw [he_5]
    refine (?_ : AJ G K Q (kc + 2) (ks + 12) false 296 1613 [some (.ref bS), some (.ref (q_h G + 0)), some (.ref (q_h G + 279)), some (.ref (q_h G + 294)), some (.ref (q_h G + 295)), some (.int (nI (i))), none, none, none] [.int (nI (1))] σ)
    obtain ⟨s1C, Chx0, Chx1, Chx2, Chx3⟩ := Chxx
    refine A_istore hg dL_law_1613 (by decide) (q_c1d rfl) ?_
    refine A_eq (ls2 := [some (.ref bS), some (.ref (q_h G + 0)), some (.ref (q_h G + 279)), some (.ref (q_h G + 294)), some (.ref (q_h G + 295)), some (.int (nI (i))), some (.int (nI (1))), none, none]) (st2 := []) (pc2 := 0) rfl rfl ?_
    refine A_aload_n hg dL_law_1615 rfl rfl ?_
    refine A_aload_n hg dL_law_1616 rfl rfl ?_
    refine A_iload hg dL_law_1617 rfl ?_
    refine A_iconst (v := (nI (1))) hg dL_law_1619 (by decide) ?_
    refine A_iaddN hg dL_law_1620 ?_
    refine A_sld hg hX (i + 1) (by omega) dL_law_1621 ?_
    refine A_aload_n hg dL_law_1622 rfl rfl ?_
    refine A_iload hg dL_law_1623 rfl ?_
    refine A_iconst (v := (nI (2))) hg dL_law_1625 (by decide) ?_
    refine A_iaddN hg dL_law_1626 ?_
    refine A_sld hg hX (i + 2) (by omega) dL_law_1627 ?_
    refine A_hV (kc2 := kc + 2) (ks2 := ks + 12) (As := [.int (xs (i + 1)), .int (xs (i + 2))]) (rest := []) hg lk_RL_223 in_X11_goldenPartner se_X11_goldenPartner rfl dL_law_1628 ⟨by decide, by decide⟩ rfl rfl (hfK 2 12 (by decide) (by decide)) hv6 (by omega) rfl rfl (Nat.le_of_ble_eq_true rfl) (c_X11_goldenPartner G false 296 σ F (xs (i + 1)) (xs (i + 2)) hv6 (by omega)) ?_
    rintro _ σ_180 (⟨rfl, Mhno, hc_174, hf_175⟩ | ⟨s1M, rfl, Mhse, Mhsa, Mhsl, Mhnn, hc_176, hf_177⟩ | ⟨s1M, v1M, rfl, Mhse, Mhsa, Mhsl, Mhve, Mhva, Mhvl, hc_178, hf_179⟩)
    · skip
      refine (?_ : AJ G K Q (kc + 2) (ks + 12) false 296 1631 [some (.ref bS), some (.ref (q_h G + 0)), some (.ref (q_h G + 279)), some (.ref (q_h G + 294)), some (.ref (q_h G + 295)), some (.int (nI (i))), some (.int (nI (1))), none, none] [.long (lN (0))] σ_180)
      have hc_174 : σ_180 279 = o11 G (upd F 7 (nI (1))) := hc_174
      have hc_181 : σ_180 0 = o10 G (nI (il)) (z2) (z3) := (hf_175 0 (by decide)).trans hv0
      have hc_182 : σ_180 1 = q_an G 600 f := (hf_175 1 (by decide)).trans hv1
      have hc_183 : σ_180 23 = o5 G (23) (nI (lo)) := (hf_175 23 (by decide)).trans hv2
      have hc_184 : σ_180 24 = q_an G 256 o := (hf_175 24 (by decide)).trans hv3
      have hc_185 : σ_180 224 = q_rn G 2 2 (fun j => some (243 + 18 * j)) := (hf_175 224 (by decide)).trans hv4
      have hc_186 : σ_180 225 = q_bn G 2 kp := (hf_175 225 (by decide)).trans hv5
      have hc_187 : σ_180 280 = q_an G 265 g := (hf_175 280 (by decide)).trans hv7
      have hc_188 : σ_180 281 = q_an G 265 wk := (hf_175 281 (by decide)).trans hv8
      have hc_189 : σ_180 282 = q_an G 265 as := (hf_175 282 (by decide)).trans hv9
      have hc_190 : σ_180 283 = q_an G 530 sh := (hf_175 283 (by decide)).trans hv10
      have hc_191 : σ_180 284 = q_an G 2120 a := (hf_175 284 (by decide)).trans hv11
      have hc_192 : σ_180 285 = q_bn G 1681 fb := (hf_175 285 (by decide)).trans hv12
      have hc_193 : σ_180 286 = q_an G 1681 nv := (hf_175 286 (by decide)).trans hv13
      have hc_194 : σ_180 287 = q_an G 1681 ns := (hf_175 287 (by decide)).trans hv14
      have hc_195 : σ_180 288 = q_an G 2000 mk := (hf_175 288 (by decide)).trans hv15
      have hc_196 : σ_180 289 = q_an G 6724 va := (hf_175 289 (by decide)).trans hv16
      have hc_197 : σ_180 290 = q_an G 6724 sp := (hf_175 290 (by decide)).trans hv17
      have hc_198 : σ_180 291 = q_an G 80 lp := (hf_175 291 (by decide)).trans hv18
      have hc_199 : σ_180 292 = q_an G 600 f := (hf_175 292 (by decide)).trans hv19
      have hc_200 : σ_180 293 = q_an G 300 ou := (hf_175 293 (by decide)).trans hv20
      have hc_201 : σ_180 294 = q_ln G 1 oL := (hf_175 294 (by decide)).trans hv21
      have hc_202 : σ_180 295 = q_dn G 1 oD := (hf_175 295 (by decide)).trans hv22
      exact (Mhno s1C (by omega) (by omega) Chx0).elim
    · skip
      refine (?_ : AJ G K Q (kc + 2) (ks + 12) false 296 1631 [some (.ref bS), some (.ref (q_h G + 0)), some (.ref (q_h G + 279)), some (.ref (q_h G + 294)), some (.ref (q_h G + 295)), some (.int (nI (i))), some (.int (nI (1))), none, none] [.long (lN (0))] σ_180)
      have hc_176 : σ_180 279 = o11 G (upd F 7 (nI (1))) := hc_176
      have hc_203 : σ_180 0 = o10 G (nI (il)) (z2) (z3) := (hf_177 0 (by decide)).trans hv0
      have hc_204 : σ_180 1 = q_an G 600 f := (hf_177 1 (by decide)).trans hv1
      have hc_205 : σ_180 23 = o5 G (23) (nI (lo)) := (hf_177 23 (by decide)).trans hv2
      have hc_206 : σ_180 24 = q_an G 256 o := (hf_177 24 (by decide)).trans hv3
      have hc_207 : σ_180 224 = q_rn G 2 2 (fun j => some (243 + 18 * j)) := (hf_177 224 (by decide)).trans hv4
      have hc_208 : σ_180 225 = q_bn G 2 kp := (hf_177 225 (by decide)).trans hv5
      have hc_209 : σ_180 280 = q_an G 265 g := (hf_177 280 (by decide)).trans hv7
      have hc_210 : σ_180 281 = q_an G 265 wk := (hf_177 281 (by decide)).trans hv8
      have hc_211 : σ_180 282 = q_an G 265 as := (hf_177 282 (by decide)).trans hv9
      have hc_212 : σ_180 283 = q_an G 530 sh := (hf_177 283 (by decide)).trans hv10
      have hc_213 : σ_180 284 = q_an G 2120 a := (hf_177 284 (by decide)).trans hv11
      have hc_214 : σ_180 285 = q_bn G 1681 fb := (hf_177 285 (by decide)).trans hv12
      have hc_215 : σ_180 286 = q_an G 1681 nv := (hf_177 286 (by decide)).trans hv13
      have hc_216 : σ_180 287 = q_an G 1681 ns := (hf_177 287 (by decide)).trans hv14
      have hc_217 : σ_180 288 = q_an G 2000 mk := (hf_177 288 (by decide)).trans hv15
      have hc_218 : σ_180 289 = q_an G 6724 va := (hf_177 289 (by decide)).trans hv16
      have hc_219 : σ_180 290 = q_an G 6724 sp := (hf_177 290 (by decide)).trans hv17
      have hc_220 : σ_180 291 = q_an G 80 lp := (hf_177 291 (by decide)).trans hv18
      have hc_221 : σ_180 292 = q_an G 600 f := (hf_177 292 (by decide)).trans hv19
      have hc_222 : σ_180 293 = q_an G 300 ou := (hf_177 293 (by decide)).trans hv20
      have hc_223 : σ_180 294 = q_ln G 1 oL := (hf_177 294 (by decide)).trans hv21
      have hc_224 : σ_180 295 = q_dn G 1 oD := (hf_177 295 (by decide)).trans hv22
      have e_s : s1C = s1M := q_nI_inj (by omega) (by omega) (Chx0.symm.trans Mhse)
      subst e_s
      refine A_lstore hg dL_law_1631 (by decide) (q_c1d rfl) (by simp) ?_
      refine A_eq (ls2 := [some (.ref bS), some (.ref (q_h G + 0)), some (.ref (q_h G + 279)), some (.ref (q_h G + 294)), some (.ref (q_h G + 295)), some (.int (nI (i))), some (.int (nI (1))), some (.long (lN (0))), none]) (st2 := []) (pc2 := 0) rfl rfl ?_
      refine A_aload_n hg dL_law_1633 rfl rfl ?_
      refine A_eV (kc2 := kc + 2) (ks2 := ks + 12) (As := []) (rest := []) hg lk_RL_170 in_X11_thrown se_X11_thrown rfl dL_law_1634 ⟨by decide, by decide⟩ rfl rfl (hfK 2 12 (by decide) (by decide)) hc_176 (by omega) rfl rfl (Nat.le_of_ble_eq_true rfl) (c_X11_thrown G false 296 σ_180 (upd F 7 (nI (1))) hc_176 (by omega)) ?_
      refine A_top (w := .int (nI (1))) (congrArg Value.int rfl) ?_
      refine A_iload hg dL_law_1637 rfl ?_
      refine A_icmp_eqN (tgt := 1644) hg dL_law_1639 (by decide) (by decide) (by decide) (fun c1639 => ?_) (fun c1639 => False.elim (by omega))
      refine A_iload hg dL_law_1644 rfl ?_
      refine A_if_neN (tgt := 1660) hg dL_law_1646 (by decide) (by decide) (fun c1646 => ?_) (fun c1646 => absurd c1646 (by decide))
      refine A_goto (tgt := 3062) hg dL_law_1660 (by decide) ?_
      refine A_drop 6 ?_
      refine A_drop 7 ?_
      refine A_eq (ls2 := [some (.ref bS), some (.ref (q_h G + 0)), some (.ref (q_h G + 279)), some (.ref (q_h G + 294)), some (.ref (q_h G + 295)), some (.int (nI (i))), none, none, none]) (st2 := []) (pc2 := 0) rfl rfl ?_
      refine A_wide (kc2 := kc + 8) (ks2 := ks + 48) (by omega) (by omega) ?_
      exact hnxt _ (iv_mk il z2 z3 f lo o g nx m ps kp sn (upd F 7 (nI (1))) wk as sh a fb nv ns mk va sp lp mc z ss ou oL oD hc_203 hc_204 hc_205 hc_206 hc_207 hc_208 hc_176 hc_209 hc_210 hc_211 hc_212 hc_213 hc_214 hc_215 hc_216 hc_217 hc_218 hc_219 hc_220 hc_221 hc_222 hc_223 hc_224 (x_lj_e (fun i _ _ => (hf_177 i (by omega))) hL) (x_gm_e (fun i _ _ => (hf_177 i (by omega))) hG) (x_mx_e (fun i _ _ => (hf_177 i (by omega))) hM) (x_hi_e (fun i _ _ => (hf_177 i (by omega))) hHi) (x_oj_e (fun i _ _ => (hf_177 i (by omega))) hO) (x_pj_e (fun i _ _ => (hf_177 i (by omega))) hT) (iv_hn (fun i _ _ => (hf_177 i (by omega))) hH) (iv_Sn (fun i _ _ => (hf_177 i (by omega))) hSn) (iv_Kp (fun i _ _ => (hf_177 i (by omega))) hKp) (by omega) hfb (by omega) hou hgd hps hk1 hkss hss hsn hF5 hF6 hF12 hF16 hF21 hF22 hF23 hF33 (by omega) hmk hTI hlo)
    · skip
      refine (?_ : AJ G K Q (kc + 2) (ks + 12) false 296 1631 [some (.ref bS), some (.ref (q_h G + 0)), some (.ref (q_h G + 279)), some (.ref (q_h G + 294)), some (.ref (q_h G + 295)), some (.int (nI (i))), some (.int (nI (1))), none, none] [.long (lN (s_gPt s1M v1M))] σ_180)
      have hc_178 : σ_180 279 = o11 G (upd F 7 (nI (0))) := hc_178
      have hc_225 : σ_180 0 = o10 G (nI (il)) (z2) (z3) := (hf_179 0 (by decide)).trans hv0
      have hc_226 : σ_180 1 = q_an G 600 f := (hf_179 1 (by decide)).trans hv1
      have hc_227 : σ_180 23 = o5 G (23) (nI (lo)) := (hf_179 23 (by decide)).trans hv2
      have hc_228 : σ_180 24 = q_an G 256 o := (hf_179 24 (by decide)).trans hv3
      have hc_229 : σ_180 224 = q_rn G 2 2 (fun j => some (243 + 18 * j)) := (hf_179 224 (by decide)).trans hv4
      have hc_230 : σ_180 225 = q_bn G 2 kp := (hf_179 225 (by decide)).trans hv5
      have hc_231 : σ_180 280 = q_an G 265 g := (hf_179 280 (by decide)).trans hv7
      have hc_232 : σ_180 281 = q_an G 265 wk := (hf_179 281 (by decide)).trans hv8
      have hc_233 : σ_180 282 = q_an G 265 as := (hf_179 282 (by decide)).trans hv9
      have hc_234 : σ_180 283 = q_an G 530 sh := (hf_179 283 (by decide)).trans hv10
      have hc_235 : σ_180 284 = q_an G 2120 a := (hf_179 284 (by decide)).trans hv11
      have hc_236 : σ_180 285 = q_bn G 1681 fb := (hf_179 285 (by decide)).trans hv12
      have hc_237 : σ_180 286 = q_an G 1681 nv := (hf_179 286 (by decide)).trans hv13
      have hc_238 : σ_180 287 = q_an G 1681 ns := (hf_179 287 (by decide)).trans hv14
      have hc_239 : σ_180 288 = q_an G 2000 mk := (hf_179 288 (by decide)).trans hv15
      have hc_240 : σ_180 289 = q_an G 6724 va := (hf_179 289 (by decide)).trans hv16
      have hc_241 : σ_180 290 = q_an G 6724 sp := (hf_179 290 (by decide)).trans hv17
      have hc_242 : σ_180 291 = q_an G 80 lp := (hf_179 291 (by decide)).trans hv18
      have hc_243 : σ_180 292 = q_an G 600 f := (hf_179 292 (by decide)).trans hv19
      have hc_244 : σ_180 293 = q_an G 300 ou := (hf_179 293 (by decide)).trans hv20
      have hc_245 : σ_180 294 = q_ln G 1 oL := (hf_179 294 (by decide)).trans hv21
      have hc_246 : σ_180 295 = q_dn G 1 oD := (hf_179 295 (by decide)).trans hv22
      have e_s : s1C = s1M := q_nI_inj (by omega) (by omega) (Chx0.symm.trans Mhse)
      subst e_s
      exact (Chx3 v1M (by omega) (by omega) Mhve).elim
set_option maxRecDepth 100000 in
set_option maxHeartbeats 4000000 in
theorem law_c22 (G : GL) (K : KC) (Q : State → Prop) (hh : List (Nat × Nat × Nat × Nat)) (hg : Gd G K RL code 9 ret room_1 hh) (bS L : Nat) (xs : Nat → Int32) (hX : q_scr G K bS L xs) (i kc ks J : Nat) (hi : i + 5 < L) (hL31 : L < 2 ^ 31) (hkc : kc + 8 ≤ 601024) (hks : ks + 48 ≤ 7293034) (σ : Nat → va_E) (hI : iv G σ J) (hJ : J < 512) (hfd : q_fdn) (hdd : q_ddn) (hf2 : q_f2n) (hds : q_dcs) (hnxt : ∀ σ9 : Nat → va_E, iv G σ9 (J + 1) → AJ G K Q (kc + 8) (ks + 48) false 296 3062 [some (.ref bS), some (.ref (q_h G + 0)), some (.ref (q_h G + 279)), some (.ref (q_h G + 294)), some (.ref (q_h G + 295)), some (.int (nI (i))), none, none, none] [] σ9) : AJ G K Q kc ks false 296 1663 [some (.ref bS), some (.ref (q_h G + 0)), some (.ref (q_h G + 279)), some (.ref (q_h G + 294)), some (.ref (q_h G + 295)), some (.int (nI (i))), none, none, none] [] σ := by
  refine iv_el hI ?_
  intro il z2 z3 f lo o g nx m ps kp sn F wk as sh a fb nv ns mk va sp lp mc z ss ou oL oD
  intro hv0 hv1 hv2 hv3 hv4 hv5 hv6 hv7 hv8 hv9 hv10 hv11 hv12 hv13 hv14 hv15 hv16 hv17 hv18 hv19 hv20 hv21 hv22
  intro hL hG hM hHi hO hT hH hSn hKp
  intro hil hfb hlo2 hou hgd hps hk1 hkss hss hsn hF5 hF6 hF12 hF16 hF21 hF22 hF23 hF33 hmc hmk hTI hlo
  have hfK : ∀ a b : Nat, a ≤ 8 → b ≤ 48 → kc + a ≤ room_1.cells ∧ ks + b ≤ room_1.slots := fun a b h1 h2 => ⟨by show kc + a ≤ 601024; omega, by show ks + b ≤ 7293034; omega⟩
  have hg9 := iv_g hG
  obtain ⟨hnx8, hm8, hc78⟩ := iv_hi hHi
  have hbb := iv_byte (m := il) hfb
  have hg90 := hg9.1
  have hg96 := hg9.2.2.2.2.1
  have hnp8 := s_np_le hg9
  refine A_aload_n hg dL_law_1663 rfl rfl ?_
  refine A_aload_n hg dL_law_1664 rfl rfl ?_
  refine A_iload hg dL_law_1665 rfl ?_
  refine A_iconst (v := (nI (1))) hg dL_law_1667 (by decide) ?_
  refine A_iaddN hg dL_law_1668 ?_
  refine A_sld hg hX (i + 1) (by omega) dL_law_1669 ?_
  refine A_aload_n hg dL_law_1670 rfl rfl ?_
  refine A_iload hg dL_law_1671 rfl ?_
  refine A_iconst (v := (nI (2))) hg dL_law_1673 (by decide) ?_
  refine A_iaddN hg dL_law_1674 ?_
  refine A_sld hg hX (i + 2) (by omega) dL_law_1675 ?_
  refine A_aload_n hg dL_law_1676 rfl rfl ?_
  refine A_callSH (As := [.ref (q_h G + 0), .int (xs (i + 1)), .int (xs (i + 2)), .ref (q_h G + 294)]) (rest := []) hg lkH_224 stH_L_goldenMany dL_law_1677 ⟨by decide, by decide⟩ (hfK 2 12 (by decide) (by decide)) rfl rfl (Nat.le_of_ble_eq_true rfl) (c_L_goldenMany G 296 σ (nI (il)) z2 z3 (xs (i + 1)) (xs (i + 2)) oL hv0 hv21 (by omega) (by omega)) ?_
  rintro _ σ_1 (⟨s1C, v1C, rfl, Chse, Chsa, Chsl, Chve, Chva, Chvl, hc_2, hf_3⟩ | ⟨rfl, Chxx, he_4⟩ | ⟨rfl, Chxx, he_5⟩)
  · skip
    refine (?_ : AJ G K Q (kc + 2) (ks + 12) false 296 1680 [some (.ref bS), some (.ref (q_h G + 0)), some (.ref (q_h G + 279)), some (.ref (q_h G + 294)), some (.ref (q_h G + 295)), some (.int (nI (i))), none, none, none] [.int (nI (0))] σ_1)
    have hc_6 : σ_1 0 = o10 G (nI (il)) (z2) (z3) := (hf_3 0 (by decide)).trans hv0
    have hc_7 : σ_1 1 = q_an G 600 f := (hf_3 1 (by decide)).trans hv1
    have hc_8 : σ_1 23 = o5 G (23) (nI (lo)) := (hf_3 23 (by decide)).trans hv2
    have hc_9 : σ_1 24 = q_an G 256 o := (hf_3 24 (by decide)).trans hv3
    have hc_10 : σ_1 224 = q_rn G 2 2 (fun j => some (243 + 18 * j)) := (hf_3 224 (by decide)).trans hv4
    have hc_11 : σ_1 225 = q_bn G 2 kp := (hf_3 225 (by decide)).trans hv5
    have hc_12 : σ_1 279 = o11 G F := (hf_3 279 (by decide)).trans hv6
    have hc_13 : σ_1 280 = q_an G 265 g := (hf_3 280 (by decide)).trans hv7
    have hc_14 : σ_1 281 = q_an G 265 wk := (hf_3 281 (by decide)).trans hv8
    have hc_15 : σ_1 282 = q_an G 265 as := (hf_3 282 (by decide)).trans hv9
    have hc_16 : σ_1 283 = q_an G 530 sh := (hf_3 283 (by decide)).trans hv10
    have hc_17 : σ_1 284 = q_an G 2120 a := (hf_3 284 (by decide)).trans hv11
    have hc_18 : σ_1 285 = q_bn G 1681 fb := (hf_3 285 (by decide)).trans hv12
    have hc_19 : σ_1 286 = q_an G 1681 nv := (hf_3 286 (by decide)).trans hv13
    have hc_20 : σ_1 287 = q_an G 1681 ns := (hf_3 287 (by decide)).trans hv14
    have hc_21 : σ_1 288 = q_an G 2000 mk := (hf_3 288 (by decide)).trans hv15
    have hc_22 : σ_1 289 = q_an G 6724 va := (hf_3 289 (by decide)).trans hv16
    have hc_23 : σ_1 290 = q_an G 6724 sp := (hf_3 290 (by decide)).trans hv17
    have hc_24 : σ_1 291 = q_an G 80 lp := (hf_3 291 (by decide)).trans hv18
    have hc_25 : σ_1 292 = q_an G 600 f := (hf_3 292 (by decide)).trans hv19
    have hc_26 : σ_1 293 = q_an G 300 ou := (hf_3 293 (by decide)).trans hv20
    have hc_27 : σ_1 295 = q_dn G 1 oD := (hf_3 295 (by decide)).trans hv22
    refine A_istore hg dL_law_1680 (by decide) (q_c1d rfl) ?_
    refine A_eq (ls2 := [some (.ref bS), some (.ref (q_h G + 0)), some (.ref (q_h G + 279)), some (.ref (q_h G + 294)), some (.ref (q_h G + 295)), some (.int (nI (i))), some (.int (nI (0))), none, none]) (st2 := []) (pc2 := 0) rfl rfl ?_
    refine A_aload_n hg dL_law_1682 rfl rfl ?_
    refine A_aload_n hg dL_law_1683 rfl rfl ?_
    refine A_iload hg dL_law_1684 rfl ?_
    refine A_iconst (v := (nI (1))) hg dL_law_1686 (by decide) ?_
    refine A_iaddN hg dL_law_1687 ?_
    refine A_sld hg hX (i + 1) (by omega) dL_law_1688 ?_
    refine A_aload_n hg dL_law_1689 rfl rfl ?_
    refine A_iload hg dL_law_1690 rfl ?_
    refine A_iconst (v := (nI (2))) hg dL_law_1692 (by decide) ?_
    refine A_iaddN hg dL_law_1693 ?_
    refine A_sld hg hX (i + 2) (by omega) dL_law_1694 ?_
    refine A_hV (kc2 := kc + 2) (ks2 := ks + 12) (As := [.int (xs (i + 1)), .int (xs (i + 2))]) (rest := []) hg lk_RL_226 in_X11_goldenMany se_X11_goldenMany rfl dL_law_1695 ⟨by decide, by decide⟩ rfl rfl (hfK 2 12 (by decide) (by decide)) hc_12 (by omega) rfl rfl (Nat.le_of_ble_eq_true rfl) (c_X11_goldenMany G false 296 σ_1 F (xs (i + 1)) (xs (i + 2)) hc_12 (by omega)) ?_
    rintro _ σ_34 (⟨rfl, Mhno, hc_28, hf_29⟩ | ⟨s1M, rfl, Mhse, Mhsa, Mhsl, Mhnn, hc_30, hf_31⟩ | ⟨s1M, v1M, rfl, Mhse, Mhsa, Mhsl, Mhve, Mhva, Mhvl, hc_32, hf_33⟩)
    · skip
      refine (?_ : AJ G K Q (kc + 2) (ks + 12) false 296 1698 [some (.ref bS), some (.ref (q_h G + 0)), some (.ref (q_h G + 279)), some (.ref (q_h G + 294)), some (.ref (q_h G + 295)), some (.int (nI (i))), some (.int (nI (0))), none, none] [.int (nI (0))] σ_34)
      have hc_28 : σ_34 279 = o11 G (upd F 7 (nI (1))) := hc_28
      have hc_35 : σ_34 0 = o10 G (nI (il)) (z2) (z3) := (hf_29 0 (by decide)).trans hc_6
      have hc_36 : σ_34 1 = q_an G 600 f := (hf_29 1 (by decide)).trans hc_7
      have hc_37 : σ_34 23 = o5 G (23) (nI (lo)) := (hf_29 23 (by decide)).trans hc_8
      have hc_38 : σ_34 24 = q_an G 256 o := (hf_29 24 (by decide)).trans hc_9
      have hc_39 : σ_34 224 = q_rn G 2 2 (fun j => some (243 + 18 * j)) := (hf_29 224 (by decide)).trans hc_10
      have hc_40 : σ_34 225 = q_bn G 2 kp := (hf_29 225 (by decide)).trans hc_11
      have hc_41 : σ_34 280 = q_an G 265 g := (hf_29 280 (by decide)).trans hc_13
      have hc_42 : σ_34 281 = q_an G 265 wk := (hf_29 281 (by decide)).trans hc_14
      have hc_43 : σ_34 282 = q_an G 265 as := (hf_29 282 (by decide)).trans hc_15
      have hc_44 : σ_34 283 = q_an G 530 sh := (hf_29 283 (by decide)).trans hc_16
      have hc_45 : σ_34 284 = q_an G 2120 a := (hf_29 284 (by decide)).trans hc_17
      have hc_46 : σ_34 285 = q_bn G 1681 fb := (hf_29 285 (by decide)).trans hc_18
      have hc_47 : σ_34 286 = q_an G 1681 nv := (hf_29 286 (by decide)).trans hc_19
      have hc_48 : σ_34 287 = q_an G 1681 ns := (hf_29 287 (by decide)).trans hc_20
      have hc_49 : σ_34 288 = q_an G 2000 mk := (hf_29 288 (by decide)).trans hc_21
      have hc_50 : σ_34 289 = q_an G 6724 va := (hf_29 289 (by decide)).trans hc_22
      have hc_51 : σ_34 290 = q_an G 6724 sp := (hf_29 290 (by decide)).trans hc_23
      have hc_52 : σ_34 291 = q_an G 80 lp := (hf_29 291 (by decide)).trans hc_24
      have hc_53 : σ_34 292 = q_an G 600 f := (hf_29 292 (by decide)).trans hc_25
      have hc_54 : σ_34 293 = q_an G 300 ou := (hf_29 293 (by decide)).trans hc_26
      have hc_55 : σ_34 295 = q_dn G 1 oD := (hf_29 295 (by decide)).trans hc_27
      have hc_56 : σ_34 294 = q_ln G 1 (va_up oL 0 ((nI (s_li s1C true v1C)).toInt64)) := (hf_29 294 (by decide)).trans hc_2
      exact (Mhno s1C (by omega) (by omega) Chse).elim
    · skip
      refine (?_ : AJ G K Q (kc + 2) (ks + 12) false 296 1698 [some (.ref bS), some (.ref (q_h G + 0)), some (.ref (q_h G + 279)), some (.ref (q_h G + 294)), some (.ref (q_h G + 295)), some (.int (nI (i))), some (.int (nI (0))), none, none] [.int (nI (0))] σ_34)
      have hc_30 : σ_34 279 = o11 G (upd F 7 (nI (1))) := hc_30
      have hc_57 : σ_34 0 = o10 G (nI (il)) (z2) (z3) := (hf_31 0 (by decide)).trans hc_6
      have hc_58 : σ_34 1 = q_an G 600 f := (hf_31 1 (by decide)).trans hc_7
      have hc_59 : σ_34 23 = o5 G (23) (nI (lo)) := (hf_31 23 (by decide)).trans hc_8
      have hc_60 : σ_34 24 = q_an G 256 o := (hf_31 24 (by decide)).trans hc_9
      have hc_61 : σ_34 224 = q_rn G 2 2 (fun j => some (243 + 18 * j)) := (hf_31 224 (by decide)).trans hc_10
      have hc_62 : σ_34 225 = q_bn G 2 kp := (hf_31 225 (by decide)).trans hc_11
      have hc_63 : σ_34 280 = q_an G 265 g := (hf_31 280 (by decide)).trans hc_13
      have hc_64 : σ_34 281 = q_an G 265 wk := (hf_31 281 (by decide)).trans hc_14
      have hc_65 : σ_34 282 = q_an G 265 as := (hf_31 282 (by decide)).trans hc_15
      have hc_66 : σ_34 283 = q_an G 530 sh := (hf_31 283 (by decide)).trans hc_16
      have hc_67 : σ_34 284 = q_an G 2120 a := (hf_31 284 (by decide)).trans hc_17
      have hc_68 : σ_34 285 = q_bn G 1681 fb := (hf_31 285 (by decide)).trans hc_18
      have hc_69 : σ_34 286 = q_an G 1681 nv := (hf_31 286 (by decide)).trans hc_19
      have hc_70 : σ_34 287 = q_an G 1681 ns := (hf_31 287 (by decide)).trans hc_20
      have hc_71 : σ_34 288 = q_an G 2000 mk := (hf_31 288 (by decide)).trans hc_21
      have hc_72 : σ_34 289 = q_an G 6724 va := (hf_31 289 (by decide)).trans hc_22
      have hc_73 : σ_34 290 = q_an G 6724 sp := (hf_31 290 (by decide)).trans hc_23
      have hc_74 : σ_34 291 = q_an G 80 lp := (hf_31 291 (by decide)).trans hc_24
      have hc_75 : σ_34 292 = q_an G 600 f := (hf_31 292 (by decide)).trans hc_25
      have hc_76 : σ_34 293 = q_an G 300 ou := (hf_31 293 (by decide)).trans hc_26
      have hc_77 : σ_34 295 = q_dn G 1 oD := (hf_31 295 (by decide)).trans hc_27
      have hc_78 : σ_34 294 = q_ln G 1 (va_up oL 0 ((nI (s_li s1C true v1C)).toInt64)) := (hf_31 294 (by decide)).trans hc_2
      have e_s : s1C = s1M := q_nI_inj (by omega) (by omega) (Chse.symm.trans Mhse)
      subst e_s
      exact (Mhnn v1C (by omega) (by omega) Chve).elim
    · skip
      refine (?_ : AJ G K Q (kc + 2) (ks + 12) false 296 1698 [some (.ref bS), some (.ref (q_h G + 0)), some (.ref (q_h G + 279)), some (.ref (q_h G + 294)), some (.ref (q_h G + 295)), some (.int (nI (i))), some (.int (nI (0))), none, none] [.int (nI (s_li s1M true v1M))] σ_34)
      have hc_32 : σ_34 279 = o11 G (upd F 7 (nI (0))) := hc_32
      have hc_79 : σ_34 0 = o10 G (nI (il)) (z2) (z3) := (hf_33 0 (by decide)).trans hc_6
      have hc_80 : σ_34 1 = q_an G 600 f := (hf_33 1 (by decide)).trans hc_7
      have hc_81 : σ_34 23 = o5 G (23) (nI (lo)) := (hf_33 23 (by decide)).trans hc_8
      have hc_82 : σ_34 24 = q_an G 256 o := (hf_33 24 (by decide)).trans hc_9
      have hc_83 : σ_34 224 = q_rn G 2 2 (fun j => some (243 + 18 * j)) := (hf_33 224 (by decide)).trans hc_10
      have hc_84 : σ_34 225 = q_bn G 2 kp := (hf_33 225 (by decide)).trans hc_11
      have hc_85 : σ_34 280 = q_an G 265 g := (hf_33 280 (by decide)).trans hc_13
      have hc_86 : σ_34 281 = q_an G 265 wk := (hf_33 281 (by decide)).trans hc_14
      have hc_87 : σ_34 282 = q_an G 265 as := (hf_33 282 (by decide)).trans hc_15
      have hc_88 : σ_34 283 = q_an G 530 sh := (hf_33 283 (by decide)).trans hc_16
      have hc_89 : σ_34 284 = q_an G 2120 a := (hf_33 284 (by decide)).trans hc_17
      have hc_90 : σ_34 285 = q_bn G 1681 fb := (hf_33 285 (by decide)).trans hc_18
      have hc_91 : σ_34 286 = q_an G 1681 nv := (hf_33 286 (by decide)).trans hc_19
      have hc_92 : σ_34 287 = q_an G 1681 ns := (hf_33 287 (by decide)).trans hc_20
      have hc_93 : σ_34 288 = q_an G 2000 mk := (hf_33 288 (by decide)).trans hc_21
      have hc_94 : σ_34 289 = q_an G 6724 va := (hf_33 289 (by decide)).trans hc_22
      have hc_95 : σ_34 290 = q_an G 6724 sp := (hf_33 290 (by decide)).trans hc_23
      have hc_96 : σ_34 291 = q_an G 80 lp := (hf_33 291 (by decide)).trans hc_24
      have hc_97 : σ_34 292 = q_an G 600 f := (hf_33 292 (by decide)).trans hc_25
      have hc_98 : σ_34 293 = q_an G 300 ou := (hf_33 293 (by decide)).trans hc_26
      have hc_99 : σ_34 295 = q_dn G 1 oD := (hf_33 295 (by decide)).trans hc_27
      have hc_100 : σ_34 294 = q_ln G 1 (va_up oL 0 ((nI (s_li s1C true v1C)).toInt64)) := (hf_33 294 (by decide)).trans hc_2
      have e_s : s1C = s1M := q_nI_inj (by omega) (by omega) (Chse.symm.trans Mhse)
      subst e_s
      have e_v : v1C = v1M := q_nI_inj (by omega) (by omega) (Chve.symm.trans Mhve)
      subst e_v
      refine A_istore hg dL_law_1698 (by decide) (q_c1d rfl) ?_
      refine A_eq (ls2 := [some (.ref bS), some (.ref (q_h G + 0)), some (.ref (q_h G + 279)), some (.ref (q_h G + 294)), some (.ref (q_h G + 295)), some (.int (nI (i))), some (.int (nI (0))), some (.int (nI (s_li s1C true v1C))), none]) (st2 := []) (pc2 := 0) rfl rfl ?_
      refine A_aload_n hg dL_law_1700 rfl rfl ?_
      refine A_eV (kc2 := kc + 2) (ks2 := ks + 12) (As := []) (rest := []) hg lk_RL_170 in_X11_thrown se_X11_thrown rfl dL_law_1701 ⟨by decide, by decide⟩ rfl rfl (hfK 2 12 (by decide) (by decide)) hc_32 (by omega) rfl rfl (Nat.le_of_ble_eq_true rfl) (c_X11_thrown G false 296 σ_34 (upd F 7 (nI (0))) hc_32 (by omega)) ?_
      refine A_top (w := .int (nI (0))) (congrArg Value.int rfl) ?_
      refine A_iload hg dL_law_1704 rfl ?_
      refine A_icmp_eqN (tgt := 1711) hg dL_law_1706 (by decide) (by decide) (by decide) (fun c1706 => ?_) (fun c1706 => False.elim (by omega))
      refine A_iload hg dL_law_1711 rfl ?_
      refine A_if_neN (tgt := 1728) hg dL_law_1713 (by decide) (by decide) (fun c1713 => absurd (by decide) c1713) (fun c1713 => ?_)
      refine A_aload_n hg dL_law_1716 rfl rfl ?_
      refine A_iconst (v := (nI (0))) hg dL_law_1717 (by decide) ?_
      refine A_lald (j := 0) hg dL_law_1718 hc_100 (by omega) (by decide) (by decide) ?_
      refine A_top (w := .long ((nI (s_li s1C true v1C)).toInt64)) (congrArg Value.long iv_up0) ?_
      refine A_iload hg dL_law_1719 rfl ?_
      refine A_i2l (v := (nI (s_li s1C true v1C)).toInt64) hg dL_law_1721 rfl ?_
      refine A_lcmp hg dL_law_1722 ?_
      refine A_top (w := .int (nI 0)) (congrArg Value.int (lc_self _)) ?_
      refine A_if_eqN (tgt := 1728) hg dL_law_1723 (by decide) (by decide) (fun c1723 => ?_) (fun c1723 => absurd (by decide) c1723)
      refine A_goto (tgt := 3062) hg dL_law_1728 (by decide) ?_
      refine A_drop 6 ?_
      refine A_drop 7 ?_
      refine A_eq (ls2 := [some (.ref bS), some (.ref (q_h G + 0)), some (.ref (q_h G + 279)), some (.ref (q_h G + 294)), some (.ref (q_h G + 295)), some (.int (nI (i))), none, none, none]) (st2 := []) (pc2 := 0) rfl rfl ?_
      refine A_wide (kc2 := kc + 8) (ks2 := ks + 48) (by omega) (by omega) ?_
      exact hnxt _ (iv_mk il z2 z3 f lo o g nx m ps kp sn (upd F 7 (nI (0))) wk as sh a fb nv ns mk va sp lp mc z ss ou (va_up oL 0 ((nI (s_li s1C true v1C)).toInt64)) oD hc_79 hc_80 hc_81 hc_82 hc_83 hc_84 hc_32 hc_85 hc_86 hc_87 hc_88 hc_89 hc_90 hc_91 hc_92 hc_93 hc_94 hc_95 hc_96 hc_97 hc_98 hc_100 hc_99 (x_lj_e (fun i _ _ => ((hf_33 i (by omega)).trans (hf_3 i (by omega)))) hL) (x_gm_e (fun i _ _ => ((hf_33 i (by omega)).trans (hf_3 i (by omega)))) hG) (x_mx_e (fun i _ _ => ((hf_33 i (by omega)).trans (hf_3 i (by omega)))) hM) (x_hi_e (fun i _ _ => ((hf_33 i (by omega)).trans (hf_3 i (by omega)))) hHi) (x_oj_e (fun i _ _ => ((hf_33 i (by omega)).trans (hf_3 i (by omega)))) hO) (x_pj_e (fun i _ _ => ((hf_33 i (by omega)).trans (hf_3 i (by omega)))) hT) (iv_hn (fun i _ _ => ((hf_33 i (by omega)).trans (hf_3 i (by omega)))) hH) (iv_Sn (fun i _ _ => ((hf_33 i (by omega)).trans (hf_3 i (by omega)))) hSn) (iv_Kp (fun i _ _ => ((hf_33 i (by omega)).trans (hf_3 i (by omega)))) hKp) (by omega) hfb (by omega) hou hgd hps hk1 hkss hss hsn hF5 hF6 hF12 hF16 hF21 hF22 hF23 hF33 (by omega) hmk hTI hlo)
  · skip
    rw [he_4]
    refine (?_ : AJ G K Q (kc + 2) (ks + 12) false 296 1680 [some (.ref bS), some (.ref (q_h G + 0)), some (.ref (q_h G + 279)), some (.ref (q_h G + 294)), some (.ref (q_h G + 295)), some (.int (nI (i))), none, none, none] [.int (nI (1))] σ)
    refine A_istore hg dL_law_1680 (by decide) (q_c1d rfl) ?_
    refine A_eq (ls2 := [some (.ref bS), some (.ref (q_h G + 0)), some (.ref (q_h G + 279)), some (.ref (q_h G + 294)), some (.ref (q_h G + 295)), some (.int (nI (i))), some (.int (nI (1))), none, none]) (st2 := []) (pc2 := 0) rfl rfl ?_
    refine A_aload_n hg dL_law_1682 rfl rfl ?_
    refine A_aload_n hg dL_law_1683 rfl rfl ?_
    refine A_iload hg dL_law_1684 rfl ?_
    refine A_iconst (v := (nI (1))) hg dL_law_1686 (by decide) ?_
    refine A_iaddN hg dL_law_1687 ?_
    refine A_sld hg hX (i + 1) (by omega) dL_law_1688 ?_
    refine A_aload_n hg dL_law_1689 rfl rfl ?_
    refine A_iload hg dL_law_1690 rfl ?_
    refine A_iconst (v := (nI (2))) hg dL_law_1692 (by decide) ?_
    refine A_iaddN hg dL_law_1693 ?_
    refine A_sld hg hX (i + 2) (by omega) dL_law_1694 ?_
    refine A_hV (kc2 := kc + 2) (ks2 := ks + 12) (As := [.int (xs (i + 1)), .int (xs (i + 2))]) (rest := []) hg lk_RL_226 in_X11_goldenMany se_X11_goldenMany rfl dL_law_1695 ⟨by decide, by decide⟩ rfl rfl (hfK 2 12 (by decide) (by decide)) hv6 (by omega) rfl rfl (Nat.le_of_ble_eq_true rfl) (c_X11_goldenMany G false 296 σ F (xs (i + 1)) (xs (i + 2)) hv6 (by omega)) ?_
    rintro _ σ_107 (⟨rfl, Mhno, hc_101, hf_102⟩ | ⟨s1M, rfl, Mhse, Mhsa, Mhsl, Mhnn, hc_103, hf_104⟩ | ⟨s1M, v1M, rfl, Mhse, Mhsa, Mhsl, Mhve, Mhva, Mhvl, hc_105, hf_106⟩)
    · skip
      refine (?_ : AJ G K Q (kc + 2) (ks + 12) false 296 1698 [some (.ref bS), some (.ref (q_h G + 0)), some (.ref (q_h G + 279)), some (.ref (q_h G + 294)), some (.ref (q_h G + 295)), some (.int (nI (i))), some (.int (nI (1))), none, none] [.int (nI (0))] σ_107)
      have hc_101 : σ_107 279 = o11 G (upd F 7 (nI (1))) := hc_101
      have hc_108 : σ_107 0 = o10 G (nI (il)) (z2) (z3) := (hf_102 0 (by decide)).trans hv0
      have hc_109 : σ_107 1 = q_an G 600 f := (hf_102 1 (by decide)).trans hv1
      have hc_110 : σ_107 23 = o5 G (23) (nI (lo)) := (hf_102 23 (by decide)).trans hv2
      have hc_111 : σ_107 24 = q_an G 256 o := (hf_102 24 (by decide)).trans hv3
      have hc_112 : σ_107 224 = q_rn G 2 2 (fun j => some (243 + 18 * j)) := (hf_102 224 (by decide)).trans hv4
      have hc_113 : σ_107 225 = q_bn G 2 kp := (hf_102 225 (by decide)).trans hv5
      have hc_114 : σ_107 280 = q_an G 265 g := (hf_102 280 (by decide)).trans hv7
      have hc_115 : σ_107 281 = q_an G 265 wk := (hf_102 281 (by decide)).trans hv8
      have hc_116 : σ_107 282 = q_an G 265 as := (hf_102 282 (by decide)).trans hv9
      have hc_117 : σ_107 283 = q_an G 530 sh := (hf_102 283 (by decide)).trans hv10
      have hc_118 : σ_107 284 = q_an G 2120 a := (hf_102 284 (by decide)).trans hv11
      have hc_119 : σ_107 285 = q_bn G 1681 fb := (hf_102 285 (by decide)).trans hv12
      have hc_120 : σ_107 286 = q_an G 1681 nv := (hf_102 286 (by decide)).trans hv13
      have hc_121 : σ_107 287 = q_an G 1681 ns := (hf_102 287 (by decide)).trans hv14
      have hc_122 : σ_107 288 = q_an G 2000 mk := (hf_102 288 (by decide)).trans hv15
      have hc_123 : σ_107 289 = q_an G 6724 va := (hf_102 289 (by decide)).trans hv16
      have hc_124 : σ_107 290 = q_an G 6724 sp := (hf_102 290 (by decide)).trans hv17
      have hc_125 : σ_107 291 = q_an G 80 lp := (hf_102 291 (by decide)).trans hv18
      have hc_126 : σ_107 292 = q_an G 600 f := (hf_102 292 (by decide)).trans hv19
      have hc_127 : σ_107 293 = q_an G 300 ou := (hf_102 293 (by decide)).trans hv20
      have hc_128 : σ_107 294 = q_ln G 1 oL := (hf_102 294 (by decide)).trans hv21
      have hc_129 : σ_107 295 = q_dn G 1 oD := (hf_102 295 (by decide)).trans hv22
      refine A_istore hg dL_law_1698 (by decide) (q_c1d rfl) ?_
      refine A_eq (ls2 := [some (.ref bS), some (.ref (q_h G + 0)), some (.ref (q_h G + 279)), some (.ref (q_h G + 294)), some (.ref (q_h G + 295)), some (.int (nI (i))), some (.int (nI (1))), some (.int (nI (0))), none]) (st2 := []) (pc2 := 0) rfl rfl ?_
      refine A_aload_n hg dL_law_1700 rfl rfl ?_
      refine A_eV (kc2 := kc + 2) (ks2 := ks + 12) (As := []) (rest := []) hg lk_RL_170 in_X11_thrown se_X11_thrown rfl dL_law_1701 ⟨by decide, by decide⟩ rfl rfl (hfK 2 12 (by decide) (by decide)) hc_101 (by omega) rfl rfl (Nat.le_of_ble_eq_true rfl) (c_X11_thrown G false 296 σ_107 (upd F 7 (nI (1))) hc_101 (by omega)) ?_
      refine A_top (w := .int (nI (1))) (congrArg Value.int rfl) ?_
      refine A_iload hg dL_law_1704 rfl ?_
      refine A_icmp_eqN (tgt := 1711) hg dL_law_1706 (by decide) (by decide) (by decide) (fun c1706 => ?_) (fun c1706 => False.elim (by omega))
      refine A_iload hg dL_law_1711 rfl ?_
      refine A_if_neN (tgt := 1728) hg dL_law_1713 (by decide) (by decide) (fun c1713 => ?_) (fun c1713 => absurd c1713 (by decide))
      refine A_goto (tgt := 3062) hg dL_law_1728 (by decide) ?_
      refine A_drop 6 ?_
      refine A_drop 7 ?_
      refine A_eq (ls2 := [some (.ref bS), some (.ref (q_h G + 0)), some (.ref (q_h G + 279)), some (.ref (q_h G + 294)), some (.ref (q_h G + 295)), some (.int (nI (i))), none, none, none]) (st2 := []) (pc2 := 0) rfl rfl ?_
      refine A_wide (kc2 := kc + 8) (ks2 := ks + 48) (by omega) (by omega) ?_
      exact hnxt _ (iv_mk il z2 z3 f lo o g nx m ps kp sn (upd F 7 (nI (1))) wk as sh a fb nv ns mk va sp lp mc z ss ou oL oD hc_108 hc_109 hc_110 hc_111 hc_112 hc_113 hc_101 hc_114 hc_115 hc_116 hc_117 hc_118 hc_119 hc_120 hc_121 hc_122 hc_123 hc_124 hc_125 hc_126 hc_127 hc_128 hc_129 (x_lj_e (fun i _ _ => (hf_102 i (by omega))) hL) (x_gm_e (fun i _ _ => (hf_102 i (by omega))) hG) (x_mx_e (fun i _ _ => (hf_102 i (by omega))) hM) (x_hi_e (fun i _ _ => (hf_102 i (by omega))) hHi) (x_oj_e (fun i _ _ => (hf_102 i (by omega))) hO) (x_pj_e (fun i _ _ => (hf_102 i (by omega))) hT) (iv_hn (fun i _ _ => (hf_102 i (by omega))) hH) (iv_Sn (fun i _ _ => (hf_102 i (by omega))) hSn) (iv_Kp (fun i _ _ => (hf_102 i (by omega))) hKp) (by omega) hfb (by omega) hou hgd hps hk1 hkss hss hsn hF5 hF6 hF12 hF16 hF21 hF22 hF23 hF33 (by omega) hmk hTI hlo)
    · skip
      refine (?_ : AJ G K Q (kc + 2) (ks + 12) false 296 1698 [some (.ref bS), some (.ref (q_h G + 0)), some (.ref (q_h G + 279)), some (.ref (q_h G + 294)), some (.ref (q_h G + 295)), some (.int (nI (i))), some (.int (nI (1))), none, none] [.int (nI (0))] σ_107)
      have hc_103 : σ_107 279 = o11 G (upd F 7 (nI (1))) := hc_103
      have hc_130 : σ_107 0 = o10 G (nI (il)) (z2) (z3) := (hf_104 0 (by decide)).trans hv0
      have hc_131 : σ_107 1 = q_an G 600 f := (hf_104 1 (by decide)).trans hv1
      have hc_132 : σ_107 23 = o5 G (23) (nI (lo)) := (hf_104 23 (by decide)).trans hv2
      have hc_133 : σ_107 24 = q_an G 256 o := (hf_104 24 (by decide)).trans hv3
      have hc_134 : σ_107 224 = q_rn G 2 2 (fun j => some (243 + 18 * j)) := (hf_104 224 (by decide)).trans hv4
      have hc_135 : σ_107 225 = q_bn G 2 kp := (hf_104 225 (by decide)).trans hv5
      have hc_136 : σ_107 280 = q_an G 265 g := (hf_104 280 (by decide)).trans hv7
      have hc_137 : σ_107 281 = q_an G 265 wk := (hf_104 281 (by decide)).trans hv8
      have hc_138 : σ_107 282 = q_an G 265 as := (hf_104 282 (by decide)).trans hv9
      have hc_139 : σ_107 283 = q_an G 530 sh := (hf_104 283 (by decide)).trans hv10
      have hc_140 : σ_107 284 = q_an G 2120 a := (hf_104 284 (by decide)).trans hv11
      have hc_141 : σ_107 285 = q_bn G 1681 fb := (hf_104 285 (by decide)).trans hv12
      have hc_142 : σ_107 286 = q_an G 1681 nv := (hf_104 286 (by decide)).trans hv13
      have hc_143 : σ_107 287 = q_an G 1681 ns := (hf_104 287 (by decide)).trans hv14
      have hc_144 : σ_107 288 = q_an G 2000 mk := (hf_104 288 (by decide)).trans hv15
      have hc_145 : σ_107 289 = q_an G 6724 va := (hf_104 289 (by decide)).trans hv16
      have hc_146 : σ_107 290 = q_an G 6724 sp := (hf_104 290 (by decide)).trans hv17
      have hc_147 : σ_107 291 = q_an G 80 lp := (hf_104 291 (by decide)).trans hv18
      have hc_148 : σ_107 292 = q_an G 600 f := (hf_104 292 (by decide)).trans hv19
      have hc_149 : σ_107 293 = q_an G 300 ou := (hf_104 293 (by decide)).trans hv20
      have hc_150 : σ_107 294 = q_ln G 1 oL := (hf_104 294 (by decide)).trans hv21
      have hc_151 : σ_107 295 = q_dn G 1 oD := (hf_104 295 (by decide)).trans hv22
      exact (Chxx s1M (by omega) (by omega) Mhse).elim
    · skip
      refine (?_ : AJ G K Q (kc + 2) (ks + 12) false 296 1698 [some (.ref bS), some (.ref (q_h G + 0)), some (.ref (q_h G + 279)), some (.ref (q_h G + 294)), some (.ref (q_h G + 295)), some (.int (nI (i))), some (.int (nI (1))), none, none] [.int (nI (s_li s1M true v1M))] σ_107)
      have hc_105 : σ_107 279 = o11 G (upd F 7 (nI (0))) := hc_105
      have hc_152 : σ_107 0 = o10 G (nI (il)) (z2) (z3) := (hf_106 0 (by decide)).trans hv0
      have hc_153 : σ_107 1 = q_an G 600 f := (hf_106 1 (by decide)).trans hv1
      have hc_154 : σ_107 23 = o5 G (23) (nI (lo)) := (hf_106 23 (by decide)).trans hv2
      have hc_155 : σ_107 24 = q_an G 256 o := (hf_106 24 (by decide)).trans hv3
      have hc_156 : σ_107 224 = q_rn G 2 2 (fun j => some (243 + 18 * j)) := (hf_106 224 (by decide)).trans hv4
      have hc_157 : σ_107 225 = q_bn G 2 kp := (hf_106 225 (by decide)).trans hv5
      have hc_158 : σ_107 280 = q_an G 265 g := (hf_106 280 (by decide)).trans hv7
      have hc_159 : σ_107 281 = q_an G 265 wk := (hf_106 281 (by decide)).trans hv8
      have hc_160 : σ_107 282 = q_an G 265 as := (hf_106 282 (by decide)).trans hv9
      have hc_161 : σ_107 283 = q_an G 530 sh := (hf_106 283 (by decide)).trans hv10
      have hc_162 : σ_107 284 = q_an G 2120 a := (hf_106 284 (by decide)).trans hv11
      have hc_163 : σ_107 285 = q_bn G 1681 fb := (hf_106 285 (by decide)).trans hv12
      have hc_164 : σ_107 286 = q_an G 1681 nv := (hf_106 286 (by decide)).trans hv13
      have hc_165 : σ_107 287 = q_an G 1681 ns := (hf_106 287 (by decide)).trans hv14
      have hc_166 : σ_107 288 = q_an G 2000 mk := (hf_106 288 (by decide)).trans hv15
      have hc_167 : σ_107 289 = q_an G 6724 va := (hf_106 289 (by decide)).trans hv16
      have hc_168 : σ_107 290 = q_an G 6724 sp := (hf_106 290 (by decide)).trans hv17
      have hc_169 : σ_107 291 = q_an G 80 lp := (hf_106 291 (by decide)).trans hv18
      have hc_170 : σ_107 292 = q_an G 600 f := (hf_106 292 (by decide)).trans hv19
      have hc_171 : σ_107 293 = q_an G 300 ou := (hf_106 293 (by decide)).trans hv20
      have hc_172 : σ_107 294 = q_ln G 1 oL := (hf_106 294 (by decide)).trans hv21
      have hc_173 : σ_107 295 = q_dn G 1 oD := (hf_106 295 (by decide)).trans hv22
      exact (Chxx s1M (by omega) (by omega) Mhse).elim
  · skip
    rw [he_5]
    refine (?_ : AJ G K Q (kc + 2) (ks + 12) false 296 1680 [some (.ref bS), some (.ref (q_h G + 0)), some (.ref (q_h G + 279)), some (.ref (q_h G + 294)), some (.ref (q_h G + 295)), some (.int (nI (i))), none, none, none] [.int (nI (1))] σ)
    obtain ⟨s1C, Chx0, Chx1, Chx2, Chx3⟩ := Chxx
    refine A_istore hg dL_law_1680 (by decide) (q_c1d rfl) ?_
    refine A_eq (ls2 := [some (.ref bS), some (.ref (q_h G + 0)), some (.ref (q_h G + 279)), some (.ref (q_h G + 294)), some (.ref (q_h G + 295)), some (.int (nI (i))), some (.int (nI (1))), none, none]) (st2 := []) (pc2 := 0) rfl rfl ?_
    refine A_aload_n hg dL_law_1682 rfl rfl ?_
    refine A_aload_n hg dL_law_1683 rfl rfl ?_
    refine A_iload hg dL_law_1684 rfl ?_
    refine A_iconst (v := (nI (1))) hg dL_law_1686 (by decide) ?_
    refine A_iaddN hg dL_law_1687 ?_
    refine A_sld hg hX (i + 1) (by omega) dL_law_1688 ?_
    refine A_aload_n hg dL_law_1689 rfl rfl ?_
    refine A_iload hg dL_law_1690 rfl ?_
    refine A_iconst (v := (nI (2))) hg dL_law_1692 (by decide) ?_
    refine A_iaddN hg dL_law_1693 ?_
    refine A_sld hg hX (i + 2) (by omega) dL_law_1694 ?_
    refine A_hV (kc2 := kc + 2) (ks2 := ks + 12) (As := [.int (xs (i + 1)), .int (xs (i + 2))]) (rest := []) hg lk_RL_226 in_X11_goldenMany se_X11_goldenMany rfl dL_law_1695 ⟨by decide, by decide⟩ rfl rfl (hfK 2 12 (by decide) (by decide)) hv6 (by omega) rfl rfl (Nat.le_of_ble_eq_true rfl) (c_X11_goldenMany G false 296 σ F (xs (i + 1)) (xs (i + 2)) hv6 (by omega)) ?_
    rintro _ σ_180 (⟨rfl, Mhno, hc_174, hf_175⟩ | ⟨s1M, rfl, Mhse, Mhsa, Mhsl, Mhnn, hc_176, hf_177⟩ | ⟨s1M, v1M, rfl, Mhse, Mhsa, Mhsl, Mhve, Mhva, Mhvl, hc_178, hf_179⟩)
    · skip
      refine (?_ : AJ G K Q (kc + 2) (ks + 12) false 296 1698 [some (.ref bS), some (.ref (q_h G + 0)), some (.ref (q_h G + 279)), some (.ref (q_h G + 294)), some (.ref (q_h G + 295)), some (.int (nI (i))), some (.int (nI (1))), none, none] [.int (nI (0))] σ_180)
      have hc_174 : σ_180 279 = o11 G (upd F 7 (nI (1))) := hc_174
      have hc_181 : σ_180 0 = o10 G (nI (il)) (z2) (z3) := (hf_175 0 (by decide)).trans hv0
      have hc_182 : σ_180 1 = q_an G 600 f := (hf_175 1 (by decide)).trans hv1
      have hc_183 : σ_180 23 = o5 G (23) (nI (lo)) := (hf_175 23 (by decide)).trans hv2
      have hc_184 : σ_180 24 = q_an G 256 o := (hf_175 24 (by decide)).trans hv3
      have hc_185 : σ_180 224 = q_rn G 2 2 (fun j => some (243 + 18 * j)) := (hf_175 224 (by decide)).trans hv4
      have hc_186 : σ_180 225 = q_bn G 2 kp := (hf_175 225 (by decide)).trans hv5
      have hc_187 : σ_180 280 = q_an G 265 g := (hf_175 280 (by decide)).trans hv7
      have hc_188 : σ_180 281 = q_an G 265 wk := (hf_175 281 (by decide)).trans hv8
      have hc_189 : σ_180 282 = q_an G 265 as := (hf_175 282 (by decide)).trans hv9
      have hc_190 : σ_180 283 = q_an G 530 sh := (hf_175 283 (by decide)).trans hv10
      have hc_191 : σ_180 284 = q_an G 2120 a := (hf_175 284 (by decide)).trans hv11
      have hc_192 : σ_180 285 = q_bn G 1681 fb := (hf_175 285 (by decide)).trans hv12
      have hc_193 : σ_180 286 = q_an G 1681 nv := (hf_175 286 (by decide)).trans hv13
      have hc_194 : σ_180 287 = q_an G 1681 ns := (hf_175 287 (by decide)).trans hv14
      have hc_195 : σ_180 288 = q_an G 2000 mk := (hf_175 288 (by decide)).trans hv15
      have hc_196 : σ_180 289 = q_an G 6724 va := (hf_175 289 (by decide)).trans hv16
      have hc_197 : σ_180 290 = q_an G 6724 sp := (hf_175 290 (by decide)).trans hv17
      have hc_198 : σ_180 291 = q_an G 80 lp := (hf_175 291 (by decide)).trans hv18
      have hc_199 : σ_180 292 = q_an G 600 f := (hf_175 292 (by decide)).trans hv19
      have hc_200 : σ_180 293 = q_an G 300 ou := (hf_175 293 (by decide)).trans hv20
      have hc_201 : σ_180 294 = q_ln G 1 oL := (hf_175 294 (by decide)).trans hv21
      have hc_202 : σ_180 295 = q_dn G 1 oD := (hf_175 295 (by decide)).trans hv22
      exact (Mhno s1C (by omega) (by omega) Chx0).elim
    · skip
      refine (?_ : AJ G K Q (kc + 2) (ks + 12) false 296 1698 [some (.ref bS), some (.ref (q_h G + 0)), some (.ref (q_h G + 279)), some (.ref (q_h G + 294)), some (.ref (q_h G + 295)), some (.int (nI (i))), some (.int (nI (1))), none, none] [.int (nI (0))] σ_180)
      have hc_176 : σ_180 279 = o11 G (upd F 7 (nI (1))) := hc_176
      have hc_203 : σ_180 0 = o10 G (nI (il)) (z2) (z3) := (hf_177 0 (by decide)).trans hv0
      have hc_204 : σ_180 1 = q_an G 600 f := (hf_177 1 (by decide)).trans hv1
      have hc_205 : σ_180 23 = o5 G (23) (nI (lo)) := (hf_177 23 (by decide)).trans hv2
      have hc_206 : σ_180 24 = q_an G 256 o := (hf_177 24 (by decide)).trans hv3
      have hc_207 : σ_180 224 = q_rn G 2 2 (fun j => some (243 + 18 * j)) := (hf_177 224 (by decide)).trans hv4
      have hc_208 : σ_180 225 = q_bn G 2 kp := (hf_177 225 (by decide)).trans hv5
      have hc_209 : σ_180 280 = q_an G 265 g := (hf_177 280 (by decide)).trans hv7
      have hc_210 : σ_180 281 = q_an G 265 wk := (hf_177 281 (by decide)).trans hv8
      have hc_211 : σ_180 282 = q_an G 265 as := (hf_177 282 (by decide)).trans hv9
      have hc_212 : σ_180 283 = q_an G 530 sh := (hf_177 283 (by decide)).trans hv10
      have hc_213 : σ_180 284 = q_an G 2120 a := (hf_177 284 (by decide)).trans hv11
      have hc_214 : σ_180 285 = q_bn G 1681 fb := (hf_177 285 (by decide)).trans hv12
      have hc_215 : σ_180 286 = q_an G 1681 nv := (hf_177 286 (by decide)).trans hv13
      have hc_216 : σ_180 287 = q_an G 1681 ns := (hf_177 287 (by decide)).trans hv14
      have hc_217 : σ_180 288 = q_an G 2000 mk := (hf_177 288 (by decide)).trans hv15
      have hc_218 : σ_180 289 = q_an G 6724 va := (hf_177 289 (by decide)).trans hv16
      have hc_219 : σ_180 290 = q_an G 6724 sp := (hf_177 290 (by decide)).trans hv17
      have hc_220 : σ_180 291 = q_an G 80 lp := (hf_177 291 (by decide)).trans hv18
      have hc_221 : σ_180 292 = q_an G 600 f := (hf_177 292 (by decide)).trans hv19
      have hc_222 : σ_180 293 = q_an G 300 ou := (hf_177 293 (by decide)).trans hv20
      have hc_223 : σ_180 294 = q_ln G 1 oL := (hf_177 294 (by decide)).trans hv21
      have hc_224 : σ_180 295 = q_dn G 1 oD := (hf_177 295 (by decide)).trans hv22
      have e_s : s1C = s1M := q_nI_inj (by omega) (by omega) (Chx0.symm.trans Mhse)
      subst e_s
      refine A_istore hg dL_law_1698 (by decide) (q_c1d rfl) ?_
      refine A_eq (ls2 := [some (.ref bS), some (.ref (q_h G + 0)), some (.ref (q_h G + 279)), some (.ref (q_h G + 294)), some (.ref (q_h G + 295)), some (.int (nI (i))), some (.int (nI (1))), some (.int (nI (0))), none]) (st2 := []) (pc2 := 0) rfl rfl ?_
      refine A_aload_n hg dL_law_1700 rfl rfl ?_
      refine A_eV (kc2 := kc + 2) (ks2 := ks + 12) (As := []) (rest := []) hg lk_RL_170 in_X11_thrown se_X11_thrown rfl dL_law_1701 ⟨by decide, by decide⟩ rfl rfl (hfK 2 12 (by decide) (by decide)) hc_176 (by omega) rfl rfl (Nat.le_of_ble_eq_true rfl) (c_X11_thrown G false 296 σ_180 (upd F 7 (nI (1))) hc_176 (by omega)) ?_
      refine A_top (w := .int (nI (1))) (congrArg Value.int rfl) ?_
      refine A_iload hg dL_law_1704 rfl ?_
      refine A_icmp_eqN (tgt := 1711) hg dL_law_1706 (by decide) (by decide) (by decide) (fun c1706 => ?_) (fun c1706 => False.elim (by omega))
      refine A_iload hg dL_law_1711 rfl ?_
      refine A_if_neN (tgt := 1728) hg dL_law_1713 (by decide) (by decide) (fun c1713 => ?_) (fun c1713 => absurd c1713 (by decide))
      refine A_goto (tgt := 3062) hg dL_law_1728 (by decide) ?_
      refine A_drop 6 ?_
      refine A_drop 7 ?_
      refine A_eq (ls2 := [some (.ref bS), some (.ref (q_h G + 0)), some (.ref (q_h G + 279)), some (.ref (q_h G + 294)), some (.ref (q_h G + 295)), some (.int (nI (i))), none, none, none]) (st2 := []) (pc2 := 0) rfl rfl ?_
      refine A_wide (kc2 := kc + 8) (ks2 := ks + 48) (by omega) (by omega) ?_
      exact hnxt _ (iv_mk il z2 z3 f lo o g nx m ps kp sn (upd F 7 (nI (1))) wk as sh a fb nv ns mk va sp lp mc z ss ou oL oD hc_203 hc_204 hc_205 hc_206 hc_207 hc_208 hc_176 hc_209 hc_210 hc_211 hc_212 hc_213 hc_214 hc_215 hc_216 hc_217 hc_218 hc_219 hc_220 hc_221 hc_222 hc_223 hc_224 (x_lj_e (fun i _ _ => (hf_177 i (by omega))) hL) (x_gm_e (fun i _ _ => (hf_177 i (by omega))) hG) (x_mx_e (fun i _ _ => (hf_177 i (by omega))) hM) (x_hi_e (fun i _ _ => (hf_177 i (by omega))) hHi) (x_oj_e (fun i _ _ => (hf_177 i (by omega))) hO) (x_pj_e (fun i _ _ => (hf_177 i (by omega))) hT) (iv_hn (fun i _ _ => (hf_177 i (by omega))) hH) (iv_Sn (fun i _ _ => (hf_177 i (by omega))) hSn) (iv_Kp (fun i _ _ => (hf_177 i (by omega))) hKp) (by omega) hfb (by omega) hou hgd hps hk1 hkss hss hsn hF5 hF6 hF12 hF16 hF21 hF22 hF23 hF33 (by omega) hmk hTI hlo)
    · skip
      refine (?_ : AJ G K Q (kc + 2) (ks + 12) false 296 1698 [some (.ref bS), some (.ref (q_h G + 0)), some (.ref (q_h G + 279)), some (.ref (q_h G + 294)), some (.ref (q_h G + 295)), some (.int (nI (i))), some (.int (nI (1))), none, none] [.int (nI (s_li s1M true v1M))] σ_180)
      have hc_178 : σ_180 279 = o11 G (upd F 7 (nI (0))) := hc_178
      have hc_225 : σ_180 0 = o10 G (nI (il)) (z2) (z3) := (hf_179 0 (by decide)).trans hv0
      have hc_226 : σ_180 1 = q_an G 600 f := (hf_179 1 (by decide)).trans hv1
      have hc_227 : σ_180 23 = o5 G (23) (nI (lo)) := (hf_179 23 (by decide)).trans hv2
      have hc_228 : σ_180 24 = q_an G 256 o := (hf_179 24 (by decide)).trans hv3
      have hc_229 : σ_180 224 = q_rn G 2 2 (fun j => some (243 + 18 * j)) := (hf_179 224 (by decide)).trans hv4
      have hc_230 : σ_180 225 = q_bn G 2 kp := (hf_179 225 (by decide)).trans hv5
      have hc_231 : σ_180 280 = q_an G 265 g := (hf_179 280 (by decide)).trans hv7
      have hc_232 : σ_180 281 = q_an G 265 wk := (hf_179 281 (by decide)).trans hv8
      have hc_233 : σ_180 282 = q_an G 265 as := (hf_179 282 (by decide)).trans hv9
      have hc_234 : σ_180 283 = q_an G 530 sh := (hf_179 283 (by decide)).trans hv10
      have hc_235 : σ_180 284 = q_an G 2120 a := (hf_179 284 (by decide)).trans hv11
      have hc_236 : σ_180 285 = q_bn G 1681 fb := (hf_179 285 (by decide)).trans hv12
      have hc_237 : σ_180 286 = q_an G 1681 nv := (hf_179 286 (by decide)).trans hv13
      have hc_238 : σ_180 287 = q_an G 1681 ns := (hf_179 287 (by decide)).trans hv14
      have hc_239 : σ_180 288 = q_an G 2000 mk := (hf_179 288 (by decide)).trans hv15
      have hc_240 : σ_180 289 = q_an G 6724 va := (hf_179 289 (by decide)).trans hv16
      have hc_241 : σ_180 290 = q_an G 6724 sp := (hf_179 290 (by decide)).trans hv17
      have hc_242 : σ_180 291 = q_an G 80 lp := (hf_179 291 (by decide)).trans hv18
      have hc_243 : σ_180 292 = q_an G 600 f := (hf_179 292 (by decide)).trans hv19
      have hc_244 : σ_180 293 = q_an G 300 ou := (hf_179 293 (by decide)).trans hv20
      have hc_245 : σ_180 294 = q_ln G 1 oL := (hf_179 294 (by decide)).trans hv21
      have hc_246 : σ_180 295 = q_dn G 1 oD := (hf_179 295 (by decide)).trans hv22
      have e_s : s1C = s1M := q_nI_inj (by omega) (by omega) (Chx0.symm.trans Mhse)
      subst e_s
      exact (Chx3 v1M (by omega) (by omega) Mhve).elim
set_option maxRecDepth 100000 in
set_option maxHeartbeats 4000000 in
theorem law_c23 (G : GL) (K : KC) (Q : State → Prop) (hh : List (Nat × Nat × Nat × Nat)) (hg : Gd G K RL code 9 ret room_1 hh) (bS L : Nat) (xs : Nat → Int32) (hX : q_scr G K bS L xs) (i kc ks J : Nat) (hi : i + 5 < L) (hL31 : L < 2 ^ 31) (hkc : kc + 8 ≤ 601024) (hks : ks + 48 ≤ 7293034) (σ : Nat → va_E) (hI : iv G σ J) (hJ : J < 512) (hfd : q_fdn) (hdd : q_ddn) (hf2 : q_f2n) (hds : q_dcs) (hnxt : ∀ σ9 : Nat → va_E, iv G σ9 (J + 1) → AJ G K Q (kc + 8) (ks + 48) false 296 3062 [some (.ref bS), some (.ref (q_h G + 0)), some (.ref (q_h G + 279)), some (.ref (q_h G + 294)), some (.ref (q_h G + 295)), some (.int (nI (i))), none, none, none] [] σ9) : AJ G K Q kc ks false 296 1731 [some (.ref bS), some (.ref (q_h G + 0)), some (.ref (q_h G + 279)), some (.ref (q_h G + 294)), some (.ref (q_h G + 295)), some (.int (nI (i))), none, none, none] [] σ := by
  refine iv_el hI ?_
  intro il z2 z3 f lo o g nx m ps kp sn F wk as sh a fb nv ns mk va sp lp mc z ss ou oL oD
  intro hv0 hv1 hv2 hv3 hv4 hv5 hv6 hv7 hv8 hv9 hv10 hv11 hv12 hv13 hv14 hv15 hv16 hv17 hv18 hv19 hv20 hv21 hv22
  intro hL hG hM hHi hO hT hH hSn hKp
  intro hil hfb hlo2 hou hgd hps hk1 hkss hss hsn hF5 hF6 hF12 hF16 hF21 hF22 hF23 hF33 hmc hmk hTI hlo
  have hfK : ∀ a b : Nat, a ≤ 8 → b ≤ 48 → kc + a ≤ room_1.cells ∧ ks + b ≤ room_1.slots := fun a b h1 h2 => ⟨by show kc + a ≤ 601024; omega, by show ks + b ≤ 7293034; omega⟩
  have hg9 := iv_g hG
  obtain ⟨hnx8, hm8, hc78⟩ := iv_hi hHi
  have hbb := iv_byte (m := il) hfb
  have hg90 := hg9.1
  have hg96 := hg9.2.2.2.2.1
  have hnp8 := s_np_le hg9
  refine A_aload_n hg dL_law_1731 rfl rfl ?_
  refine A_aload_n hg dL_law_1732 rfl rfl ?_
  refine A_iload hg dL_law_1733 rfl ?_
  refine A_iconst (v := (nI (1))) hg dL_law_1735 (by decide) ?_
  refine A_iaddN hg dL_law_1736 ?_
  refine A_sld hg hX (i + 1) (by omega) dL_law_1737 ?_
  refine A_aload_n hg dL_law_1738 rfl rfl ?_
  refine A_iload hg dL_law_1739 rfl ?_
  refine A_iconst (v := (nI (2))) hg dL_law_1741 (by decide) ?_
  refine A_iaddN hg dL_law_1742 ?_
  refine A_sld hg hX (i + 2) (by omega) dL_law_1743 ?_
  refine A_aload_n hg dL_law_1744 rfl rfl ?_
  refine A_callSH (As := [.ref (q_h G + 0), .int (xs (i + 1)), .int (xs (i + 2)), .ref (q_h G + 294)]) (rest := []) hg lkH_227 stH_L_summand dL_law_1745 ⟨by decide, by decide⟩ (hfK 1 6 (by decide) (by decide)) rfl rfl (Nat.le_of_ble_eq_true rfl) (c_L_summand G 296 σ (nI (il)) z2 z3 (xs (i + 1)) (xs (i + 2)) oL hv0 hv21 (by omega) (by omega)) ?_
  rintro _ σ_1 (⟨v1C, x1C, rfl, Chve, Chva, Chvl, Chxe, Chxl, hc_2, hf_3⟩ | ⟨v1C, rfl, Chve, Chva, Chvl, Chxn, hc_4, hf_5⟩ | ⟨rfl, Chxx, he_6⟩)
  · skip
    refine (?_ : AJ G K Q (kc + 1) (ks + 6) false 296 1748 [some (.ref bS), some (.ref (q_h G + 0)), some (.ref (q_h G + 279)), some (.ref (q_h G + 294)), some (.ref (q_h G + 295)), some (.int (nI (i))), none, none, none] [.int (nI (0))] σ_1)
    have hc_7 : σ_1 0 = o10 G (nI (il)) (z2) (z3) := (hf_3 0 (by decide)).trans hv0
    have hc_8 : σ_1 1 = q_an G 600 f := (hf_3 1 (by decide)).trans hv1
    have hc_9 : σ_1 23 = o5 G (23) (nI (lo)) := (hf_3 23 (by decide)).trans hv2
    have hc_10 : σ_1 24 = q_an G 256 o := (hf_3 24 (by decide)).trans hv3
    have hc_11 : σ_1 224 = q_rn G 2 2 (fun j => some (243 + 18 * j)) := (hf_3 224 (by decide)).trans hv4
    have hc_12 : σ_1 225 = q_bn G 2 kp := (hf_3 225 (by decide)).trans hv5
    have hc_13 : σ_1 279 = o11 G F := (hf_3 279 (by decide)).trans hv6
    have hc_14 : σ_1 280 = q_an G 265 g := (hf_3 280 (by decide)).trans hv7
    have hc_15 : σ_1 281 = q_an G 265 wk := (hf_3 281 (by decide)).trans hv8
    have hc_16 : σ_1 282 = q_an G 265 as := (hf_3 282 (by decide)).trans hv9
    have hc_17 : σ_1 283 = q_an G 530 sh := (hf_3 283 (by decide)).trans hv10
    have hc_18 : σ_1 284 = q_an G 2120 a := (hf_3 284 (by decide)).trans hv11
    have hc_19 : σ_1 285 = q_bn G 1681 fb := (hf_3 285 (by decide)).trans hv12
    have hc_20 : σ_1 286 = q_an G 1681 nv := (hf_3 286 (by decide)).trans hv13
    have hc_21 : σ_1 287 = q_an G 1681 ns := (hf_3 287 (by decide)).trans hv14
    have hc_22 : σ_1 288 = q_an G 2000 mk := (hf_3 288 (by decide)).trans hv15
    have hc_23 : σ_1 289 = q_an G 6724 va := (hf_3 289 (by decide)).trans hv16
    have hc_24 : σ_1 290 = q_an G 6724 sp := (hf_3 290 (by decide)).trans hv17
    have hc_25 : σ_1 291 = q_an G 80 lp := (hf_3 291 (by decide)).trans hv18
    have hc_26 : σ_1 292 = q_an G 600 f := (hf_3 292 (by decide)).trans hv19
    have hc_27 : σ_1 293 = q_an G 300 ou := (hf_3 293 (by decide)).trans hv20
    have hc_28 : σ_1 295 = q_dn G 1 oD := (hf_3 295 (by decide)).trans hv22
    refine A_istore hg dL_law_1748 (by decide) (q_c1d rfl) ?_
    refine A_eq (ls2 := [some (.ref bS), some (.ref (q_h G + 0)), some (.ref (q_h G + 279)), some (.ref (q_h G + 294)), some (.ref (q_h G + 295)), some (.int (nI (i))), some (.int (nI (0))), none, none]) (st2 := []) (pc2 := 0) rfl rfl ?_
    refine A_aload_n hg dL_law_1750 rfl rfl ?_
    refine A_aload_n hg dL_law_1751 rfl rfl ?_
    refine A_iload hg dL_law_1752 rfl ?_
    refine A_iconst (v := (nI (1))) hg dL_law_1754 (by decide) ?_
    refine A_iaddN hg dL_law_1755 ?_
    refine A_sld hg hX (i + 1) (by omega) dL_law_1756 ?_
    refine A_aload_n hg dL_law_1757 rfl rfl ?_
    refine A_iload hg dL_law_1758 rfl ?_
    refine A_iconst (v := (nI (2))) hg dL_law_1760 (by decide) ?_
    refine A_iaddN hg dL_law_1761 ?_
    refine A_sld hg hX (i + 2) (by omega) dL_law_1762 ?_
    refine A_hV (kc2 := kc + 1) (ks2 := ks + 6) (As := [.int (xs (i + 1)), .int (xs (i + 2))]) (rest := []) hg lk_RL_229 in_X11_summand se_X11_summand rfl dL_law_1763 ⟨by decide, by decide⟩ rfl rfl (hfK 1 6 (by decide) (by decide)) hc_13 (by omega) rfl rfl (Nat.le_of_ble_eq_true rfl) (c_X11_summand G false 296 σ_1 F (xs (i + 1)) (xs (i + 2)) hc_13 (by omega)) ?_
    rintro _ σ_35 (⟨rfl, Mhno, hc_29, hf_30⟩ | ⟨v1M, x1M, rfl, Mhve, Mhva, Mhvl, Mhxe, Mhxl, hc_31, hf_32⟩ | ⟨v1M, rfl, Mhve, Mhva, Mhvl, Mhxn, hc_33, hf_34⟩)
    · skip
      refine (?_ : AJ G K Q (kc + 1) (ks + 6) false 296 1766 [some (.ref bS), some (.ref (q_h G + 0)), some (.ref (q_h G + 279)), some (.ref (q_h G + 294)), some (.ref (q_h G + 295)), some (.int (nI (i))), some (.int (nI (0))), none, none] [.int (nI (0))] σ_35)
      have hc_29 : σ_35 279 = o11 G (upd F 7 (nI (1))) := hc_29
      have hc_36 : σ_35 0 = o10 G (nI (il)) (z2) (z3) := (hf_30 0 (by decide)).trans hc_7
      have hc_37 : σ_35 1 = q_an G 600 f := (hf_30 1 (by decide)).trans hc_8
      have hc_38 : σ_35 23 = o5 G (23) (nI (lo)) := (hf_30 23 (by decide)).trans hc_9
      have hc_39 : σ_35 24 = q_an G 256 o := (hf_30 24 (by decide)).trans hc_10
      have hc_40 : σ_35 224 = q_rn G 2 2 (fun j => some (243 + 18 * j)) := (hf_30 224 (by decide)).trans hc_11
      have hc_41 : σ_35 225 = q_bn G 2 kp := (hf_30 225 (by decide)).trans hc_12
      have hc_42 : σ_35 280 = q_an G 265 g := (hf_30 280 (by decide)).trans hc_14
      have hc_43 : σ_35 281 = q_an G 265 wk := (hf_30 281 (by decide)).trans hc_15
      have hc_44 : σ_35 282 = q_an G 265 as := (hf_30 282 (by decide)).trans hc_16
      have hc_45 : σ_35 283 = q_an G 530 sh := (hf_30 283 (by decide)).trans hc_17
      have hc_46 : σ_35 284 = q_an G 2120 a := (hf_30 284 (by decide)).trans hc_18
      have hc_47 : σ_35 285 = q_bn G 1681 fb := (hf_30 285 (by decide)).trans hc_19
      have hc_48 : σ_35 286 = q_an G 1681 nv := (hf_30 286 (by decide)).trans hc_20
      have hc_49 : σ_35 287 = q_an G 1681 ns := (hf_30 287 (by decide)).trans hc_21
      have hc_50 : σ_35 288 = q_an G 2000 mk := (hf_30 288 (by decide)).trans hc_22
      have hc_51 : σ_35 289 = q_an G 6724 va := (hf_30 289 (by decide)).trans hc_23
      have hc_52 : σ_35 290 = q_an G 6724 sp := (hf_30 290 (by decide)).trans hc_24
      have hc_53 : σ_35 291 = q_an G 80 lp := (hf_30 291 (by decide)).trans hc_25
      have hc_54 : σ_35 292 = q_an G 600 f := (hf_30 292 (by decide)).trans hc_26
      have hc_55 : σ_35 293 = q_an G 300 ou := (hf_30 293 (by decide)).trans hc_27
      have hc_56 : σ_35 295 = q_dn G 1 oD := (hf_30 295 (by decide)).trans hc_28
      have hc_57 : σ_35 294 = q_ln G 1 (va_up oL 0 ((nI (s_gf (s_rs v1C x1C))).toInt64)) := (hf_30 294 (by decide)).trans hc_2
      have hsb_x1C := iv_sn v1C
      exact (Mhno v1C (by omega) (by omega) Chve).elim
    · skip
      refine (?_ : AJ G K Q (kc + 1) (ks + 6) false 296 1766 [some (.ref bS), some (.ref (q_h G + 0)), some (.ref (q_h G + 279)), some (.ref (q_h G + 294)), some (.ref (q_h G + 295)), some (.int (nI (i))), some (.int (nI (0))), none, none] [.int (nI (s_gf (s_rs v1M x1M)))] σ_35)
      have hc_31 : σ_35 279 = o11 G (upd F 7 (nI (0))) := hc_31
      have hc_58 : σ_35 0 = o10 G (nI (il)) (z2) (z3) := (hf_32 0 (by decide)).trans hc_7
      have hc_59 : σ_35 1 = q_an G 600 f := (hf_32 1 (by decide)).trans hc_8
      have hc_60 : σ_35 23 = o5 G (23) (nI (lo)) := (hf_32 23 (by decide)).trans hc_9
      have hc_61 : σ_35 24 = q_an G 256 o := (hf_32 24 (by decide)).trans hc_10
      have hc_62 : σ_35 224 = q_rn G 2 2 (fun j => some (243 + 18 * j)) := (hf_32 224 (by decide)).trans hc_11
      have hc_63 : σ_35 225 = q_bn G 2 kp := (hf_32 225 (by decide)).trans hc_12
      have hc_64 : σ_35 280 = q_an G 265 g := (hf_32 280 (by decide)).trans hc_14
      have hc_65 : σ_35 281 = q_an G 265 wk := (hf_32 281 (by decide)).trans hc_15
      have hc_66 : σ_35 282 = q_an G 265 as := (hf_32 282 (by decide)).trans hc_16
      have hc_67 : σ_35 283 = q_an G 530 sh := (hf_32 283 (by decide)).trans hc_17
      have hc_68 : σ_35 284 = q_an G 2120 a := (hf_32 284 (by decide)).trans hc_18
      have hc_69 : σ_35 285 = q_bn G 1681 fb := (hf_32 285 (by decide)).trans hc_19
      have hc_70 : σ_35 286 = q_an G 1681 nv := (hf_32 286 (by decide)).trans hc_20
      have hc_71 : σ_35 287 = q_an G 1681 ns := (hf_32 287 (by decide)).trans hc_21
      have hc_72 : σ_35 288 = q_an G 2000 mk := (hf_32 288 (by decide)).trans hc_22
      have hc_73 : σ_35 289 = q_an G 6724 va := (hf_32 289 (by decide)).trans hc_23
      have hc_74 : σ_35 290 = q_an G 6724 sp := (hf_32 290 (by decide)).trans hc_24
      have hc_75 : σ_35 291 = q_an G 80 lp := (hf_32 291 (by decide)).trans hc_25
      have hc_76 : σ_35 292 = q_an G 600 f := (hf_32 292 (by decide)).trans hc_26
      have hc_77 : σ_35 293 = q_an G 300 ou := (hf_32 293 (by decide)).trans hc_27
      have hc_78 : σ_35 295 = q_dn G 1 oD := (hf_32 295 (by decide)).trans hc_28
      have hc_79 : σ_35 294 = q_ln G 1 (va_up oL 0 ((nI (s_gf (s_rs v1C x1C))).toInt64)) := (hf_32 294 (by decide)).trans hc_2
      have hsb_x1C := iv_sn v1C
      have hsb_x1M := iv_sn v1M
      have e_v : v1C = v1M := q_nI_inj (by omega) (by omega) (Chve.symm.trans Mhve)
      subst e_v
      have e_x : x1C = x1M := q_nI_inj (by omega) (by omega) (Chxe.symm.trans Mhxe)
      subst e_x
      refine A_istore hg dL_law_1766 (by decide) (q_c1d rfl) ?_
      refine A_eq (ls2 := [some (.ref bS), some (.ref (q_h G + 0)), some (.ref (q_h G + 279)), some (.ref (q_h G + 294)), some (.ref (q_h G + 295)), some (.int (nI (i))), some (.int (nI (0))), some (.int (nI (s_gf (s_rs v1C x1C)))), none]) (st2 := []) (pc2 := 0) rfl rfl ?_
      refine A_aload_n hg dL_law_1768 rfl rfl ?_
      refine A_eV (kc2 := kc + 1) (ks2 := ks + 6) (As := []) (rest := []) hg lk_RL_170 in_X11_thrown se_X11_thrown rfl dL_law_1769 ⟨by decide, by decide⟩ rfl rfl (hfK 1 6 (by decide) (by decide)) hc_31 (by omega) rfl rfl (Nat.le_of_ble_eq_true rfl) (c_X11_thrown G false 296 σ_35 (upd F 7 (nI (0))) hc_31 (by omega)) ?_
      refine A_top (w := .int (nI (0))) (congrArg Value.int rfl) ?_
      refine A_iload hg dL_law_1772 rfl ?_
      refine A_icmp_eqN (tgt := 1779) hg dL_law_1774 (by decide) (by decide) (by decide) (fun c1774 => ?_) (fun c1774 => False.elim (by omega))
      refine A_iload hg dL_law_1779 rfl ?_
      refine A_if_neN (tgt := 1796) hg dL_law_1781 (by decide) (by decide) (fun c1781 => absurd (by decide) c1781) (fun c1781 => ?_)
      refine A_aload_n hg dL_law_1784 rfl rfl ?_
      refine A_iconst (v := (nI (0))) hg dL_law_1785 (by decide) ?_
      refine A_lald (j := 0) hg dL_law_1786 hc_79 (by omega) (by decide) (by decide) ?_
      refine A_top (w := .long ((nI (s_gf (s_rs v1C x1C))).toInt64)) (congrArg Value.long iv_up0) ?_
      refine A_iload hg dL_law_1787 rfl ?_
      refine A_i2l (v := (nI (s_gf (s_rs v1C x1C))).toInt64) hg dL_law_1789 rfl ?_
      refine A_lcmp hg dL_law_1790 ?_
      refine A_top (w := .int (nI 0)) (congrArg Value.int (lc_self _)) ?_
      refine A_if_eqN (tgt := 1796) hg dL_law_1791 (by decide) (by decide) (fun c1791 => ?_) (fun c1791 => absurd (by decide) c1791)
      refine A_goto (tgt := 3062) hg dL_law_1796 (by decide) ?_
      refine A_drop 6 ?_
      refine A_drop 7 ?_
      refine A_eq (ls2 := [some (.ref bS), some (.ref (q_h G + 0)), some (.ref (q_h G + 279)), some (.ref (q_h G + 294)), some (.ref (q_h G + 295)), some (.int (nI (i))), none, none, none]) (st2 := []) (pc2 := 0) rfl rfl ?_
      refine A_wide (kc2 := kc + 8) (ks2 := ks + 48) (by omega) (by omega) ?_
      exact hnxt _ (iv_mk il z2 z3 f lo o g nx m ps kp sn (upd F 7 (nI (0))) wk as sh a fb nv ns mk va sp lp mc z ss ou (va_up oL 0 ((nI (s_gf (s_rs v1C x1C))).toInt64)) oD hc_58 hc_59 hc_60 hc_61 hc_62 hc_63 hc_31 hc_64 hc_65 hc_66 hc_67 hc_68 hc_69 hc_70 hc_71 hc_72 hc_73 hc_74 hc_75 hc_76 hc_77 hc_79 hc_78 (x_lj_e (fun i _ _ => ((hf_32 i (by omega)).trans (hf_3 i (by omega)))) hL) (x_gm_e (fun i _ _ => ((hf_32 i (by omega)).trans (hf_3 i (by omega)))) hG) (x_mx_e (fun i _ _ => ((hf_32 i (by omega)).trans (hf_3 i (by omega)))) hM) (x_hi_e (fun i _ _ => ((hf_32 i (by omega)).trans (hf_3 i (by omega)))) hHi) (x_oj_e (fun i _ _ => ((hf_32 i (by omega)).trans (hf_3 i (by omega)))) hO) (x_pj_e (fun i _ _ => ((hf_32 i (by omega)).trans (hf_3 i (by omega)))) hT) (iv_hn (fun i _ _ => ((hf_32 i (by omega)).trans (hf_3 i (by omega)))) hH) (iv_Sn (fun i _ _ => ((hf_32 i (by omega)).trans (hf_3 i (by omega)))) hSn) (iv_Kp (fun i _ _ => ((hf_32 i (by omega)).trans (hf_3 i (by omega)))) hKp) (by omega) hfb (by omega) hou hgd hps hk1 hkss hss hsn hF5 hF6 hF12 hF16 hF21 hF22 hF23 hF33 (by omega) hmk hTI hlo)
    · skip
      refine (?_ : AJ G K Q (kc + 1) (ks + 6) false 296 1766 [some (.ref bS), some (.ref (q_h G + 0)), some (.ref (q_h G + 279)), some (.ref (q_h G + 294)), some (.ref (q_h G + 295)), some (.int (nI (i))), some (.int (nI (0))), none, none] [.int (q_d (0))] σ_35)
      have hc_33 : σ_35 279 = o11 G (upd F 7 (nI (0))) := hc_33
      have hc_80 : σ_35 0 = o10 G (nI (il)) (z2) (z3) := (hf_34 0 (by decide)).trans hc_7
      have hc_81 : σ_35 1 = q_an G 600 f := (hf_34 1 (by decide)).trans hc_8
      have hc_82 : σ_35 23 = o5 G (23) (nI (lo)) := (hf_34 23 (by decide)).trans hc_9
      have hc_83 : σ_35 24 = q_an G 256 o := (hf_34 24 (by decide)).trans hc_10
      have hc_84 : σ_35 224 = q_rn G 2 2 (fun j => some (243 + 18 * j)) := (hf_34 224 (by decide)).trans hc_11
      have hc_85 : σ_35 225 = q_bn G 2 kp := (hf_34 225 (by decide)).trans hc_12
      have hc_86 : σ_35 280 = q_an G 265 g := (hf_34 280 (by decide)).trans hc_14
      have hc_87 : σ_35 281 = q_an G 265 wk := (hf_34 281 (by decide)).trans hc_15
      have hc_88 : σ_35 282 = q_an G 265 as := (hf_34 282 (by decide)).trans hc_16
      have hc_89 : σ_35 283 = q_an G 530 sh := (hf_34 283 (by decide)).trans hc_17
      have hc_90 : σ_35 284 = q_an G 2120 a := (hf_34 284 (by decide)).trans hc_18
      have hc_91 : σ_35 285 = q_bn G 1681 fb := (hf_34 285 (by decide)).trans hc_19
      have hc_92 : σ_35 286 = q_an G 1681 nv := (hf_34 286 (by decide)).trans hc_20
      have hc_93 : σ_35 287 = q_an G 1681 ns := (hf_34 287 (by decide)).trans hc_21
      have hc_94 : σ_35 288 = q_an G 2000 mk := (hf_34 288 (by decide)).trans hc_22
      have hc_95 : σ_35 289 = q_an G 6724 va := (hf_34 289 (by decide)).trans hc_23
      have hc_96 : σ_35 290 = q_an G 6724 sp := (hf_34 290 (by decide)).trans hc_24
      have hc_97 : σ_35 291 = q_an G 80 lp := (hf_34 291 (by decide)).trans hc_25
      have hc_98 : σ_35 292 = q_an G 600 f := (hf_34 292 (by decide)).trans hc_26
      have hc_99 : σ_35 293 = q_an G 300 ou := (hf_34 293 (by decide)).trans hc_27
      have hc_100 : σ_35 295 = q_dn G 1 oD := (hf_34 295 (by decide)).trans hc_28
      have hc_101 : σ_35 294 = q_ln G 1 (va_up oL 0 ((nI (s_gf (s_rs v1C x1C))).toInt64)) := (hf_34 294 (by decide)).trans hc_2
      have hsb_x1C := iv_sn v1C
      have e_v : v1C = v1M := q_nI_inj (by omega) (by omega) (Chve.symm.trans Mhve)
      subst e_v
      exact (Mhxn x1C (by omega) Chxe).elim
  · skip
    refine (?_ : AJ G K Q (kc + 1) (ks + 6) false 296 1748 [some (.ref bS), some (.ref (q_h G + 0)), some (.ref (q_h G + 279)), some (.ref (q_h G + 294)), some (.ref (q_h G + 295)), some (.int (nI (i))), none, none, none] [.int (nI (0))] σ_1)
    have hc_102 : σ_1 0 = o10 G (nI (il)) (z2) (z3) := (hf_5 0 (by decide)).trans hv0
    have hc_103 : σ_1 1 = q_an G 600 f := (hf_5 1 (by decide)).trans hv1
    have hc_104 : σ_1 23 = o5 G (23) (nI (lo)) := (hf_5 23 (by decide)).trans hv2
    have hc_105 : σ_1 24 = q_an G 256 o := (hf_5 24 (by decide)).trans hv3
    have hc_106 : σ_1 224 = q_rn G 2 2 (fun j => some (243 + 18 * j)) := (hf_5 224 (by decide)).trans hv4
    have hc_107 : σ_1 225 = q_bn G 2 kp := (hf_5 225 (by decide)).trans hv5
    have hc_108 : σ_1 279 = o11 G F := (hf_5 279 (by decide)).trans hv6
    have hc_109 : σ_1 280 = q_an G 265 g := (hf_5 280 (by decide)).trans hv7
    have hc_110 : σ_1 281 = q_an G 265 wk := (hf_5 281 (by decide)).trans hv8
    have hc_111 : σ_1 282 = q_an G 265 as := (hf_5 282 (by decide)).trans hv9
    have hc_112 : σ_1 283 = q_an G 530 sh := (hf_5 283 (by decide)).trans hv10
    have hc_113 : σ_1 284 = q_an G 2120 a := (hf_5 284 (by decide)).trans hv11
    have hc_114 : σ_1 285 = q_bn G 1681 fb := (hf_5 285 (by decide)).trans hv12
    have hc_115 : σ_1 286 = q_an G 1681 nv := (hf_5 286 (by decide)).trans hv13
    have hc_116 : σ_1 287 = q_an G 1681 ns := (hf_5 287 (by decide)).trans hv14
    have hc_117 : σ_1 288 = q_an G 2000 mk := (hf_5 288 (by decide)).trans hv15
    have hc_118 : σ_1 289 = q_an G 6724 va := (hf_5 289 (by decide)).trans hv16
    have hc_119 : σ_1 290 = q_an G 6724 sp := (hf_5 290 (by decide)).trans hv17
    have hc_120 : σ_1 291 = q_an G 80 lp := (hf_5 291 (by decide)).trans hv18
    have hc_121 : σ_1 292 = q_an G 600 f := (hf_5 292 (by decide)).trans hv19
    have hc_122 : σ_1 293 = q_an G 300 ou := (hf_5 293 (by decide)).trans hv20
    have hc_123 : σ_1 295 = q_dn G 1 oD := (hf_5 295 (by decide)).trans hv22
    refine A_istore hg dL_law_1748 (by decide) (q_c1d rfl) ?_
    refine A_eq (ls2 := [some (.ref bS), some (.ref (q_h G + 0)), some (.ref (q_h G + 279)), some (.ref (q_h G + 294)), some (.ref (q_h G + 295)), some (.int (nI (i))), some (.int (nI (0))), none, none]) (st2 := []) (pc2 := 0) rfl rfl ?_
    refine A_aload_n hg dL_law_1750 rfl rfl ?_
    refine A_aload_n hg dL_law_1751 rfl rfl ?_
    refine A_iload hg dL_law_1752 rfl ?_
    refine A_iconst (v := (nI (1))) hg dL_law_1754 (by decide) ?_
    refine A_iaddN hg dL_law_1755 ?_
    refine A_sld hg hX (i + 1) (by omega) dL_law_1756 ?_
    refine A_aload_n hg dL_law_1757 rfl rfl ?_
    refine A_iload hg dL_law_1758 rfl ?_
    refine A_iconst (v := (nI (2))) hg dL_law_1760 (by decide) ?_
    refine A_iaddN hg dL_law_1761 ?_
    refine A_sld hg hX (i + 2) (by omega) dL_law_1762 ?_
    refine A_hV (kc2 := kc + 1) (ks2 := ks + 6) (As := [.int (xs (i + 1)), .int (xs (i + 2))]) (rest := []) hg lk_RL_229 in_X11_summand se_X11_summand rfl dL_law_1763 ⟨by decide, by decide⟩ rfl rfl (hfK 1 6 (by decide) (by decide)) hc_108 (by omega) rfl rfl (Nat.le_of_ble_eq_true rfl) (c_X11_summand G false 296 σ_1 F (xs (i + 1)) (xs (i + 2)) hc_108 (by omega)) ?_
    rintro _ σ_130 (⟨rfl, Mhno, hc_124, hf_125⟩ | ⟨v1M, x1M, rfl, Mhve, Mhva, Mhvl, Mhxe, Mhxl, hc_126, hf_127⟩ | ⟨v1M, rfl, Mhve, Mhva, Mhvl, Mhxn, hc_128, hf_129⟩)
    · skip
      refine (?_ : AJ G K Q (kc + 1) (ks + 6) false 296 1766 [some (.ref bS), some (.ref (q_h G + 0)), some (.ref (q_h G + 279)), some (.ref (q_h G + 294)), some (.ref (q_h G + 295)), some (.int (nI (i))), some (.int (nI (0))), none, none] [.int (nI (0))] σ_130)
      have hc_124 : σ_130 279 = o11 G (upd F 7 (nI (1))) := hc_124
      have hc_131 : σ_130 0 = o10 G (nI (il)) (z2) (z3) := (hf_125 0 (by decide)).trans hc_102
      have hc_132 : σ_130 1 = q_an G 600 f := (hf_125 1 (by decide)).trans hc_103
      have hc_133 : σ_130 23 = o5 G (23) (nI (lo)) := (hf_125 23 (by decide)).trans hc_104
      have hc_134 : σ_130 24 = q_an G 256 o := (hf_125 24 (by decide)).trans hc_105
      have hc_135 : σ_130 224 = q_rn G 2 2 (fun j => some (243 + 18 * j)) := (hf_125 224 (by decide)).trans hc_106
      have hc_136 : σ_130 225 = q_bn G 2 kp := (hf_125 225 (by decide)).trans hc_107
      have hc_137 : σ_130 280 = q_an G 265 g := (hf_125 280 (by decide)).trans hc_109
      have hc_138 : σ_130 281 = q_an G 265 wk := (hf_125 281 (by decide)).trans hc_110
      have hc_139 : σ_130 282 = q_an G 265 as := (hf_125 282 (by decide)).trans hc_111
      have hc_140 : σ_130 283 = q_an G 530 sh := (hf_125 283 (by decide)).trans hc_112
      have hc_141 : σ_130 284 = q_an G 2120 a := (hf_125 284 (by decide)).trans hc_113
      have hc_142 : σ_130 285 = q_bn G 1681 fb := (hf_125 285 (by decide)).trans hc_114
      have hc_143 : σ_130 286 = q_an G 1681 nv := (hf_125 286 (by decide)).trans hc_115
      have hc_144 : σ_130 287 = q_an G 1681 ns := (hf_125 287 (by decide)).trans hc_116
      have hc_145 : σ_130 288 = q_an G 2000 mk := (hf_125 288 (by decide)).trans hc_117
      have hc_146 : σ_130 289 = q_an G 6724 va := (hf_125 289 (by decide)).trans hc_118
      have hc_147 : σ_130 290 = q_an G 6724 sp := (hf_125 290 (by decide)).trans hc_119
      have hc_148 : σ_130 291 = q_an G 80 lp := (hf_125 291 (by decide)).trans hc_120
      have hc_149 : σ_130 292 = q_an G 600 f := (hf_125 292 (by decide)).trans hc_121
      have hc_150 : σ_130 293 = q_an G 300 ou := (hf_125 293 (by decide)).trans hc_122
      have hc_151 : σ_130 295 = q_dn G 1 oD := (hf_125 295 (by decide)).trans hc_123
      have hc_152 : σ_130 294 = q_ln G 1 (va_up oL 0 ((q_d (0)).toInt64)) := (hf_125 294 (by decide)).trans hc_4
      exact (Mhno v1C (by omega) (by omega) Chve).elim
    · skip
      refine (?_ : AJ G K Q (kc + 1) (ks + 6) false 296 1766 [some (.ref bS), some (.ref (q_h G + 0)), some (.ref (q_h G + 279)), some (.ref (q_h G + 294)), some (.ref (q_h G + 295)), some (.int (nI (i))), some (.int (nI (0))), none, none] [.int (nI (s_gf (s_rs v1M x1M)))] σ_130)
      have hc_126 : σ_130 279 = o11 G (upd F 7 (nI (0))) := hc_126
      have hc_153 : σ_130 0 = o10 G (nI (il)) (z2) (z3) := (hf_127 0 (by decide)).trans hc_102
      have hc_154 : σ_130 1 = q_an G 600 f := (hf_127 1 (by decide)).trans hc_103
      have hc_155 : σ_130 23 = o5 G (23) (nI (lo)) := (hf_127 23 (by decide)).trans hc_104
      have hc_156 : σ_130 24 = q_an G 256 o := (hf_127 24 (by decide)).trans hc_105
      have hc_157 : σ_130 224 = q_rn G 2 2 (fun j => some (243 + 18 * j)) := (hf_127 224 (by decide)).trans hc_106
      have hc_158 : σ_130 225 = q_bn G 2 kp := (hf_127 225 (by decide)).trans hc_107
      have hc_159 : σ_130 280 = q_an G 265 g := (hf_127 280 (by decide)).trans hc_109
      have hc_160 : σ_130 281 = q_an G 265 wk := (hf_127 281 (by decide)).trans hc_110
      have hc_161 : σ_130 282 = q_an G 265 as := (hf_127 282 (by decide)).trans hc_111
      have hc_162 : σ_130 283 = q_an G 530 sh := (hf_127 283 (by decide)).trans hc_112
      have hc_163 : σ_130 284 = q_an G 2120 a := (hf_127 284 (by decide)).trans hc_113
      have hc_164 : σ_130 285 = q_bn G 1681 fb := (hf_127 285 (by decide)).trans hc_114
      have hc_165 : σ_130 286 = q_an G 1681 nv := (hf_127 286 (by decide)).trans hc_115
      have hc_166 : σ_130 287 = q_an G 1681 ns := (hf_127 287 (by decide)).trans hc_116
      have hc_167 : σ_130 288 = q_an G 2000 mk := (hf_127 288 (by decide)).trans hc_117
      have hc_168 : σ_130 289 = q_an G 6724 va := (hf_127 289 (by decide)).trans hc_118
      have hc_169 : σ_130 290 = q_an G 6724 sp := (hf_127 290 (by decide)).trans hc_119
      have hc_170 : σ_130 291 = q_an G 80 lp := (hf_127 291 (by decide)).trans hc_120
      have hc_171 : σ_130 292 = q_an G 600 f := (hf_127 292 (by decide)).trans hc_121
      have hc_172 : σ_130 293 = q_an G 300 ou := (hf_127 293 (by decide)).trans hc_122
      have hc_173 : σ_130 295 = q_dn G 1 oD := (hf_127 295 (by decide)).trans hc_123
      have hc_174 : σ_130 294 = q_ln G 1 (va_up oL 0 ((q_d (0)).toInt64)) := (hf_127 294 (by decide)).trans hc_4
      have hsb_x1M := iv_sn v1M
      have e_v : v1C = v1M := q_nI_inj (by omega) (by omega) (Chve.symm.trans Mhve)
      subst e_v
      exact (Chxn x1M (by omega) Mhxe).elim
    · skip
      refine (?_ : AJ G K Q (kc + 1) (ks + 6) false 296 1766 [some (.ref bS), some (.ref (q_h G + 0)), some (.ref (q_h G + 279)), some (.ref (q_h G + 294)), some (.ref (q_h G + 295)), some (.int (nI (i))), some (.int (nI (0))), none, none] [.int (q_d (0))] σ_130)
      have hc_128 : σ_130 279 = o11 G (upd F 7 (nI (0))) := hc_128
      have hc_175 : σ_130 0 = o10 G (nI (il)) (z2) (z3) := (hf_129 0 (by decide)).trans hc_102
      have hc_176 : σ_130 1 = q_an G 600 f := (hf_129 1 (by decide)).trans hc_103
      have hc_177 : σ_130 23 = o5 G (23) (nI (lo)) := (hf_129 23 (by decide)).trans hc_104
      have hc_178 : σ_130 24 = q_an G 256 o := (hf_129 24 (by decide)).trans hc_105
      have hc_179 : σ_130 224 = q_rn G 2 2 (fun j => some (243 + 18 * j)) := (hf_129 224 (by decide)).trans hc_106
      have hc_180 : σ_130 225 = q_bn G 2 kp := (hf_129 225 (by decide)).trans hc_107
      have hc_181 : σ_130 280 = q_an G 265 g := (hf_129 280 (by decide)).trans hc_109
      have hc_182 : σ_130 281 = q_an G 265 wk := (hf_129 281 (by decide)).trans hc_110
      have hc_183 : σ_130 282 = q_an G 265 as := (hf_129 282 (by decide)).trans hc_111
      have hc_184 : σ_130 283 = q_an G 530 sh := (hf_129 283 (by decide)).trans hc_112
      have hc_185 : σ_130 284 = q_an G 2120 a := (hf_129 284 (by decide)).trans hc_113
      have hc_186 : σ_130 285 = q_bn G 1681 fb := (hf_129 285 (by decide)).trans hc_114
      have hc_187 : σ_130 286 = q_an G 1681 nv := (hf_129 286 (by decide)).trans hc_115
      have hc_188 : σ_130 287 = q_an G 1681 ns := (hf_129 287 (by decide)).trans hc_116
      have hc_189 : σ_130 288 = q_an G 2000 mk := (hf_129 288 (by decide)).trans hc_117
      have hc_190 : σ_130 289 = q_an G 6724 va := (hf_129 289 (by decide)).trans hc_118
      have hc_191 : σ_130 290 = q_an G 6724 sp := (hf_129 290 (by decide)).trans hc_119
      have hc_192 : σ_130 291 = q_an G 80 lp := (hf_129 291 (by decide)).trans hc_120
      have hc_193 : σ_130 292 = q_an G 600 f := (hf_129 292 (by decide)).trans hc_121
      have hc_194 : σ_130 293 = q_an G 300 ou := (hf_129 293 (by decide)).trans hc_122
      have hc_195 : σ_130 295 = q_dn G 1 oD := (hf_129 295 (by decide)).trans hc_123
      have hc_196 : σ_130 294 = q_ln G 1 (va_up oL 0 ((q_d (0)).toInt64)) := (hf_129 294 (by decide)).trans hc_4
      have e_v : v1C = v1M := q_nI_inj (by omega) (by omega) (Chve.symm.trans Mhve)
      subst e_v
      refine A_istore hg dL_law_1766 (by decide) (q_c1d rfl) ?_
      refine A_eq (ls2 := [some (.ref bS), some (.ref (q_h G + 0)), some (.ref (q_h G + 279)), some (.ref (q_h G + 294)), some (.ref (q_h G + 295)), some (.int (nI (i))), some (.int (nI (0))), some (.int (q_d (0))), none]) (st2 := []) (pc2 := 0) rfl rfl ?_
      refine A_aload_n hg dL_law_1768 rfl rfl ?_
      refine A_eV (kc2 := kc + 1) (ks2 := ks + 6) (As := []) (rest := []) hg lk_RL_170 in_X11_thrown se_X11_thrown rfl dL_law_1769 ⟨by decide, by decide⟩ rfl rfl (hfK 1 6 (by decide) (by decide)) hc_128 (by omega) rfl rfl (Nat.le_of_ble_eq_true rfl) (c_X11_thrown G false 296 σ_130 (upd F 7 (nI (0))) hc_128 (by omega)) ?_
      refine A_top (w := .int (nI (0))) (congrArg Value.int rfl) ?_
      refine A_iload hg dL_law_1772 rfl ?_
      refine A_icmp_eqN (tgt := 1779) hg dL_law_1774 (by decide) (by decide) (by decide) (fun c1774 => ?_) (fun c1774 => False.elim (by omega))
      refine A_iload hg dL_law_1779 rfl ?_
      refine A_if_neN (tgt := 1796) hg dL_law_1781 (by decide) (by decide) (fun c1781 => absurd (by decide) c1781) (fun c1781 => ?_)
      refine A_aload_n hg dL_law_1784 rfl rfl ?_
      refine A_iconst (v := (nI (0))) hg dL_law_1785 (by decide) ?_
      refine A_lald (j := 0) hg dL_law_1786 hc_196 (by omega) (by decide) (by decide) ?_
      refine A_top (w := .long ((q_d (0)).toInt64)) (congrArg Value.long iv_up0) ?_
      refine A_iload hg dL_law_1787 rfl ?_
      refine A_i2l (v := (q_d (0)).toInt64) hg dL_law_1789 rfl ?_
      refine A_lcmp hg dL_law_1790 ?_
      refine A_top (w := .int (nI 0)) (congrArg Value.int (lc_self _)) ?_
      refine A_if_eqN (tgt := 1796) hg dL_law_1791 (by decide) (by decide) (fun c1791 => ?_) (fun c1791 => absurd (by decide) c1791)
      refine A_goto (tgt := 3062) hg dL_law_1796 (by decide) ?_
      refine A_drop 6 ?_
      refine A_drop 7 ?_
      refine A_eq (ls2 := [some (.ref bS), some (.ref (q_h G + 0)), some (.ref (q_h G + 279)), some (.ref (q_h G + 294)), some (.ref (q_h G + 295)), some (.int (nI (i))), none, none, none]) (st2 := []) (pc2 := 0) rfl rfl ?_
      refine A_wide (kc2 := kc + 8) (ks2 := ks + 48) (by omega) (by omega) ?_
      exact hnxt _ (iv_mk il z2 z3 f lo o g nx m ps kp sn (upd F 7 (nI (0))) wk as sh a fb nv ns mk va sp lp mc z ss ou (va_up oL 0 ((q_d (0)).toInt64)) oD hc_175 hc_176 hc_177 hc_178 hc_179 hc_180 hc_128 hc_181 hc_182 hc_183 hc_184 hc_185 hc_186 hc_187 hc_188 hc_189 hc_190 hc_191 hc_192 hc_193 hc_194 hc_196 hc_195 (x_lj_e (fun i _ _ => ((hf_129 i (by omega)).trans (hf_5 i (by omega)))) hL) (x_gm_e (fun i _ _ => ((hf_129 i (by omega)).trans (hf_5 i (by omega)))) hG) (x_mx_e (fun i _ _ => ((hf_129 i (by omega)).trans (hf_5 i (by omega)))) hM) (x_hi_e (fun i _ _ => ((hf_129 i (by omega)).trans (hf_5 i (by omega)))) hHi) (x_oj_e (fun i _ _ => ((hf_129 i (by omega)).trans (hf_5 i (by omega)))) hO) (x_pj_e (fun i _ _ => ((hf_129 i (by omega)).trans (hf_5 i (by omega)))) hT) (iv_hn (fun i _ _ => ((hf_129 i (by omega)).trans (hf_5 i (by omega)))) hH) (iv_Sn (fun i _ _ => ((hf_129 i (by omega)).trans (hf_5 i (by omega)))) hSn) (iv_Kp (fun i _ _ => ((hf_129 i (by omega)).trans (hf_5 i (by omega)))) hKp) (by omega) hfb (by omega) hou hgd hps hk1 hkss hss hsn hF5 hF6 hF12 hF16 hF21 hF22 hF23 hF33 (by omega) hmk hTI hlo)
  · skip
    rw [he_6]
    refine (?_ : AJ G K Q (kc + 1) (ks + 6) false 296 1748 [some (.ref bS), some (.ref (q_h G + 0)), some (.ref (q_h G + 279)), some (.ref (q_h G + 294)), some (.ref (q_h G + 295)), some (.int (nI (i))), none, none, none] [.int (nI (1))] σ)
    refine A_istore hg dL_law_1748 (by decide) (q_c1d rfl) ?_
    refine A_eq (ls2 := [some (.ref bS), some (.ref (q_h G + 0)), some (.ref (q_h G + 279)), some (.ref (q_h G + 294)), some (.ref (q_h G + 295)), some (.int (nI (i))), some (.int (nI (1))), none, none]) (st2 := []) (pc2 := 0) rfl rfl ?_
    refine A_aload_n hg dL_law_1750 rfl rfl ?_
    refine A_aload_n hg dL_law_1751 rfl rfl ?_
    refine A_iload hg dL_law_1752 rfl ?_
    refine A_iconst (v := (nI (1))) hg dL_law_1754 (by decide) ?_
    refine A_iaddN hg dL_law_1755 ?_
    refine A_sld hg hX (i + 1) (by omega) dL_law_1756 ?_
    refine A_aload_n hg dL_law_1757 rfl rfl ?_
    refine A_iload hg dL_law_1758 rfl ?_
    refine A_iconst (v := (nI (2))) hg dL_law_1760 (by decide) ?_
    refine A_iaddN hg dL_law_1761 ?_
    refine A_sld hg hX (i + 2) (by omega) dL_law_1762 ?_
    refine A_hV (kc2 := kc + 1) (ks2 := ks + 6) (As := [.int (xs (i + 1)), .int (xs (i + 2))]) (rest := []) hg lk_RL_229 in_X11_summand se_X11_summand rfl dL_law_1763 ⟨by decide, by decide⟩ rfl rfl (hfK 1 6 (by decide) (by decide)) hv6 (by omega) rfl rfl (Nat.le_of_ble_eq_true rfl) (c_X11_summand G false 296 σ F (xs (i + 1)) (xs (i + 2)) hv6 (by omega)) ?_
    rintro _ σ_203 (⟨rfl, Mhno, hc_197, hf_198⟩ | ⟨v1M, x1M, rfl, Mhve, Mhva, Mhvl, Mhxe, Mhxl, hc_199, hf_200⟩ | ⟨v1M, rfl, Mhve, Mhva, Mhvl, Mhxn, hc_201, hf_202⟩)
    · skip
      refine (?_ : AJ G K Q (kc + 1) (ks + 6) false 296 1766 [some (.ref bS), some (.ref (q_h G + 0)), some (.ref (q_h G + 279)), some (.ref (q_h G + 294)), some (.ref (q_h G + 295)), some (.int (nI (i))), some (.int (nI (1))), none, none] [.int (nI (0))] σ_203)
      have hc_197 : σ_203 279 = o11 G (upd F 7 (nI (1))) := hc_197
      have hc_204 : σ_203 0 = o10 G (nI (il)) (z2) (z3) := (hf_198 0 (by decide)).trans hv0
      have hc_205 : σ_203 1 = q_an G 600 f := (hf_198 1 (by decide)).trans hv1
      have hc_206 : σ_203 23 = o5 G (23) (nI (lo)) := (hf_198 23 (by decide)).trans hv2
      have hc_207 : σ_203 24 = q_an G 256 o := (hf_198 24 (by decide)).trans hv3
      have hc_208 : σ_203 224 = q_rn G 2 2 (fun j => some (243 + 18 * j)) := (hf_198 224 (by decide)).trans hv4
      have hc_209 : σ_203 225 = q_bn G 2 kp := (hf_198 225 (by decide)).trans hv5
      have hc_210 : σ_203 280 = q_an G 265 g := (hf_198 280 (by decide)).trans hv7
      have hc_211 : σ_203 281 = q_an G 265 wk := (hf_198 281 (by decide)).trans hv8
      have hc_212 : σ_203 282 = q_an G 265 as := (hf_198 282 (by decide)).trans hv9
      have hc_213 : σ_203 283 = q_an G 530 sh := (hf_198 283 (by decide)).trans hv10
      have hc_214 : σ_203 284 = q_an G 2120 a := (hf_198 284 (by decide)).trans hv11
      have hc_215 : σ_203 285 = q_bn G 1681 fb := (hf_198 285 (by decide)).trans hv12
      have hc_216 : σ_203 286 = q_an G 1681 nv := (hf_198 286 (by decide)).trans hv13
      have hc_217 : σ_203 287 = q_an G 1681 ns := (hf_198 287 (by decide)).trans hv14
      have hc_218 : σ_203 288 = q_an G 2000 mk := (hf_198 288 (by decide)).trans hv15
      have hc_219 : σ_203 289 = q_an G 6724 va := (hf_198 289 (by decide)).trans hv16
      have hc_220 : σ_203 290 = q_an G 6724 sp := (hf_198 290 (by decide)).trans hv17
      have hc_221 : σ_203 291 = q_an G 80 lp := (hf_198 291 (by decide)).trans hv18
      have hc_222 : σ_203 292 = q_an G 600 f := (hf_198 292 (by decide)).trans hv19
      have hc_223 : σ_203 293 = q_an G 300 ou := (hf_198 293 (by decide)).trans hv20
      have hc_224 : σ_203 294 = q_ln G 1 oL := (hf_198 294 (by decide)).trans hv21
      have hc_225 : σ_203 295 = q_dn G 1 oD := (hf_198 295 (by decide)).trans hv22
      refine A_istore hg dL_law_1766 (by decide) (q_c1d rfl) ?_
      refine A_eq (ls2 := [some (.ref bS), some (.ref (q_h G + 0)), some (.ref (q_h G + 279)), some (.ref (q_h G + 294)), some (.ref (q_h G + 295)), some (.int (nI (i))), some (.int (nI (1))), some (.int (nI (0))), none]) (st2 := []) (pc2 := 0) rfl rfl ?_
      refine A_aload_n hg dL_law_1768 rfl rfl ?_
      refine A_eV (kc2 := kc + 1) (ks2 := ks + 6) (As := []) (rest := []) hg lk_RL_170 in_X11_thrown se_X11_thrown rfl dL_law_1769 ⟨by decide, by decide⟩ rfl rfl (hfK 1 6 (by decide) (by decide)) hc_197 (by omega) rfl rfl (Nat.le_of_ble_eq_true rfl) (c_X11_thrown G false 296 σ_203 (upd F 7 (nI (1))) hc_197 (by omega)) ?_
      refine A_top (w := .int (nI (1))) (congrArg Value.int rfl) ?_
      refine A_iload hg dL_law_1772 rfl ?_
      refine A_icmp_eqN (tgt := 1779) hg dL_law_1774 (by decide) (by decide) (by decide) (fun c1774 => ?_) (fun c1774 => False.elim (by omega))
      refine A_iload hg dL_law_1779 rfl ?_
      refine A_if_neN (tgt := 1796) hg dL_law_1781 (by decide) (by decide) (fun c1781 => ?_) (fun c1781 => absurd c1781 (by decide))
      refine A_goto (tgt := 3062) hg dL_law_1796 (by decide) ?_
      refine A_drop 6 ?_
      refine A_drop 7 ?_
      refine A_eq (ls2 := [some (.ref bS), some (.ref (q_h G + 0)), some (.ref (q_h G + 279)), some (.ref (q_h G + 294)), some (.ref (q_h G + 295)), some (.int (nI (i))), none, none, none]) (st2 := []) (pc2 := 0) rfl rfl ?_
      refine A_wide (kc2 := kc + 8) (ks2 := ks + 48) (by omega) (by omega) ?_
      exact hnxt _ (iv_mk il z2 z3 f lo o g nx m ps kp sn (upd F 7 (nI (1))) wk as sh a fb nv ns mk va sp lp mc z ss ou oL oD hc_204 hc_205 hc_206 hc_207 hc_208 hc_209 hc_197 hc_210 hc_211 hc_212 hc_213 hc_214 hc_215 hc_216 hc_217 hc_218 hc_219 hc_220 hc_221 hc_222 hc_223 hc_224 hc_225 (x_lj_e (fun i _ _ => (hf_198 i (by omega))) hL) (x_gm_e (fun i _ _ => (hf_198 i (by omega))) hG) (x_mx_e (fun i _ _ => (hf_198 i (by omega))) hM) (x_hi_e (fun i _ _ => (hf_198 i (by omega))) hHi) (x_oj_e (fun i _ _ => (hf_198 i (by omega))) hO) (x_pj_e (fun i _ _ => (hf_198 i (by omega))) hT) (iv_hn (fun i _ _ => (hf_198 i (by omega))) hH) (iv_Sn (fun i _ _ => (hf_198 i (by omega))) hSn) (iv_Kp (fun i _ _ => (hf_198 i (by omega))) hKp) (by omega) hfb (by omega) hou hgd hps hk1 hkss hss hsn hF5 hF6 hF12 hF16 hF21 hF22 hF23 hF33 (by omega) hmk hTI hlo)
    · skip
      refine (?_ : AJ G K Q (kc + 1) (ks + 6) false 296 1766 [some (.ref bS), some (.ref (q_h G + 0)), some (.ref (q_h G + 279)), some (.ref (q_h G + 294)), some (.ref (q_h G + 295)), some (.int (nI (i))), some (.int (nI (1))), none, none] [.int (nI (s_gf (s_rs v1M x1M)))] σ_203)
      have hc_199 : σ_203 279 = o11 G (upd F 7 (nI (0))) := hc_199
      have hc_226 : σ_203 0 = o10 G (nI (il)) (z2) (z3) := (hf_200 0 (by decide)).trans hv0
      have hc_227 : σ_203 1 = q_an G 600 f := (hf_200 1 (by decide)).trans hv1
      have hc_228 : σ_203 23 = o5 G (23) (nI (lo)) := (hf_200 23 (by decide)).trans hv2
      have hc_229 : σ_203 24 = q_an G 256 o := (hf_200 24 (by decide)).trans hv3
      have hc_230 : σ_203 224 = q_rn G 2 2 (fun j => some (243 + 18 * j)) := (hf_200 224 (by decide)).trans hv4
      have hc_231 : σ_203 225 = q_bn G 2 kp := (hf_200 225 (by decide)).trans hv5
      have hc_232 : σ_203 280 = q_an G 265 g := (hf_200 280 (by decide)).trans hv7
      have hc_233 : σ_203 281 = q_an G 265 wk := (hf_200 281 (by decide)).trans hv8
      have hc_234 : σ_203 282 = q_an G 265 as := (hf_200 282 (by decide)).trans hv9
      have hc_235 : σ_203 283 = q_an G 530 sh := (hf_200 283 (by decide)).trans hv10
      have hc_236 : σ_203 284 = q_an G 2120 a := (hf_200 284 (by decide)).trans hv11
      have hc_237 : σ_203 285 = q_bn G 1681 fb := (hf_200 285 (by decide)).trans hv12
      have hc_238 : σ_203 286 = q_an G 1681 nv := (hf_200 286 (by decide)).trans hv13
      have hc_239 : σ_203 287 = q_an G 1681 ns := (hf_200 287 (by decide)).trans hv14
      have hc_240 : σ_203 288 = q_an G 2000 mk := (hf_200 288 (by decide)).trans hv15
      have hc_241 : σ_203 289 = q_an G 6724 va := (hf_200 289 (by decide)).trans hv16
      have hc_242 : σ_203 290 = q_an G 6724 sp := (hf_200 290 (by decide)).trans hv17
      have hc_243 : σ_203 291 = q_an G 80 lp := (hf_200 291 (by decide)).trans hv18
      have hc_244 : σ_203 292 = q_an G 600 f := (hf_200 292 (by decide)).trans hv19
      have hc_245 : σ_203 293 = q_an G 300 ou := (hf_200 293 (by decide)).trans hv20
      have hc_246 : σ_203 294 = q_ln G 1 oL := (hf_200 294 (by decide)).trans hv21
      have hc_247 : σ_203 295 = q_dn G 1 oD := (hf_200 295 (by decide)).trans hv22
      have hsb_x1M := iv_sn v1M
      exact (Chxx v1M (by omega) (by omega) Mhve).elim
    · skip
      refine (?_ : AJ G K Q (kc + 1) (ks + 6) false 296 1766 [some (.ref bS), some (.ref (q_h G + 0)), some (.ref (q_h G + 279)), some (.ref (q_h G + 294)), some (.ref (q_h G + 295)), some (.int (nI (i))), some (.int (nI (1))), none, none] [.int (q_d (0))] σ_203)
      have hc_201 : σ_203 279 = o11 G (upd F 7 (nI (0))) := hc_201
      have hc_248 : σ_203 0 = o10 G (nI (il)) (z2) (z3) := (hf_202 0 (by decide)).trans hv0
      have hc_249 : σ_203 1 = q_an G 600 f := (hf_202 1 (by decide)).trans hv1
      have hc_250 : σ_203 23 = o5 G (23) (nI (lo)) := (hf_202 23 (by decide)).trans hv2
      have hc_251 : σ_203 24 = q_an G 256 o := (hf_202 24 (by decide)).trans hv3
      have hc_252 : σ_203 224 = q_rn G 2 2 (fun j => some (243 + 18 * j)) := (hf_202 224 (by decide)).trans hv4
      have hc_253 : σ_203 225 = q_bn G 2 kp := (hf_202 225 (by decide)).trans hv5
      have hc_254 : σ_203 280 = q_an G 265 g := (hf_202 280 (by decide)).trans hv7
      have hc_255 : σ_203 281 = q_an G 265 wk := (hf_202 281 (by decide)).trans hv8
      have hc_256 : σ_203 282 = q_an G 265 as := (hf_202 282 (by decide)).trans hv9
      have hc_257 : σ_203 283 = q_an G 530 sh := (hf_202 283 (by decide)).trans hv10
      have hc_258 : σ_203 284 = q_an G 2120 a := (hf_202 284 (by decide)).trans hv11
      have hc_259 : σ_203 285 = q_bn G 1681 fb := (hf_202 285 (by decide)).trans hv12
      have hc_260 : σ_203 286 = q_an G 1681 nv := (hf_202 286 (by decide)).trans hv13
      have hc_261 : σ_203 287 = q_an G 1681 ns := (hf_202 287 (by decide)).trans hv14
      have hc_262 : σ_203 288 = q_an G 2000 mk := (hf_202 288 (by decide)).trans hv15
      have hc_263 : σ_203 289 = q_an G 6724 va := (hf_202 289 (by decide)).trans hv16
      have hc_264 : σ_203 290 = q_an G 6724 sp := (hf_202 290 (by decide)).trans hv17
      have hc_265 : σ_203 291 = q_an G 80 lp := (hf_202 291 (by decide)).trans hv18
      have hc_266 : σ_203 292 = q_an G 600 f := (hf_202 292 (by decide)).trans hv19
      have hc_267 : σ_203 293 = q_an G 300 ou := (hf_202 293 (by decide)).trans hv20
      have hc_268 : σ_203 294 = q_ln G 1 oL := (hf_202 294 (by decide)).trans hv21
      have hc_269 : σ_203 295 = q_dn G 1 oD := (hf_202 295 (by decide)).trans hv22
      exact (Chxx v1M (by omega) (by omega) Mhve).elim
end
