section
set_option maxRecDepth 100000 in
set_option maxHeartbeats 4000000 in
theorem law_c6 (G : GL) (K : KC) (Q : State → Prop) (hh : List (Nat × Nat × Nat × Nat)) (hg : Gd G K RL code 9 ret room_1 hh) (bS L : Nat) (xs : Nat → Int32) (hX : q_scr G K bS L xs) (i kc ks J : Nat) (hi : i + 5 < L) (hL31 : L < 2 ^ 31) (hkc : kc + 8 ≤ 601024) (hks : ks + 48 ≤ 7293034) (σ : Nat → va_E) (hI : iv G σ J) (hJ : J < 512) (hfd : q_fdn) (hdd : q_ddn) (hf2 : q_f2n) (hds : q_dcs) (hnxt : ∀ σ9 : Nat → va_E, iv G σ9 (J + 1) → AJ G K Q (kc + 8) (ks + 48) false 296 3062 [some (.ref bS), some (.ref (q_h G + 0)), some (.ref (q_h G + 279)), some (.ref (q_h G + 294)), some (.ref (q_h G + 295)), some (.int (nI (i))), none, none, none] [] σ9) : AJ G K Q kc ks false 296 437 [some (.ref bS), some (.ref (q_h G + 0)), some (.ref (q_h G + 279)), some (.ref (q_h G + 294)), some (.ref (q_h G + 295)), some (.int (nI (i))), none, none, none] [] σ := by
  refine iv_el hI ?_
  intro il z2 z3 f lo o g nx m ps kp sn F wk as sh a fb nv ns mk va sp lp mc z ss ou oL oD
  intro hv0 hv1 hv2 hv3 hv4 hv5 hv6 hv7 hv8 hv9 hv10 hv11 hv12 hv13 hv14 hv15 hv16 hv17 hv18 hv19 hv20 hv21 hv22
  intro hL hG hM hHi hO hT hH hSn hKp
  intro hil hfb hlo2 hou hgd hps hk1 hkss hss hsn hF5 hF6 hF12 hF16 hF21 hF22 hF23 hF33 hmc hmk hTI hlo
  have hfK : ∀ a b : Nat, a ≤ 8 → b ≤ 48 → kc + a ≤ room_1.cells ∧ ks + b ≤ room_1.slots := fun a b h1 h2 => ⟨by show kc + a ≤ 601024; omega, by show ks + b ≤ 7293034; omega⟩
  have hg9 := iv_g hG
  obtain ⟨hnx8, hm8, hc78⟩ := iv_hi hHi
  have hbb := iv_byte (m := il) hfb
  have hg90 := hg9.1
  have hg96 := hg9.2.2.2.2.1
  have hnp8 := s_np_le hg9
  refine A_aload_n hg dL_law_437 rfl rfl ?_
  refine A_aload_n hg dL_law_438 rfl rfl ?_
  refine A_iload hg dL_law_439 rfl ?_
  refine A_iconst (v := (nI (1))) hg dL_law_441 (by decide) ?_
  refine A_iaddN hg dL_law_442 ?_
  refine A_sld hg hX (i + 1) (by omega) dL_law_443 ?_
  refine A_aload_n hg dL_law_444 rfl rfl ?_
  refine A_iload hg dL_law_445 rfl ?_
  refine A_iconst (v := (nI (2))) hg dL_law_447 (by decide) ?_
  refine A_iaddN hg dL_law_448 ?_
  refine A_sld hg hX (i + 2) (by omega) dL_law_449 ?_
  refine A_aload_n hg dL_law_450 rfl rfl ?_
  refine A_callSH (As := [.ref (q_h G + 0), .int (xs (i + 1)), .int (xs (i + 2)), .ref (q_h G + 294)]) (rest := []) hg lkH_173 stH_L_account dL_law_451 ⟨by decide, by decide⟩ (hfK 2 12 (by decide) (by decide)) rfl rfl (Nat.le_of_ble_eq_true rfl) (c_L_account G 296 σ (nI (il)) z2 z3 g (xs (i + 1)) (xs (i + 2)) oL hv0 hv21 (by omega) hG (by omega)) ?_
  rintro _ σ_1 (⟨p1C, x1C, rfl, Chpe, Chpl, Chxe, Chxl, hc_2, hf_3⟩ | ⟨rfl, Chxx, he_4⟩ | ⟨rfl, Chxx, he_5⟩)
  · skip
    refine (?_ : AJ G K Q (kc + 2) (ks + 12) false 296 454 [some (.ref bS), some (.ref (q_h G + 0)), some (.ref (q_h G + 279)), some (.ref (q_h G + 294)), some (.ref (q_h G + 295)), some (.int (nI (i))), none, none, none] [.int (nI (0))] σ_1)
    have hc_6 : σ_1 0 = o10 G (nI (il)) (z2) (z3) := (hf_3 0 (by decide)).trans hv0
    have hc_7 : σ_1 1 = q_an G 600 f := (hf_3 1 (by decide)).trans hv1
    have hc_8 : σ_1 23 = o5 G (23) (nI (lo)) := (hf_3 23 (by decide)).trans hv2
    have hc_9 : σ_1 24 = q_an G 256 o := (hf_3 24 (by decide)).trans hv3
    have hc_10 : σ_1 224 = q_rn G 2 2 (fun j => some (243 + 18 * j)) := (hf_3 224 (by decide)).trans hv4
    have hc_11 : σ_1 225 = q_bn G 2 kp := (hf_3 225 (by decide)).trans hv5
    have hc_12 : σ_1 279 = o11 G F := (hf_3 279 (by decide)).trans hv6
    have hc_13 : σ_1 280 = q_an G 265 g := (hf_3 280 (by decide)).trans hv7
    have hc_14 : σ_1 281 = q_an G 265 wk := (hf_3 281 (by decide)).trans hv8
    have hc_15 : σ_1 282 = q_an G 265 as := (hf_3 282 (by decide)).trans hv9
    have hc_16 : σ_1 283 = q_an G 530 sh := (hf_3 283 (by decide)).trans hv10
    have hc_17 : σ_1 284 = q_an G 2120 a := (hf_3 284 (by decide)).trans hv11
    have hc_18 : σ_1 285 = q_bn G 1681 fb := (hf_3 285 (by decide)).trans hv12
    have hc_19 : σ_1 286 = q_an G 1681 nv := (hf_3 286 (by decide)).trans hv13
    have hc_20 : σ_1 287 = q_an G 1681 ns := (hf_3 287 (by decide)).trans hv14
    have hc_21 : σ_1 288 = q_an G 2000 mk := (hf_3 288 (by decide)).trans hv15
    have hc_22 : σ_1 289 = q_an G 6724 va := (hf_3 289 (by decide)).trans hv16
    have hc_23 : σ_1 290 = q_an G 6724 sp := (hf_3 290 (by decide)).trans hv17
    have hc_24 : σ_1 291 = q_an G 80 lp := (hf_3 291 (by decide)).trans hv18
    have hc_25 : σ_1 292 = q_an G 600 f := (hf_3 292 (by decide)).trans hv19
    have hc_26 : σ_1 293 = q_an G 300 ou := (hf_3 293 (by decide)).trans hv20
    have hc_27 : σ_1 295 = q_dn G 1 oD := (hf_3 295 (by decide)).trans hv22
    refine A_istore hg dL_law_454 (by decide) (q_c1d rfl) ?_
    refine A_eq (ls2 := [some (.ref bS), some (.ref (q_h G + 0)), some (.ref (q_h G + 279)), some (.ref (q_h G + 294)), some (.ref (q_h G + 295)), some (.int (nI (i))), some (.int (nI (0))), none, none]) (st2 := []) (pc2 := 0) rfl rfl ?_
    refine A_aload_n hg dL_law_456 rfl rfl ?_
    refine A_aload_n hg dL_law_457 rfl rfl ?_
    refine A_iload hg dL_law_458 rfl ?_
    refine A_iconst (v := (nI (1))) hg dL_law_460 (by decide) ?_
    refine A_iaddN hg dL_law_461 ?_
    refine A_sld hg hX (i + 1) (by omega) dL_law_462 ?_
    refine A_aload_n hg dL_law_463 rfl rfl ?_
    refine A_iload hg dL_law_464 rfl ?_
    refine A_iconst (v := (nI (2))) hg dL_law_466 (by decide) ?_
    refine A_iaddN hg dL_law_467 ?_
    refine A_sld hg hX (i + 2) (by omega) dL_law_468 ?_
    refine A_hV (kc2 := kc + 2) (ks2 := ks + 12) (As := [.int (xs (i + 1)), .int (xs (i + 2))]) (rest := []) hg lk_RL_176 in_X11_account se_X11_account rfl dL_law_469 ⟨by decide, by decide⟩ rfl rfl (hfK 2 12 (by decide) (by decide)) hc_12 (by omega) rfl rfl (Nat.le_of_ble_eq_true rfl) (c_X11_account G false 296 σ_1 F g (xs (i + 1)) (xs (i + 2)) hc_12 hc_13 (by omega) hg9) ?_
    rintro _ σ_34 (⟨rfl, Mhno, hc_28, hf_29⟩ | ⟨p1M, rfl, Mhpe, Mhpl, Mhnx, hc_30, hf_31⟩ | ⟨p1M, x1M, rfl, Mhpe, Mhpl, Mhxe, Mhxl, hc_32, hf_33⟩)
    · skip
      refine (?_ : AJ G K Q (kc + 2) (ks + 12) false 296 472 [some (.ref bS), some (.ref (q_h G + 0)), some (.ref (q_h G + 279)), some (.ref (q_h G + 294)), some (.ref (q_h G + 295)), some (.int (nI (i))), some (.int (nI (0))), none, none] [.int (nI (0))] σ_34)
      have hc_28 : σ_34 279 = o11 G (upd F 7 (nI (1))) := hc_28
      have hc_35 : σ_34 0 = o10 G (nI (il)) (z2) (z3) := (hf_29 0 (by decide)).trans hc_6
      have hc_36 : σ_34 1 = q_an G 600 f := (hf_29 1 (by decide)).trans hc_7
      have hc_37 : σ_34 23 = o5 G (23) (nI (lo)) := (hf_29 23 (by decide)).trans hc_8
      have hc_38 : σ_34 24 = q_an G 256 o := (hf_29 24 (by decide)).trans hc_9
      have hc_39 : σ_34 224 = q_rn G 2 2 (fun j => some (243 + 18 * j)) := (hf_29 224 (by decide)).trans hc_10
      have hc_40 : σ_34 225 = q_bn G 2 kp := (hf_29 225 (by decide)).trans hc_11
      have hc_41 : σ_34 280 = q_an G 265 g := (hf_29 280 (by decide)).trans hc_13
      have hc_42 : σ_34 281 = q_an G 265 wk := (hf_29 281 (by decide)).trans hc_14
      have hc_43 : σ_34 282 = q_an G 265 as := (hf_29 282 (by decide)).trans hc_15
      have hc_44 : σ_34 283 = q_an G 530 sh := (hf_29 283 (by decide)).trans hc_16
      have hc_45 : σ_34 284 = q_an G 2120 a := (hf_29 284 (by decide)).trans hc_17
      have hc_46 : σ_34 285 = q_bn G 1681 fb := (hf_29 285 (by decide)).trans hc_18
      have hc_47 : σ_34 286 = q_an G 1681 nv := (hf_29 286 (by decide)).trans hc_19
      have hc_48 : σ_34 287 = q_an G 1681 ns := (hf_29 287 (by decide)).trans hc_20
      have hc_49 : σ_34 288 = q_an G 2000 mk := (hf_29 288 (by decide)).trans hc_21
      have hc_50 : σ_34 289 = q_an G 6724 va := (hf_29 289 (by decide)).trans hc_22
      have hc_51 : σ_34 290 = q_an G 6724 sp := (hf_29 290 (by decide)).trans hc_23
      have hc_52 : σ_34 291 = q_an G 80 lp := (hf_29 291 (by decide)).trans hc_24
      have hc_53 : σ_34 292 = q_an G 600 f := (hf_29 292 (by decide)).trans hc_25
      have hc_54 : σ_34 293 = q_an G 300 ou := (hf_29 293 (by decide)).trans hc_26
      have hc_55 : σ_34 295 = q_dn G 1 oD := (hf_29 295 (by decide)).trans hc_27
      have hc_56 : σ_34 294 = q_ln G 1 (va_up oL 0 ((nI (g (7 + 5 * p1C + x1C))).toInt64)) := (hf_29 294 (by decide)).trans hc_2
      exact (Mhno p1C (by omega) (by omega) Chpe).elim
    · skip
      refine (?_ : AJ G K Q (kc + 2) (ks + 12) false 296 472 [some (.ref bS), some (.ref (q_h G + 0)), some (.ref (q_h G + 279)), some (.ref (q_h G + 294)), some (.ref (q_h G + 295)), some (.int (nI (i))), some (.int (nI (0))), none, none] [.int (nI (0))] σ_34)
      have hc_30 : σ_34 279 = o11 G (upd F 7 (nI (2))) := hc_30
      have hc_57 : σ_34 0 = o10 G (nI (il)) (z2) (z3) := (hf_31 0 (by decide)).trans hc_6
      have hc_58 : σ_34 1 = q_an G 600 f := (hf_31 1 (by decide)).trans hc_7
      have hc_59 : σ_34 23 = o5 G (23) (nI (lo)) := (hf_31 23 (by decide)).trans hc_8
      have hc_60 : σ_34 24 = q_an G 256 o := (hf_31 24 (by decide)).trans hc_9
      have hc_61 : σ_34 224 = q_rn G 2 2 (fun j => some (243 + 18 * j)) := (hf_31 224 (by decide)).trans hc_10
      have hc_62 : σ_34 225 = q_bn G 2 kp := (hf_31 225 (by decide)).trans hc_11
      have hc_63 : σ_34 280 = q_an G 265 g := (hf_31 280 (by decide)).trans hc_13
      have hc_64 : σ_34 281 = q_an G 265 wk := (hf_31 281 (by decide)).trans hc_14
      have hc_65 : σ_34 282 = q_an G 265 as := (hf_31 282 (by decide)).trans hc_15
      have hc_66 : σ_34 283 = q_an G 530 sh := (hf_31 283 (by decide)).trans hc_16
      have hc_67 : σ_34 284 = q_an G 2120 a := (hf_31 284 (by decide)).trans hc_17
      have hc_68 : σ_34 285 = q_bn G 1681 fb := (hf_31 285 (by decide)).trans hc_18
      have hc_69 : σ_34 286 = q_an G 1681 nv := (hf_31 286 (by decide)).trans hc_19
      have hc_70 : σ_34 287 = q_an G 1681 ns := (hf_31 287 (by decide)).trans hc_20
      have hc_71 : σ_34 288 = q_an G 2000 mk := (hf_31 288 (by decide)).trans hc_21
      have hc_72 : σ_34 289 = q_an G 6724 va := (hf_31 289 (by decide)).trans hc_22
      have hc_73 : σ_34 290 = q_an G 6724 sp := (hf_31 290 (by decide)).trans hc_23
      have hc_74 : σ_34 291 = q_an G 80 lp := (hf_31 291 (by decide)).trans hc_24
      have hc_75 : σ_34 292 = q_an G 600 f := (hf_31 292 (by decide)).trans hc_25
      have hc_76 : σ_34 293 = q_an G 300 ou := (hf_31 293 (by decide)).trans hc_26
      have hc_77 : σ_34 295 = q_dn G 1 oD := (hf_31 295 (by decide)).trans hc_27
      have hc_78 : σ_34 294 = q_ln G 1 (va_up oL 0 ((nI (g (7 + 5 * p1C + x1C))).toInt64)) := (hf_31 294 (by decide)).trans hc_2
      have e_p : p1C = p1M := q_nI_inj (by omega) (by omega) (Chpe.symm.trans Mhpe)
      subst e_p
      exact (Mhnx x1C (by omega) (by omega) Chxe).elim
    · skip
      refine (?_ : AJ G K Q (kc + 2) (ks + 12) false 296 472 [some (.ref bS), some (.ref (q_h G + 0)), some (.ref (q_h G + 279)), some (.ref (q_h G + 294)), some (.ref (q_h G + 295)), some (.int (nI (i))), some (.int (nI (0))), none, none] [.int (nI (g (7 + 5 * p1M + x1M)))] σ_34)
      have hc_32 : σ_34 279 = o11 G (upd F 7 (nI (0))) := hc_32
      have hc_79 : σ_34 0 = o10 G (nI (il)) (z2) (z3) := (hf_33 0 (by decide)).trans hc_6
      have hc_80 : σ_34 1 = q_an G 600 f := (hf_33 1 (by decide)).trans hc_7
      have hc_81 : σ_34 23 = o5 G (23) (nI (lo)) := (hf_33 23 (by decide)).trans hc_8
      have hc_82 : σ_34 24 = q_an G 256 o := (hf_33 24 (by decide)).trans hc_9
      have hc_83 : σ_34 224 = q_rn G 2 2 (fun j => some (243 + 18 * j)) := (hf_33 224 (by decide)).trans hc_10
      have hc_84 : σ_34 225 = q_bn G 2 kp := (hf_33 225 (by decide)).trans hc_11
      have hc_85 : σ_34 280 = q_an G 265 g := (hf_33 280 (by decide)).trans hc_13
      have hc_86 : σ_34 281 = q_an G 265 wk := (hf_33 281 (by decide)).trans hc_14
      have hc_87 : σ_34 282 = q_an G 265 as := (hf_33 282 (by decide)).trans hc_15
      have hc_88 : σ_34 283 = q_an G 530 sh := (hf_33 283 (by decide)).trans hc_16
      have hc_89 : σ_34 284 = q_an G 2120 a := (hf_33 284 (by decide)).trans hc_17
      have hc_90 : σ_34 285 = q_bn G 1681 fb := (hf_33 285 (by decide)).trans hc_18
      have hc_91 : σ_34 286 = q_an G 1681 nv := (hf_33 286 (by decide)).trans hc_19
      have hc_92 : σ_34 287 = q_an G 1681 ns := (hf_33 287 (by decide)).trans hc_20
      have hc_93 : σ_34 288 = q_an G 2000 mk := (hf_33 288 (by decide)).trans hc_21
      have hc_94 : σ_34 289 = q_an G 6724 va := (hf_33 289 (by decide)).trans hc_22
      have hc_95 : σ_34 290 = q_an G 6724 sp := (hf_33 290 (by decide)).trans hc_23
      have hc_96 : σ_34 291 = q_an G 80 lp := (hf_33 291 (by decide)).trans hc_24
      have hc_97 : σ_34 292 = q_an G 600 f := (hf_33 292 (by decide)).trans hc_25
      have hc_98 : σ_34 293 = q_an G 300 ou := (hf_33 293 (by decide)).trans hc_26
      have hc_99 : σ_34 295 = q_dn G 1 oD := (hf_33 295 (by decide)).trans hc_27
      have hc_100 : σ_34 294 = q_ln G 1 (va_up oL 0 ((nI (g (7 + 5 * p1C + x1C))).toInt64)) := (hf_33 294 (by decide)).trans hc_2
      have e_p : p1C = p1M := q_nI_inj (by omega) (by omega) (Chpe.symm.trans Mhpe)
      subst e_p
      have e_x : x1C = x1M := q_nI_inj (by omega) (by omega) (Chxe.symm.trans Mhxe)
      subst e_x
      refine A_istore hg dL_law_472 (by decide) (q_c1d rfl) ?_
      refine A_eq (ls2 := [some (.ref bS), some (.ref (q_h G + 0)), some (.ref (q_h G + 279)), some (.ref (q_h G + 294)), some (.ref (q_h G + 295)), some (.int (nI (i))), some (.int (nI (0))), some (.int (nI (g (7 + 5 * p1C + x1C)))), none]) (st2 := []) (pc2 := 0) rfl rfl ?_
      refine A_aload_n hg dL_law_474 rfl rfl ?_
      refine A_eV (kc2 := kc + 2) (ks2 := ks + 12) (As := []) (rest := []) hg lk_RL_170 in_X11_thrown se_X11_thrown rfl dL_law_475 ⟨by decide, by decide⟩ rfl rfl (hfK 2 12 (by decide) (by decide)) hc_32 (by omega) rfl rfl (Nat.le_of_ble_eq_true rfl) (c_X11_thrown G false 296 σ_34 (upd F 7 (nI (0))) hc_32 (by omega)) ?_
      refine A_top (w := .int (nI (0))) (congrArg Value.int rfl) ?_
      refine A_iload hg dL_law_478 rfl ?_
      refine A_icmp_eqN (tgt := 485) hg dL_law_480 (by decide) (by decide) (by decide) (fun c480 => ?_) (fun c480 => False.elim (by omega))
      refine A_iload hg dL_law_485 rfl ?_
      refine A_if_neN (tgt := 502) hg dL_law_487 (by decide) (by decide) (fun c487 => absurd (by decide) c487) (fun c487 => ?_)
      refine A_aload_n hg dL_law_490 rfl rfl ?_
      refine A_iconst (v := (nI (0))) hg dL_law_491 (by decide) ?_
      refine A_lald (j := 0) hg dL_law_492 hc_100 (by omega) (by decide) (by decide) ?_
      refine A_top (w := .long ((nI (g (7 + 5 * p1C + x1C))).toInt64)) (congrArg Value.long iv_up0) ?_
      refine A_iload hg dL_law_493 rfl ?_
      refine A_i2l (v := (nI (g (7 + 5 * p1C + x1C))).toInt64) hg dL_law_495 rfl ?_
      refine A_lcmp hg dL_law_496 ?_
      refine A_top (w := .int (nI 0)) (congrArg Value.int (lc_self _)) ?_
      refine A_if_eqN (tgt := 502) hg dL_law_497 (by decide) (by decide) (fun c497 => ?_) (fun c497 => absurd (by decide) c497)
      refine A_goto (tgt := 3062) hg dL_law_502 (by decide) ?_
      refine A_drop 6 ?_
      refine A_drop 7 ?_
      refine A_eq (ls2 := [some (.ref bS), some (.ref (q_h G + 0)), some (.ref (q_h G + 279)), some (.ref (q_h G + 294)), some (.ref (q_h G + 295)), some (.int (nI (i))), none, none, none]) (st2 := []) (pc2 := 0) rfl rfl ?_
      refine A_wide (kc2 := kc + 8) (ks2 := ks + 48) (by omega) (by omega) ?_
      exact hnxt _ (iv_mk il z2 z3 f lo o g nx m ps kp sn (upd F 7 (nI (0))) wk as sh a fb nv ns mk va sp lp mc z ss ou (va_up oL 0 ((nI (g (7 + 5 * p1C + x1C))).toInt64)) oD hc_79 hc_80 hc_81 hc_82 hc_83 hc_84 hc_32 hc_85 hc_86 hc_87 hc_88 hc_89 hc_90 hc_91 hc_92 hc_93 hc_94 hc_95 hc_96 hc_97 hc_98 hc_100 hc_99 (x_lj_e (fun i _ _ => ((hf_33 i (by omega)).trans (hf_3 i (by omega)))) hL) (x_gm_e (fun i _ _ => ((hf_33 i (by omega)).trans (hf_3 i (by omega)))) hG) (x_mx_e (fun i _ _ => ((hf_33 i (by omega)).trans (hf_3 i (by omega)))) hM) (x_hi_e (fun i _ _ => ((hf_33 i (by omega)).trans (hf_3 i (by omega)))) hHi) (x_oj_e (fun i _ _ => ((hf_33 i (by omega)).trans (hf_3 i (by omega)))) hO) (x_pj_e (fun i _ _ => ((hf_33 i (by omega)).trans (hf_3 i (by omega)))) hT) (iv_hn (fun i _ _ => ((hf_33 i (by omega)).trans (hf_3 i (by omega)))) hH) (iv_Sn (fun i _ _ => ((hf_33 i (by omega)).trans (hf_3 i (by omega)))) hSn) (iv_Kp (fun i _ _ => ((hf_33 i (by omega)).trans (hf_3 i (by omega)))) hKp) (by omega) hfb (by omega) hou hgd hps hk1 hkss hss hsn hF5 hF6 hF12 hF16 hF21 hF22 hF23 hF33 (by omega) hmk hTI hlo)
  · skip
    rw [he_4]
    refine (?_ : AJ G K Q (kc + 2) (ks + 12) false 296 454 [some (.ref bS), some (.ref (q_h G + 0)), some (.ref (q_h G + 279)), some (.ref (q_h G + 294)), some (.ref (q_h G + 295)), some (.int (nI (i))), none, none, none] [.int (nI (1))] σ)
    refine A_istore hg dL_law_454 (by decide) (q_c1d rfl) ?_
    refine A_eq (ls2 := [some (.ref bS), some (.ref (q_h G + 0)), some (.ref (q_h G + 279)), some (.ref (q_h G + 294)), some (.ref (q_h G + 295)), some (.int (nI (i))), some (.int (nI (1))), none, none]) (st2 := []) (pc2 := 0) rfl rfl ?_
    refine A_aload_n hg dL_law_456 rfl rfl ?_
    refine A_aload_n hg dL_law_457 rfl rfl ?_
    refine A_iload hg dL_law_458 rfl ?_
    refine A_iconst (v := (nI (1))) hg dL_law_460 (by decide) ?_
    refine A_iaddN hg dL_law_461 ?_
    refine A_sld hg hX (i + 1) (by omega) dL_law_462 ?_
    refine A_aload_n hg dL_law_463 rfl rfl ?_
    refine A_iload hg dL_law_464 rfl ?_
    refine A_iconst (v := (nI (2))) hg dL_law_466 (by decide) ?_
    refine A_iaddN hg dL_law_467 ?_
    refine A_sld hg hX (i + 2) (by omega) dL_law_468 ?_
    refine A_hV (kc2 := kc + 2) (ks2 := ks + 12) (As := [.int (xs (i + 1)), .int (xs (i + 2))]) (rest := []) hg lk_RL_176 in_X11_account se_X11_account rfl dL_law_469 ⟨by decide, by decide⟩ rfl rfl (hfK 2 12 (by decide) (by decide)) hv6 (by omega) rfl rfl (Nat.le_of_ble_eq_true rfl) (c_X11_account G false 296 σ F g (xs (i + 1)) (xs (i + 2)) hv6 hv7 (by omega) hg9) ?_
    rintro _ σ_107 (⟨rfl, Mhno, hc_101, hf_102⟩ | ⟨p1M, rfl, Mhpe, Mhpl, Mhnx, hc_103, hf_104⟩ | ⟨p1M, x1M, rfl, Mhpe, Mhpl, Mhxe, Mhxl, hc_105, hf_106⟩)
    · skip
      refine (?_ : AJ G K Q (kc + 2) (ks + 12) false 296 472 [some (.ref bS), some (.ref (q_h G + 0)), some (.ref (q_h G + 279)), some (.ref (q_h G + 294)), some (.ref (q_h G + 295)), some (.int (nI (i))), some (.int (nI (1))), none, none] [.int (nI (0))] σ_107)
      have hc_101 : σ_107 279 = o11 G (upd F 7 (nI (1))) := hc_101
      have hc_108 : σ_107 0 = o10 G (nI (il)) (z2) (z3) := (hf_102 0 (by decide)).trans hv0
      have hc_109 : σ_107 1 = q_an G 600 f := (hf_102 1 (by decide)).trans hv1
      have hc_110 : σ_107 23 = o5 G (23) (nI (lo)) := (hf_102 23 (by decide)).trans hv2
      have hc_111 : σ_107 24 = q_an G 256 o := (hf_102 24 (by decide)).trans hv3
      have hc_112 : σ_107 224 = q_rn G 2 2 (fun j => some (243 + 18 * j)) := (hf_102 224 (by decide)).trans hv4
      have hc_113 : σ_107 225 = q_bn G 2 kp := (hf_102 225 (by decide)).trans hv5
      have hc_114 : σ_107 280 = q_an G 265 g := (hf_102 280 (by decide)).trans hv7
      have hc_115 : σ_107 281 = q_an G 265 wk := (hf_102 281 (by decide)).trans hv8
      have hc_116 : σ_107 282 = q_an G 265 as := (hf_102 282 (by decide)).trans hv9
      have hc_117 : σ_107 283 = q_an G 530 sh := (hf_102 283 (by decide)).trans hv10
      have hc_118 : σ_107 284 = q_an G 2120 a := (hf_102 284 (by decide)).trans hv11
      have hc_119 : σ_107 285 = q_bn G 1681 fb := (hf_102 285 (by decide)).trans hv12
      have hc_120 : σ_107 286 = q_an G 1681 nv := (hf_102 286 (by decide)).trans hv13
      have hc_121 : σ_107 287 = q_an G 1681 ns := (hf_102 287 (by decide)).trans hv14
      have hc_122 : σ_107 288 = q_an G 2000 mk := (hf_102 288 (by decide)).trans hv15
      have hc_123 : σ_107 289 = q_an G 6724 va := (hf_102 289 (by decide)).trans hv16
      have hc_124 : σ_107 290 = q_an G 6724 sp := (hf_102 290 (by decide)).trans hv17
      have hc_125 : σ_107 291 = q_an G 80 lp := (hf_102 291 (by decide)).trans hv18
      have hc_126 : σ_107 292 = q_an G 600 f := (hf_102 292 (by decide)).trans hv19
      have hc_127 : σ_107 293 = q_an G 300 ou := (hf_102 293 (by decide)).trans hv20
      have hc_128 : σ_107 294 = q_ln G 1 oL := (hf_102 294 (by decide)).trans hv21
      have hc_129 : σ_107 295 = q_dn G 1 oD := (hf_102 295 (by decide)).trans hv22
      refine A_istore hg dL_law_472 (by decide) (q_c1d rfl) ?_
      refine A_eq (ls2 := [some (.ref bS), some (.ref (q_h G + 0)), some (.ref (q_h G + 279)), some (.ref (q_h G + 294)), some (.ref (q_h G + 295)), some (.int (nI (i))), some (.int (nI (1))), some (.int (nI (0))), none]) (st2 := []) (pc2 := 0) rfl rfl ?_
      refine A_aload_n hg dL_law_474 rfl rfl ?_
      refine A_eV (kc2 := kc + 2) (ks2 := ks + 12) (As := []) (rest := []) hg lk_RL_170 in_X11_thrown se_X11_thrown rfl dL_law_475 ⟨by decide, by decide⟩ rfl rfl (hfK 2 12 (by decide) (by decide)) hc_101 (by omega) rfl rfl (Nat.le_of_ble_eq_true rfl) (c_X11_thrown G false 296 σ_107 (upd F 7 (nI (1))) hc_101 (by omega)) ?_
      refine A_top (w := .int (nI (1))) (congrArg Value.int rfl) ?_
      refine A_iload hg dL_law_478 rfl ?_
      refine A_icmp_eqN (tgt := 485) hg dL_law_480 (by decide) (by decide) (by decide) (fun c480 => ?_) (fun c480 => False.elim (by omega))
      refine A_iload hg dL_law_485 rfl ?_
      refine A_if_neN (tgt := 502) hg dL_law_487 (by decide) (by decide) (fun c487 => ?_) (fun c487 => absurd c487 (by decide))
      refine A_goto (tgt := 3062) hg dL_law_502 (by decide) ?_
      refine A_drop 6 ?_
      refine A_drop 7 ?_
      refine A_eq (ls2 := [some (.ref bS), some (.ref (q_h G + 0)), some (.ref (q_h G + 279)), some (.ref (q_h G + 294)), some (.ref (q_h G + 295)), some (.int (nI (i))), none, none, none]) (st2 := []) (pc2 := 0) rfl rfl ?_
      refine A_wide (kc2 := kc + 8) (ks2 := ks + 48) (by omega) (by omega) ?_
      exact hnxt _ (iv_mk il z2 z3 f lo o g nx m ps kp sn (upd F 7 (nI (1))) wk as sh a fb nv ns mk va sp lp mc z ss ou oL oD hc_108 hc_109 hc_110 hc_111 hc_112 hc_113 hc_101 hc_114 hc_115 hc_116 hc_117 hc_118 hc_119 hc_120 hc_121 hc_122 hc_123 hc_124 hc_125 hc_126 hc_127 hc_128 hc_129 (x_lj_e (fun i _ _ => (hf_102 i (by omega))) hL) (x_gm_e (fun i _ _ => (hf_102 i (by omega))) hG) (x_mx_e (fun i _ _ => (hf_102 i (by omega))) hM) (x_hi_e (fun i _ _ => (hf_102 i (by omega))) hHi) (x_oj_e (fun i _ _ => (hf_102 i (by omega))) hO) (x_pj_e (fun i _ _ => (hf_102 i (by omega))) hT) (iv_hn (fun i _ _ => (hf_102 i (by omega))) hH) (iv_Sn (fun i _ _ => (hf_102 i (by omega))) hSn) (iv_Kp (fun i _ _ => (hf_102 i (by omega))) hKp) (by omega) hfb (by omega) hou hgd hps hk1 hkss hss hsn hF5 hF6 hF12 hF16 hF21 hF22 hF23 hF33 (by omega) hmk hTI hlo)
    · skip
      refine (?_ : AJ G K Q (kc + 2) (ks + 12) false 296 472 [some (.ref bS), some (.ref (q_h G + 0)), some (.ref (q_h G + 279)), some (.ref (q_h G + 294)), some (.ref (q_h G + 295)), some (.int (nI (i))), some (.int (nI (1))), none, none] [.int (nI (0))] σ_107)
      have hc_103 : σ_107 279 = o11 G (upd F 7 (nI (2))) := hc_103
      have hc_130 : σ_107 0 = o10 G (nI (il)) (z2) (z3) := (hf_104 0 (by decide)).trans hv0
      have hc_131 : σ_107 1 = q_an G 600 f := (hf_104 1 (by decide)).trans hv1
      have hc_132 : σ_107 23 = o5 G (23) (nI (lo)) := (hf_104 23 (by decide)).trans hv2
      have hc_133 : σ_107 24 = q_an G 256 o := (hf_104 24 (by decide)).trans hv3
      have hc_134 : σ_107 224 = q_rn G 2 2 (fun j => some (243 + 18 * j)) := (hf_104 224 (by decide)).trans hv4
      have hc_135 : σ_107 225 = q_bn G 2 kp := (hf_104 225 (by decide)).trans hv5
      have hc_136 : σ_107 280 = q_an G 265 g := (hf_104 280 (by decide)).trans hv7
      have hc_137 : σ_107 281 = q_an G 265 wk := (hf_104 281 (by decide)).trans hv8
      have hc_138 : σ_107 282 = q_an G 265 as := (hf_104 282 (by decide)).trans hv9
      have hc_139 : σ_107 283 = q_an G 530 sh := (hf_104 283 (by decide)).trans hv10
      have hc_140 : σ_107 284 = q_an G 2120 a := (hf_104 284 (by decide)).trans hv11
      have hc_141 : σ_107 285 = q_bn G 1681 fb := (hf_104 285 (by decide)).trans hv12
      have hc_142 : σ_107 286 = q_an G 1681 nv := (hf_104 286 (by decide)).trans hv13
      have hc_143 : σ_107 287 = q_an G 1681 ns := (hf_104 287 (by decide)).trans hv14
      have hc_144 : σ_107 288 = q_an G 2000 mk := (hf_104 288 (by decide)).trans hv15
      have hc_145 : σ_107 289 = q_an G 6724 va := (hf_104 289 (by decide)).trans hv16
      have hc_146 : σ_107 290 = q_an G 6724 sp := (hf_104 290 (by decide)).trans hv17
      have hc_147 : σ_107 291 = q_an G 80 lp := (hf_104 291 (by decide)).trans hv18
      have hc_148 : σ_107 292 = q_an G 600 f := (hf_104 292 (by decide)).trans hv19
      have hc_149 : σ_107 293 = q_an G 300 ou := (hf_104 293 (by decide)).trans hv20
      have hc_150 : σ_107 294 = q_ln G 1 oL := (hf_104 294 (by decide)).trans hv21
      have hc_151 : σ_107 295 = q_dn G 1 oD := (hf_104 295 (by decide)).trans hv22
      exact (Chxx p1M (by omega) (by omega) Mhpe).elim
    · skip
      refine (?_ : AJ G K Q (kc + 2) (ks + 12) false 296 472 [some (.ref bS), some (.ref (q_h G + 0)), some (.ref (q_h G + 279)), some (.ref (q_h G + 294)), some (.ref (q_h G + 295)), some (.int (nI (i))), some (.int (nI (1))), none, none] [.int (nI (g (7 + 5 * p1M + x1M)))] σ_107)
      have hc_105 : σ_107 279 = o11 G (upd F 7 (nI (0))) := hc_105
      have hc_152 : σ_107 0 = o10 G (nI (il)) (z2) (z3) := (hf_106 0 (by decide)).trans hv0
      have hc_153 : σ_107 1 = q_an G 600 f := (hf_106 1 (by decide)).trans hv1
      have hc_154 : σ_107 23 = o5 G (23) (nI (lo)) := (hf_106 23 (by decide)).trans hv2
      have hc_155 : σ_107 24 = q_an G 256 o := (hf_106 24 (by decide)).trans hv3
      have hc_156 : σ_107 224 = q_rn G 2 2 (fun j => some (243 + 18 * j)) := (hf_106 224 (by decide)).trans hv4
      have hc_157 : σ_107 225 = q_bn G 2 kp := (hf_106 225 (by decide)).trans hv5
      have hc_158 : σ_107 280 = q_an G 265 g := (hf_106 280 (by decide)).trans hv7
      have hc_159 : σ_107 281 = q_an G 265 wk := (hf_106 281 (by decide)).trans hv8
      have hc_160 : σ_107 282 = q_an G 265 as := (hf_106 282 (by decide)).trans hv9
      have hc_161 : σ_107 283 = q_an G 530 sh := (hf_106 283 (by decide)).trans hv10
      have hc_162 : σ_107 284 = q_an G 2120 a := (hf_106 284 (by decide)).trans hv11
      have hc_163 : σ_107 285 = q_bn G 1681 fb := (hf_106 285 (by decide)).trans hv12
      have hc_164 : σ_107 286 = q_an G 1681 nv := (hf_106 286 (by decide)).trans hv13
      have hc_165 : σ_107 287 = q_an G 1681 ns := (hf_106 287 (by decide)).trans hv14
      have hc_166 : σ_107 288 = q_an G 2000 mk := (hf_106 288 (by decide)).trans hv15
      have hc_167 : σ_107 289 = q_an G 6724 va := (hf_106 289 (by decide)).trans hv16
      have hc_168 : σ_107 290 = q_an G 6724 sp := (hf_106 290 (by decide)).trans hv17
      have hc_169 : σ_107 291 = q_an G 80 lp := (hf_106 291 (by decide)).trans hv18
      have hc_170 : σ_107 292 = q_an G 600 f := (hf_106 292 (by decide)).trans hv19
      have hc_171 : σ_107 293 = q_an G 300 ou := (hf_106 293 (by decide)).trans hv20
      have hc_172 : σ_107 294 = q_ln G 1 oL := (hf_106 294 (by decide)).trans hv21
      have hc_173 : σ_107 295 = q_dn G 1 oD := (hf_106 295 (by decide)).trans hv22
      exact (Chxx p1M (by omega) (by omega) Mhpe).elim
  · skip
    rw [he_5]
    refine (?_ : AJ G K Q (kc + 2) (ks + 12) false 296 454 [some (.ref bS), some (.ref (q_h G + 0)), some (.ref (q_h G + 279)), some (.ref (q_h G + 294)), some (.ref (q_h G + 295)), some (.int (nI (i))), none, none, none] [.int (nI (2))] σ)
    obtain ⟨p1C, Chx0, Chx1, Chx2⟩ := Chxx
    refine A_istore hg dL_law_454 (by decide) (q_c1d rfl) ?_
    refine A_eq (ls2 := [some (.ref bS), some (.ref (q_h G + 0)), some (.ref (q_h G + 279)), some (.ref (q_h G + 294)), some (.ref (q_h G + 295)), some (.int (nI (i))), some (.int (nI (2))), none, none]) (st2 := []) (pc2 := 0) rfl rfl ?_
    refine A_aload_n hg dL_law_456 rfl rfl ?_
    refine A_aload_n hg dL_law_457 rfl rfl ?_
    refine A_iload hg dL_law_458 rfl ?_
    refine A_iconst (v := (nI (1))) hg dL_law_460 (by decide) ?_
    refine A_iaddN hg dL_law_461 ?_
    refine A_sld hg hX (i + 1) (by omega) dL_law_462 ?_
    refine A_aload_n hg dL_law_463 rfl rfl ?_
    refine A_iload hg dL_law_464 rfl ?_
    refine A_iconst (v := (nI (2))) hg dL_law_466 (by decide) ?_
    refine A_iaddN hg dL_law_467 ?_
    refine A_sld hg hX (i + 2) (by omega) dL_law_468 ?_
    refine A_hV (kc2 := kc + 2) (ks2 := ks + 12) (As := [.int (xs (i + 1)), .int (xs (i + 2))]) (rest := []) hg lk_RL_176 in_X11_account se_X11_account rfl dL_law_469 ⟨by decide, by decide⟩ rfl rfl (hfK 2 12 (by decide) (by decide)) hv6 (by omega) rfl rfl (Nat.le_of_ble_eq_true rfl) (c_X11_account G false 296 σ F g (xs (i + 1)) (xs (i + 2)) hv6 hv7 (by omega) hg9) ?_
    rintro _ σ_180 (⟨rfl, Mhno, hc_174, hf_175⟩ | ⟨p1M, rfl, Mhpe, Mhpl, Mhnx, hc_176, hf_177⟩ | ⟨p1M, x1M, rfl, Mhpe, Mhpl, Mhxe, Mhxl, hc_178, hf_179⟩)
    · skip
      refine (?_ : AJ G K Q (kc + 2) (ks + 12) false 296 472 [some (.ref bS), some (.ref (q_h G + 0)), some (.ref (q_h G + 279)), some (.ref (q_h G + 294)), some (.ref (q_h G + 295)), some (.int (nI (i))), some (.int (nI (2))), none, none] [.int (nI (0))] σ_180)
      have hc_174 : σ_180 279 = o11 G (upd F 7 (nI (1))) := hc_174
      have hc_181 : σ_180 0 = o10 G (nI (il)) (z2) (z3) := (hf_175 0 (by decide)).trans hv0
      have hc_182 : σ_180 1 = q_an G 600 f := (hf_175 1 (by decide)).trans hv1
      have hc_183 : σ_180 23 = o5 G (23) (nI (lo)) := (hf_175 23 (by decide)).trans hv2
      have hc_184 : σ_180 24 = q_an G 256 o := (hf_175 24 (by decide)).trans hv3
      have hc_185 : σ_180 224 = q_rn G 2 2 (fun j => some (243 + 18 * j)) := (hf_175 224 (by decide)).trans hv4
      have hc_186 : σ_180 225 = q_bn G 2 kp := (hf_175 225 (by decide)).trans hv5
      have hc_187 : σ_180 280 = q_an G 265 g := (hf_175 280 (by decide)).trans hv7
      have hc_188 : σ_180 281 = q_an G 265 wk := (hf_175 281 (by decide)).trans hv8
      have hc_189 : σ_180 282 = q_an G 265 as := (hf_175 282 (by decide)).trans hv9
      have hc_190 : σ_180 283 = q_an G 530 sh := (hf_175 283 (by decide)).trans hv10
      have hc_191 : σ_180 284 = q_an G 2120 a := (hf_175 284 (by decide)).trans hv11
      have hc_192 : σ_180 285 = q_bn G 1681 fb := (hf_175 285 (by decide)).trans hv12
      have hc_193 : σ_180 286 = q_an G 1681 nv := (hf_175 286 (by decide)).trans hv13
      have hc_194 : σ_180 287 = q_an G 1681 ns := (hf_175 287 (by decide)).trans hv14
      have hc_195 : σ_180 288 = q_an G 2000 mk := (hf_175 288 (by decide)).trans hv15
      have hc_196 : σ_180 289 = q_an G 6724 va := (hf_175 289 (by decide)).trans hv16
      have hc_197 : σ_180 290 = q_an G 6724 sp := (hf_175 290 (by decide)).trans hv17
      have hc_198 : σ_180 291 = q_an G 80 lp := (hf_175 291 (by decide)).trans hv18
      have hc_199 : σ_180 292 = q_an G 600 f := (hf_175 292 (by decide)).trans hv19
      have hc_200 : σ_180 293 = q_an G 300 ou := (hf_175 293 (by decide)).trans hv20
      have hc_201 : σ_180 294 = q_ln G 1 oL := (hf_175 294 (by decide)).trans hv21
      have hc_202 : σ_180 295 = q_dn G 1 oD := (hf_175 295 (by decide)).trans hv22
      exact (Mhno p1C (by omega) (by omega) Chx0).elim
    · skip
      refine (?_ : AJ G K Q (kc + 2) (ks + 12) false 296 472 [some (.ref bS), some (.ref (q_h G + 0)), some (.ref (q_h G + 279)), some (.ref (q_h G + 294)), some (.ref (q_h G + 295)), some (.int (nI (i))), some (.int (nI (2))), none, none] [.int (nI (0))] σ_180)
      have hc_176 : σ_180 279 = o11 G (upd F 7 (nI (2))) := hc_176
      have hc_203 : σ_180 0 = o10 G (nI (il)) (z2) (z3) := (hf_177 0 (by decide)).trans hv0
      have hc_204 : σ_180 1 = q_an G 600 f := (hf_177 1 (by decide)).trans hv1
      have hc_205 : σ_180 23 = o5 G (23) (nI (lo)) := (hf_177 23 (by decide)).trans hv2
      have hc_206 : σ_180 24 = q_an G 256 o := (hf_177 24 (by decide)).trans hv3
      have hc_207 : σ_180 224 = q_rn G 2 2 (fun j => some (243 + 18 * j)) := (hf_177 224 (by decide)).trans hv4
      have hc_208 : σ_180 225 = q_bn G 2 kp := (hf_177 225 (by decide)).trans hv5
      have hc_209 : σ_180 280 = q_an G 265 g := (hf_177 280 (by decide)).trans hv7
      have hc_210 : σ_180 281 = q_an G 265 wk := (hf_177 281 (by decide)).trans hv8
      have hc_211 : σ_180 282 = q_an G 265 as := (hf_177 282 (by decide)).trans hv9
      have hc_212 : σ_180 283 = q_an G 530 sh := (hf_177 283 (by decide)).trans hv10
      have hc_213 : σ_180 284 = q_an G 2120 a := (hf_177 284 (by decide)).trans hv11
      have hc_214 : σ_180 285 = q_bn G 1681 fb := (hf_177 285 (by decide)).trans hv12
      have hc_215 : σ_180 286 = q_an G 1681 nv := (hf_177 286 (by decide)).trans hv13
      have hc_216 : σ_180 287 = q_an G 1681 ns := (hf_177 287 (by decide)).trans hv14
      have hc_217 : σ_180 288 = q_an G 2000 mk := (hf_177 288 (by decide)).trans hv15
      have hc_218 : σ_180 289 = q_an G 6724 va := (hf_177 289 (by decide)).trans hv16
      have hc_219 : σ_180 290 = q_an G 6724 sp := (hf_177 290 (by decide)).trans hv17
      have hc_220 : σ_180 291 = q_an G 80 lp := (hf_177 291 (by decide)).trans hv18
      have hc_221 : σ_180 292 = q_an G 600 f := (hf_177 292 (by decide)).trans hv19
      have hc_222 : σ_180 293 = q_an G 300 ou := (hf_177 293 (by decide)).trans hv20
      have hc_223 : σ_180 294 = q_ln G 1 oL := (hf_177 294 (by decide)).trans hv21
      have hc_224 : σ_180 295 = q_dn G 1 oD := (hf_177 295 (by decide)).trans hv22
      have e_p : p1C = p1M := q_nI_inj (by omega) (by omega) (Chx0.symm.trans Mhpe)
      subst e_p
      refine A_istore hg dL_law_472 (by decide) (q_c1d rfl) ?_
      refine A_eq (ls2 := [some (.ref bS), some (.ref (q_h G + 0)), some (.ref (q_h G + 279)), some (.ref (q_h G + 294)), some (.ref (q_h G + 295)), some (.int (nI (i))), some (.int (nI (2))), some (.int (nI (0))), none]) (st2 := []) (pc2 := 0) rfl rfl ?_
      refine A_aload_n hg dL_law_474 rfl rfl ?_
      refine A_eV (kc2 := kc + 2) (ks2 := ks + 12) (As := []) (rest := []) hg lk_RL_170 in_X11_thrown se_X11_thrown rfl dL_law_475 ⟨by decide, by decide⟩ rfl rfl (hfK 2 12 (by decide) (by decide)) hc_176 (by omega) rfl rfl (Nat.le_of_ble_eq_true rfl) (c_X11_thrown G false 296 σ_180 (upd F 7 (nI (2))) hc_176 (by omega)) ?_
      refine A_top (w := .int (nI (2))) (congrArg Value.int rfl) ?_
      refine A_iload hg dL_law_478 rfl ?_
      refine A_icmp_eqN (tgt := 485) hg dL_law_480 (by decide) (by decide) (by decide) (fun c480 => ?_) (fun c480 => False.elim (by omega))
      refine A_iload hg dL_law_485 rfl ?_
      refine A_if_neN (tgt := 502) hg dL_law_487 (by decide) (by decide) (fun c487 => ?_) (fun c487 => absurd c487 (by decide))
      refine A_goto (tgt := 3062) hg dL_law_502 (by decide) ?_
      refine A_drop 6 ?_
      refine A_drop 7 ?_
      refine A_eq (ls2 := [some (.ref bS), some (.ref (q_h G + 0)), some (.ref (q_h G + 279)), some (.ref (q_h G + 294)), some (.ref (q_h G + 295)), some (.int (nI (i))), none, none, none]) (st2 := []) (pc2 := 0) rfl rfl ?_
      refine A_wide (kc2 := kc + 8) (ks2 := ks + 48) (by omega) (by omega) ?_
      exact hnxt _ (iv_mk il z2 z3 f lo o g nx m ps kp sn (upd F 7 (nI (2))) wk as sh a fb nv ns mk va sp lp mc z ss ou oL oD hc_203 hc_204 hc_205 hc_206 hc_207 hc_208 hc_176 hc_209 hc_210 hc_211 hc_212 hc_213 hc_214 hc_215 hc_216 hc_217 hc_218 hc_219 hc_220 hc_221 hc_222 hc_223 hc_224 (x_lj_e (fun i _ _ => (hf_177 i (by omega))) hL) (x_gm_e (fun i _ _ => (hf_177 i (by omega))) hG) (x_mx_e (fun i _ _ => (hf_177 i (by omega))) hM) (x_hi_e (fun i _ _ => (hf_177 i (by omega))) hHi) (x_oj_e (fun i _ _ => (hf_177 i (by omega))) hO) (x_pj_e (fun i _ _ => (hf_177 i (by omega))) hT) (iv_hn (fun i _ _ => (hf_177 i (by omega))) hH) (iv_Sn (fun i _ _ => (hf_177 i (by omega))) hSn) (iv_Kp (fun i _ _ => (hf_177 i (by omega))) hKp) (by omega) hfb (by omega) hou hgd hps hk1 hkss hss hsn hF5 hF6 hF12 hF16 hF21 hF22 hF23 hF33 (by omega) hmk hTI hlo)
    · skip
      refine (?_ : AJ G K Q (kc + 2) (ks + 12) false 296 472 [some (.ref bS), some (.ref (q_h G + 0)), some (.ref (q_h G + 279)), some (.ref (q_h G + 294)), some (.ref (q_h G + 295)), some (.int (nI (i))), some (.int (nI (2))), none, none] [.int (nI (g (7 + 5 * p1M + x1M)))] σ_180)
      have hc_178 : σ_180 279 = o11 G (upd F 7 (nI (0))) := hc_178
      have hc_225 : σ_180 0 = o10 G (nI (il)) (z2) (z3) := (hf_179 0 (by decide)).trans hv0
      have hc_226 : σ_180 1 = q_an G 600 f := (hf_179 1 (by decide)).trans hv1
      have hc_227 : σ_180 23 = o5 G (23) (nI (lo)) := (hf_179 23 (by decide)).trans hv2
      have hc_228 : σ_180 24 = q_an G 256 o := (hf_179 24 (by decide)).trans hv3
      have hc_229 : σ_180 224 = q_rn G 2 2 (fun j => some (243 + 18 * j)) := (hf_179 224 (by decide)).trans hv4
      have hc_230 : σ_180 225 = q_bn G 2 kp := (hf_179 225 (by decide)).trans hv5
      have hc_231 : σ_180 280 = q_an G 265 g := (hf_179 280 (by decide)).trans hv7
      have hc_232 : σ_180 281 = q_an G 265 wk := (hf_179 281 (by decide)).trans hv8
      have hc_233 : σ_180 282 = q_an G 265 as := (hf_179 282 (by decide)).trans hv9
      have hc_234 : σ_180 283 = q_an G 530 sh := (hf_179 283 (by decide)).trans hv10
      have hc_235 : σ_180 284 = q_an G 2120 a := (hf_179 284 (by decide)).trans hv11
      have hc_236 : σ_180 285 = q_bn G 1681 fb := (hf_179 285 (by decide)).trans hv12
      have hc_237 : σ_180 286 = q_an G 1681 nv := (hf_179 286 (by decide)).trans hv13
      have hc_238 : σ_180 287 = q_an G 1681 ns := (hf_179 287 (by decide)).trans hv14
      have hc_239 : σ_180 288 = q_an G 2000 mk := (hf_179 288 (by decide)).trans hv15
      have hc_240 : σ_180 289 = q_an G 6724 va := (hf_179 289 (by decide)).trans hv16
      have hc_241 : σ_180 290 = q_an G 6724 sp := (hf_179 290 (by decide)).trans hv17
      have hc_242 : σ_180 291 = q_an G 80 lp := (hf_179 291 (by decide)).trans hv18
      have hc_243 : σ_180 292 = q_an G 600 f := (hf_179 292 (by decide)).trans hv19
      have hc_244 : σ_180 293 = q_an G 300 ou := (hf_179 293 (by decide)).trans hv20
      have hc_245 : σ_180 294 = q_ln G 1 oL := (hf_179 294 (by decide)).trans hv21
      have hc_246 : σ_180 295 = q_dn G 1 oD := (hf_179 295 (by decide)).trans hv22
      have e_p : p1C = p1M := q_nI_inj (by omega) (by omega) (Chx0.symm.trans Mhpe)
      subst e_p
      exact (Chx2 x1M (by omega) (by omega) Mhxe).elim
set_option maxRecDepth 100000 in
set_option maxHeartbeats 4000000 in
theorem law_c7 (G : GL) (K : KC) (Q : State → Prop) (hh : List (Nat × Nat × Nat × Nat)) (hg : Gd G K RL code 9 ret room_1 hh) (bS L : Nat) (xs : Nat → Int32) (hX : q_scr G K bS L xs) (i kc ks J : Nat) (hi : i + 5 < L) (hL31 : L < 2 ^ 31) (hkc : kc + 8 ≤ 601024) (hks : ks + 48 ≤ 7293034) (σ : Nat → va_E) (hI : iv G σ J) (hJ : J < 512) (hfd : q_fdn) (hdd : q_ddn) (hf2 : q_f2n) (hds : q_dcs) (hnxt : ∀ σ9 : Nat → va_E, iv G σ9 (J + 1) → AJ G K Q (kc + 8) (ks + 48) false 296 3062 [some (.ref bS), some (.ref (q_h G + 0)), some (.ref (q_h G + 279)), some (.ref (q_h G + 294)), some (.ref (q_h G + 295)), some (.int (nI (i))), none, none, none] [] σ9) : AJ G K Q kc ks false 296 505 [some (.ref bS), some (.ref (q_h G + 0)), some (.ref (q_h G + 279)), some (.ref (q_h G + 294)), some (.ref (q_h G + 295)), some (.int (nI (i))), none, none, none] [] σ := by
  refine iv_el hI ?_
  intro il z2 z3 f lo o g nx m ps kp sn F wk as sh a fb nv ns mk va sp lp mc z ss ou oL oD
  intro hv0 hv1 hv2 hv3 hv4 hv5 hv6 hv7 hv8 hv9 hv10 hv11 hv12 hv13 hv14 hv15 hv16 hv17 hv18 hv19 hv20 hv21 hv22
  intro hL hG hM hHi hO hT hH hSn hKp
  intro hil hfb hlo2 hou hgd hps hk1 hkss hss hsn hF5 hF6 hF12 hF16 hF21 hF22 hF23 hF33 hmc hmk hTI hlo
  have hfK : ∀ a b : Nat, a ≤ 8 → b ≤ 48 → kc + a ≤ room_1.cells ∧ ks + b ≤ room_1.slots := fun a b h1 h2 => ⟨by show kc + a ≤ 601024; omega, by show ks + b ≤ 7293034; omega⟩
  have hg9 := iv_g hG
  obtain ⟨hnx8, hm8, hc78⟩ := iv_hi hHi
  have hbb := iv_byte (m := il) hfb
  have hg90 := hg9.1
  have hg96 := hg9.2.2.2.2.1
  have hnp8 := s_np_le hg9
  refine A_aload_n hg dL_law_505 rfl rfl ?_
  refine A_aload_n hg dL_law_506 rfl rfl ?_
  refine A_iload hg dL_law_507 rfl ?_
  refine A_iconst (v := (nI (1))) hg dL_law_509 (by decide) ?_
  refine A_iaddN hg dL_law_510 ?_
  refine A_sld hg hX (i + 1) (by omega) dL_law_511 ?_
  refine A_aload_n hg dL_law_512 rfl rfl ?_
  refine A_iload hg dL_law_513 rfl ?_
  refine A_iconst (v := (nI (2))) hg dL_law_515 (by decide) ?_
  refine A_iaddN hg dL_law_516 ?_
  refine A_sld hg hX (i + 2) (by omega) dL_law_517 ?_
  refine A_aload_n hg dL_law_518 rfl rfl ?_
  refine A_callSH (As := [.ref (q_h G + 0), .int (xs (i + 1)), .int (xs (i + 2)), .ref (q_h G + 294)]) (rest := []) hg lkH_177 stH_L_turn dL_law_519 ⟨by decide, by decide⟩ (hfK 2 12 (by decide) (by decide)) rfl rfl (Nat.le_of_ble_eq_true rfl) (c_L_turn G 296 σ (nI (il)) z2 z3 g (xs (i + 1)) (xs (i + 2)) oL hv0 hv21 (by omega) hG (by omega)) ?_
  rintro _ σ_1 (⟨p1C, x1C, rfl, Chpe, Chpl, Chxe, Chxl, hc_2, hf_3⟩ | ⟨rfl, Chxx, he_4⟩ | ⟨rfl, Chxx, he_5⟩)
  · skip
    refine (?_ : AJ G K Q (kc + 2) (ks + 12) false 296 522 [some (.ref bS), some (.ref (q_h G + 0)), some (.ref (q_h G + 279)), some (.ref (q_h G + 294)), some (.ref (q_h G + 295)), some (.int (nI (i))), none, none, none] [.int (nI (0))] σ_1)
    have hc_6 : σ_1 0 = o10 G (nI (il)) (z2) (z3) := (hf_3 0 (by decide)).trans hv0
    have hc_7 : σ_1 1 = q_an G 600 f := (hf_3 1 (by decide)).trans hv1
    have hc_8 : σ_1 23 = o5 G (23) (nI (lo)) := (hf_3 23 (by decide)).trans hv2
    have hc_9 : σ_1 24 = q_an G 256 o := (hf_3 24 (by decide)).trans hv3
    have hc_10 : σ_1 224 = q_rn G 2 2 (fun j => some (243 + 18 * j)) := (hf_3 224 (by decide)).trans hv4
    have hc_11 : σ_1 225 = q_bn G 2 kp := (hf_3 225 (by decide)).trans hv5
    have hc_12 : σ_1 279 = o11 G F := (hf_3 279 (by decide)).trans hv6
    have hc_13 : σ_1 280 = q_an G 265 g := (hf_3 280 (by decide)).trans hv7
    have hc_14 : σ_1 281 = q_an G 265 wk := (hf_3 281 (by decide)).trans hv8
    have hc_15 : σ_1 282 = q_an G 265 as := (hf_3 282 (by decide)).trans hv9
    have hc_16 : σ_1 283 = q_an G 530 sh := (hf_3 283 (by decide)).trans hv10
    have hc_17 : σ_1 284 = q_an G 2120 a := (hf_3 284 (by decide)).trans hv11
    have hc_18 : σ_1 285 = q_bn G 1681 fb := (hf_3 285 (by decide)).trans hv12
    have hc_19 : σ_1 286 = q_an G 1681 nv := (hf_3 286 (by decide)).trans hv13
    have hc_20 : σ_1 287 = q_an G 1681 ns := (hf_3 287 (by decide)).trans hv14
    have hc_21 : σ_1 288 = q_an G 2000 mk := (hf_3 288 (by decide)).trans hv15
    have hc_22 : σ_1 289 = q_an G 6724 va := (hf_3 289 (by decide)).trans hv16
    have hc_23 : σ_1 290 = q_an G 6724 sp := (hf_3 290 (by decide)).trans hv17
    have hc_24 : σ_1 291 = q_an G 80 lp := (hf_3 291 (by decide)).trans hv18
    have hc_25 : σ_1 292 = q_an G 600 f := (hf_3 292 (by decide)).trans hv19
    have hc_26 : σ_1 293 = q_an G 300 ou := (hf_3 293 (by decide)).trans hv20
    have hc_27 : σ_1 295 = q_dn G 1 oD := (hf_3 295 (by decide)).trans hv22
    refine A_istore hg dL_law_522 (by decide) (q_c1d rfl) ?_
    refine A_eq (ls2 := [some (.ref bS), some (.ref (q_h G + 0)), some (.ref (q_h G + 279)), some (.ref (q_h G + 294)), some (.ref (q_h G + 295)), some (.int (nI (i))), some (.int (nI (0))), none, none]) (st2 := []) (pc2 := 0) rfl rfl ?_
    refine A_aload_n hg dL_law_524 rfl rfl ?_
    refine A_aload_n hg dL_law_525 rfl rfl ?_
    refine A_iload hg dL_law_526 rfl ?_
    refine A_iconst (v := (nI (1))) hg dL_law_528 (by decide) ?_
    refine A_iaddN hg dL_law_529 ?_
    refine A_sld hg hX (i + 1) (by omega) dL_law_530 ?_
    refine A_aload_n hg dL_law_531 rfl rfl ?_
    refine A_iload hg dL_law_532 rfl ?_
    refine A_iconst (v := (nI (2))) hg dL_law_534 (by decide) ?_
    refine A_iaddN hg dL_law_535 ?_
    refine A_sld hg hX (i + 2) (by omega) dL_law_536 ?_
    refine A_hV (kc2 := kc + 2) (ks2 := ks + 12) (As := [.int (xs (i + 1)), .int (xs (i + 2))]) (rest := []) hg lk_RL_179 in_X11_turn se_X11_turn rfl dL_law_537 ⟨by decide, by decide⟩ rfl rfl (hfK 2 12 (by decide) (by decide)) hc_12 (by omega) rfl rfl (Nat.le_of_ble_eq_true rfl) (c_X11_turn G false 296 σ_1 F g (xs (i + 1)) (xs (i + 2)) hc_12 hc_13 (by omega) hg9) ?_
    rintro _ σ_34 (⟨rfl, Mhno, hc_28, hf_29⟩ | ⟨p1M, rfl, Mhpe, Mhpl, Mhnx, hc_30, hf_31⟩ | ⟨p1M, x1M, rfl, Mhpe, Mhpl, Mhxe, Mhxl, hc_32, hf_33⟩)
    · skip
      refine (?_ : AJ G K Q (kc + 2) (ks + 12) false 296 540 [some (.ref bS), some (.ref (q_h G + 0)), some (.ref (q_h G + 279)), some (.ref (q_h G + 294)), some (.ref (q_h G + 295)), some (.int (nI (i))), some (.int (nI (0))), none, none] [.int (nI (0))] σ_34)
      have hc_28 : σ_34 279 = o11 G (upd F 7 (nI (1))) := hc_28
      have hc_35 : σ_34 0 = o10 G (nI (il)) (z2) (z3) := (hf_29 0 (by decide)).trans hc_6
      have hc_36 : σ_34 1 = q_an G 600 f := (hf_29 1 (by decide)).trans hc_7
      have hc_37 : σ_34 23 = o5 G (23) (nI (lo)) := (hf_29 23 (by decide)).trans hc_8
      have hc_38 : σ_34 24 = q_an G 256 o := (hf_29 24 (by decide)).trans hc_9
      have hc_39 : σ_34 224 = q_rn G 2 2 (fun j => some (243 + 18 * j)) := (hf_29 224 (by decide)).trans hc_10
      have hc_40 : σ_34 225 = q_bn G 2 kp := (hf_29 225 (by decide)).trans hc_11
      have hc_41 : σ_34 280 = q_an G 265 g := (hf_29 280 (by decide)).trans hc_13
      have hc_42 : σ_34 281 = q_an G 265 wk := (hf_29 281 (by decide)).trans hc_14
      have hc_43 : σ_34 282 = q_an G 265 as := (hf_29 282 (by decide)).trans hc_15
      have hc_44 : σ_34 283 = q_an G 530 sh := (hf_29 283 (by decide)).trans hc_16
      have hc_45 : σ_34 284 = q_an G 2120 a := (hf_29 284 (by decide)).trans hc_17
      have hc_46 : σ_34 285 = q_bn G 1681 fb := (hf_29 285 (by decide)).trans hc_18
      have hc_47 : σ_34 286 = q_an G 1681 nv := (hf_29 286 (by decide)).trans hc_19
      have hc_48 : σ_34 287 = q_an G 1681 ns := (hf_29 287 (by decide)).trans hc_20
      have hc_49 : σ_34 288 = q_an G 2000 mk := (hf_29 288 (by decide)).trans hc_21
      have hc_50 : σ_34 289 = q_an G 6724 va := (hf_29 289 (by decide)).trans hc_22
      have hc_51 : σ_34 290 = q_an G 6724 sp := (hf_29 290 (by decide)).trans hc_23
      have hc_52 : σ_34 291 = q_an G 80 lp := (hf_29 291 (by decide)).trans hc_24
      have hc_53 : σ_34 292 = q_an G 600 f := (hf_29 292 (by decide)).trans hc_25
      have hc_54 : σ_34 293 = q_an G 300 ou := (hf_29 293 (by decide)).trans hc_26
      have hc_55 : σ_34 295 = q_dn G 1 oD := (hf_29 295 (by decide)).trans hc_27
      have hc_56 : σ_34 294 = q_ln G 1 (va_up oL 0 ((nI (g (165 + 5 * (g 6 - 1 - p1C) + x1C))).toInt64)) := (hf_29 294 (by decide)).trans hc_2
      exact (Mhno p1C (by omega) Chpe).elim
    · skip
      refine (?_ : AJ G K Q (kc + 2) (ks + 12) false 296 540 [some (.ref bS), some (.ref (q_h G + 0)), some (.ref (q_h G + 279)), some (.ref (q_h G + 294)), some (.ref (q_h G + 295)), some (.int (nI (i))), some (.int (nI (0))), none, none] [.int (nI (0))] σ_34)
      have hc_30 : σ_34 279 = o11 G (upd F 7 (nI (2))) := hc_30
      have hc_57 : σ_34 0 = o10 G (nI (il)) (z2) (z3) := (hf_31 0 (by decide)).trans hc_6
      have hc_58 : σ_34 1 = q_an G 600 f := (hf_31 1 (by decide)).trans hc_7
      have hc_59 : σ_34 23 = o5 G (23) (nI (lo)) := (hf_31 23 (by decide)).trans hc_8
      have hc_60 : σ_34 24 = q_an G 256 o := (hf_31 24 (by decide)).trans hc_9
      have hc_61 : σ_34 224 = q_rn G 2 2 (fun j => some (243 + 18 * j)) := (hf_31 224 (by decide)).trans hc_10
      have hc_62 : σ_34 225 = q_bn G 2 kp := (hf_31 225 (by decide)).trans hc_11
      have hc_63 : σ_34 280 = q_an G 265 g := (hf_31 280 (by decide)).trans hc_13
      have hc_64 : σ_34 281 = q_an G 265 wk := (hf_31 281 (by decide)).trans hc_14
      have hc_65 : σ_34 282 = q_an G 265 as := (hf_31 282 (by decide)).trans hc_15
      have hc_66 : σ_34 283 = q_an G 530 sh := (hf_31 283 (by decide)).trans hc_16
      have hc_67 : σ_34 284 = q_an G 2120 a := (hf_31 284 (by decide)).trans hc_17
      have hc_68 : σ_34 285 = q_bn G 1681 fb := (hf_31 285 (by decide)).trans hc_18
      have hc_69 : σ_34 286 = q_an G 1681 nv := (hf_31 286 (by decide)).trans hc_19
      have hc_70 : σ_34 287 = q_an G 1681 ns := (hf_31 287 (by decide)).trans hc_20
      have hc_71 : σ_34 288 = q_an G 2000 mk := (hf_31 288 (by decide)).trans hc_21
      have hc_72 : σ_34 289 = q_an G 6724 va := (hf_31 289 (by decide)).trans hc_22
      have hc_73 : σ_34 290 = q_an G 6724 sp := (hf_31 290 (by decide)).trans hc_23
      have hc_74 : σ_34 291 = q_an G 80 lp := (hf_31 291 (by decide)).trans hc_24
      have hc_75 : σ_34 292 = q_an G 600 f := (hf_31 292 (by decide)).trans hc_25
      have hc_76 : σ_34 293 = q_an G 300 ou := (hf_31 293 (by decide)).trans hc_26
      have hc_77 : σ_34 295 = q_dn G 1 oD := (hf_31 295 (by decide)).trans hc_27
      have hc_78 : σ_34 294 = q_ln G 1 (va_up oL 0 ((nI (g (165 + 5 * (g 6 - 1 - p1C) + x1C))).toInt64)) := (hf_31 294 (by decide)).trans hc_2
      have e_p : p1C = p1M := q_nI_inj (by omega) (by omega) (Chpe.symm.trans Mhpe)
      subst e_p
      exact (Mhnx x1C (by omega) (by omega) Chxe).elim
    · skip
      refine (?_ : AJ G K Q (kc + 2) (ks + 12) false 296 540 [some (.ref bS), some (.ref (q_h G + 0)), some (.ref (q_h G + 279)), some (.ref (q_h G + 294)), some (.ref (q_h G + 295)), some (.int (nI (i))), some (.int (nI (0))), none, none] [.int (nI (g (165 + 5 * (g 6 - 1 - p1M) + x1M)))] σ_34)
      have hc_32 : σ_34 279 = o11 G (upd F 7 (nI (0))) := hc_32
      have hc_79 : σ_34 0 = o10 G (nI (il)) (z2) (z3) := (hf_33 0 (by decide)).trans hc_6
      have hc_80 : σ_34 1 = q_an G 600 f := (hf_33 1 (by decide)).trans hc_7
      have hc_81 : σ_34 23 = o5 G (23) (nI (lo)) := (hf_33 23 (by decide)).trans hc_8
      have hc_82 : σ_34 24 = q_an G 256 o := (hf_33 24 (by decide)).trans hc_9
      have hc_83 : σ_34 224 = q_rn G 2 2 (fun j => some (243 + 18 * j)) := (hf_33 224 (by decide)).trans hc_10
      have hc_84 : σ_34 225 = q_bn G 2 kp := (hf_33 225 (by decide)).trans hc_11
      have hc_85 : σ_34 280 = q_an G 265 g := (hf_33 280 (by decide)).trans hc_13
      have hc_86 : σ_34 281 = q_an G 265 wk := (hf_33 281 (by decide)).trans hc_14
      have hc_87 : σ_34 282 = q_an G 265 as := (hf_33 282 (by decide)).trans hc_15
      have hc_88 : σ_34 283 = q_an G 530 sh := (hf_33 283 (by decide)).trans hc_16
      have hc_89 : σ_34 284 = q_an G 2120 a := (hf_33 284 (by decide)).trans hc_17
      have hc_90 : σ_34 285 = q_bn G 1681 fb := (hf_33 285 (by decide)).trans hc_18
      have hc_91 : σ_34 286 = q_an G 1681 nv := (hf_33 286 (by decide)).trans hc_19
      have hc_92 : σ_34 287 = q_an G 1681 ns := (hf_33 287 (by decide)).trans hc_20
      have hc_93 : σ_34 288 = q_an G 2000 mk := (hf_33 288 (by decide)).trans hc_21
      have hc_94 : σ_34 289 = q_an G 6724 va := (hf_33 289 (by decide)).trans hc_22
      have hc_95 : σ_34 290 = q_an G 6724 sp := (hf_33 290 (by decide)).trans hc_23
      have hc_96 : σ_34 291 = q_an G 80 lp := (hf_33 291 (by decide)).trans hc_24
      have hc_97 : σ_34 292 = q_an G 600 f := (hf_33 292 (by decide)).trans hc_25
      have hc_98 : σ_34 293 = q_an G 300 ou := (hf_33 293 (by decide)).trans hc_26
      have hc_99 : σ_34 295 = q_dn G 1 oD := (hf_33 295 (by decide)).trans hc_27
      have hc_100 : σ_34 294 = q_ln G 1 (va_up oL 0 ((nI (g (165 + 5 * (g 6 - 1 - p1C) + x1C))).toInt64)) := (hf_33 294 (by decide)).trans hc_2
      have e_p : p1C = p1M := q_nI_inj (by omega) (by omega) (Chpe.symm.trans Mhpe)
      subst e_p
      have e_x : x1C = x1M := q_nI_inj (by omega) (by omega) (Chxe.symm.trans Mhxe)
      subst e_x
      refine A_istore hg dL_law_540 (by decide) (q_c1d rfl) ?_
      refine A_eq (ls2 := [some (.ref bS), some (.ref (q_h G + 0)), some (.ref (q_h G + 279)), some (.ref (q_h G + 294)), some (.ref (q_h G + 295)), some (.int (nI (i))), some (.int (nI (0))), some (.int (nI (g (165 + 5 * (g 6 - 1 - p1C) + x1C)))), none]) (st2 := []) (pc2 := 0) rfl rfl ?_
      refine A_aload_n hg dL_law_542 rfl rfl ?_
      refine A_eV (kc2 := kc + 2) (ks2 := ks + 12) (As := []) (rest := []) hg lk_RL_170 in_X11_thrown se_X11_thrown rfl dL_law_543 ⟨by decide, by decide⟩ rfl rfl (hfK 2 12 (by decide) (by decide)) hc_32 (by omega) rfl rfl (Nat.le_of_ble_eq_true rfl) (c_X11_thrown G false 296 σ_34 (upd F 7 (nI (0))) hc_32 (by omega)) ?_
      refine A_top (w := .int (nI (0))) (congrArg Value.int rfl) ?_
      refine A_iload hg dL_law_546 rfl ?_
      refine A_icmp_eqN (tgt := 553) hg dL_law_548 (by decide) (by decide) (by decide) (fun c548 => ?_) (fun c548 => False.elim (by omega))
      refine A_iload hg dL_law_553 rfl ?_
      refine A_if_neN (tgt := 570) hg dL_law_555 (by decide) (by decide) (fun c555 => absurd (by decide) c555) (fun c555 => ?_)
      refine A_aload_n hg dL_law_558 rfl rfl ?_
      refine A_iconst (v := (nI (0))) hg dL_law_559 (by decide) ?_
      refine A_lald (j := 0) hg dL_law_560 hc_100 (by omega) (by decide) (by decide) ?_
      refine A_top (w := .long ((nI (g (165 + 5 * (g 6 - 1 - p1C) + x1C))).toInt64)) (congrArg Value.long iv_up0) ?_
      refine A_iload hg dL_law_561 rfl ?_
      refine A_i2l (v := (nI (g (165 + 5 * (g 6 - 1 - p1C) + x1C))).toInt64) hg dL_law_563 rfl ?_
      refine A_lcmp hg dL_law_564 ?_
      refine A_top (w := .int (nI 0)) (congrArg Value.int (lc_self _)) ?_
      refine A_if_eqN (tgt := 570) hg dL_law_565 (by decide) (by decide) (fun c565 => ?_) (fun c565 => absurd (by decide) c565)
      refine A_goto (tgt := 3062) hg dL_law_570 (by decide) ?_
      refine A_drop 6 ?_
      refine A_drop 7 ?_
      refine A_eq (ls2 := [some (.ref bS), some (.ref (q_h G + 0)), some (.ref (q_h G + 279)), some (.ref (q_h G + 294)), some (.ref (q_h G + 295)), some (.int (nI (i))), none, none, none]) (st2 := []) (pc2 := 0) rfl rfl ?_
      refine A_wide (kc2 := kc + 8) (ks2 := ks + 48) (by omega) (by omega) ?_
      exact hnxt _ (iv_mk il z2 z3 f lo o g nx m ps kp sn (upd F 7 (nI (0))) wk as sh a fb nv ns mk va sp lp mc z ss ou (va_up oL 0 ((nI (g (165 + 5 * (g 6 - 1 - p1C) + x1C))).toInt64)) oD hc_79 hc_80 hc_81 hc_82 hc_83 hc_84 hc_32 hc_85 hc_86 hc_87 hc_88 hc_89 hc_90 hc_91 hc_92 hc_93 hc_94 hc_95 hc_96 hc_97 hc_98 hc_100 hc_99 (x_lj_e (fun i _ _ => ((hf_33 i (by omega)).trans (hf_3 i (by omega)))) hL) (x_gm_e (fun i _ _ => ((hf_33 i (by omega)).trans (hf_3 i (by omega)))) hG) (x_mx_e (fun i _ _ => ((hf_33 i (by omega)).trans (hf_3 i (by omega)))) hM) (x_hi_e (fun i _ _ => ((hf_33 i (by omega)).trans (hf_3 i (by omega)))) hHi) (x_oj_e (fun i _ _ => ((hf_33 i (by omega)).trans (hf_3 i (by omega)))) hO) (x_pj_e (fun i _ _ => ((hf_33 i (by omega)).trans (hf_3 i (by omega)))) hT) (iv_hn (fun i _ _ => ((hf_33 i (by omega)).trans (hf_3 i (by omega)))) hH) (iv_Sn (fun i _ _ => ((hf_33 i (by omega)).trans (hf_3 i (by omega)))) hSn) (iv_Kp (fun i _ _ => ((hf_33 i (by omega)).trans (hf_3 i (by omega)))) hKp) (by omega) hfb (by omega) hou hgd hps hk1 hkss hss hsn hF5 hF6 hF12 hF16 hF21 hF22 hF23 hF33 (by omega) hmk hTI hlo)
  · skip
    rw [he_4]
    refine (?_ : AJ G K Q (kc + 2) (ks + 12) false 296 522 [some (.ref bS), some (.ref (q_h G + 0)), some (.ref (q_h G + 279)), some (.ref (q_h G + 294)), some (.ref (q_h G + 295)), some (.int (nI (i))), none, none, none] [.int (nI (1))] σ)
    refine A_istore hg dL_law_522 (by decide) (q_c1d rfl) ?_
    refine A_eq (ls2 := [some (.ref bS), some (.ref (q_h G + 0)), some (.ref (q_h G + 279)), some (.ref (q_h G + 294)), some (.ref (q_h G + 295)), some (.int (nI (i))), some (.int (nI (1))), none, none]) (st2 := []) (pc2 := 0) rfl rfl ?_
    refine A_aload_n hg dL_law_524 rfl rfl ?_
    refine A_aload_n hg dL_law_525 rfl rfl ?_
    refine A_iload hg dL_law_526 rfl ?_
    refine A_iconst (v := (nI (1))) hg dL_law_528 (by decide) ?_
    refine A_iaddN hg dL_law_529 ?_
    refine A_sld hg hX (i + 1) (by omega) dL_law_530 ?_
    refine A_aload_n hg dL_law_531 rfl rfl ?_
    refine A_iload hg dL_law_532 rfl ?_
    refine A_iconst (v := (nI (2))) hg dL_law_534 (by decide) ?_
    refine A_iaddN hg dL_law_535 ?_
    refine A_sld hg hX (i + 2) (by omega) dL_law_536 ?_
    refine A_hV (kc2 := kc + 2) (ks2 := ks + 12) (As := [.int (xs (i + 1)), .int (xs (i + 2))]) (rest := []) hg lk_RL_179 in_X11_turn se_X11_turn rfl dL_law_537 ⟨by decide, by decide⟩ rfl rfl (hfK 2 12 (by decide) (by decide)) hv6 (by omega) rfl rfl (Nat.le_of_ble_eq_true rfl) (c_X11_turn G false 296 σ F g (xs (i + 1)) (xs (i + 2)) hv6 hv7 (by omega) hg9) ?_
    rintro _ σ_107 (⟨rfl, Mhno, hc_101, hf_102⟩ | ⟨p1M, rfl, Mhpe, Mhpl, Mhnx, hc_103, hf_104⟩ | ⟨p1M, x1M, rfl, Mhpe, Mhpl, Mhxe, Mhxl, hc_105, hf_106⟩)
    · skip
      refine (?_ : AJ G K Q (kc + 2) (ks + 12) false 296 540 [some (.ref bS), some (.ref (q_h G + 0)), some (.ref (q_h G + 279)), some (.ref (q_h G + 294)), some (.ref (q_h G + 295)), some (.int (nI (i))), some (.int (nI (1))), none, none] [.int (nI (0))] σ_107)
      have hc_101 : σ_107 279 = o11 G (upd F 7 (nI (1))) := hc_101
      have hc_108 : σ_107 0 = o10 G (nI (il)) (z2) (z3) := (hf_102 0 (by decide)).trans hv0
      have hc_109 : σ_107 1 = q_an G 600 f := (hf_102 1 (by decide)).trans hv1
      have hc_110 : σ_107 23 = o5 G (23) (nI (lo)) := (hf_102 23 (by decide)).trans hv2
      have hc_111 : σ_107 24 = q_an G 256 o := (hf_102 24 (by decide)).trans hv3
      have hc_112 : σ_107 224 = q_rn G 2 2 (fun j => some (243 + 18 * j)) := (hf_102 224 (by decide)).trans hv4
      have hc_113 : σ_107 225 = q_bn G 2 kp := (hf_102 225 (by decide)).trans hv5
      have hc_114 : σ_107 280 = q_an G 265 g := (hf_102 280 (by decide)).trans hv7
      have hc_115 : σ_107 281 = q_an G 265 wk := (hf_102 281 (by decide)).trans hv8
      have hc_116 : σ_107 282 = q_an G 265 as := (hf_102 282 (by decide)).trans hv9
      have hc_117 : σ_107 283 = q_an G 530 sh := (hf_102 283 (by decide)).trans hv10
      have hc_118 : σ_107 284 = q_an G 2120 a := (hf_102 284 (by decide)).trans hv11
      have hc_119 : σ_107 285 = q_bn G 1681 fb := (hf_102 285 (by decide)).trans hv12
      have hc_120 : σ_107 286 = q_an G 1681 nv := (hf_102 286 (by decide)).trans hv13
      have hc_121 : σ_107 287 = q_an G 1681 ns := (hf_102 287 (by decide)).trans hv14
      have hc_122 : σ_107 288 = q_an G 2000 mk := (hf_102 288 (by decide)).trans hv15
      have hc_123 : σ_107 289 = q_an G 6724 va := (hf_102 289 (by decide)).trans hv16
      have hc_124 : σ_107 290 = q_an G 6724 sp := (hf_102 290 (by decide)).trans hv17
      have hc_125 : σ_107 291 = q_an G 80 lp := (hf_102 291 (by decide)).trans hv18
      have hc_126 : σ_107 292 = q_an G 600 f := (hf_102 292 (by decide)).trans hv19
      have hc_127 : σ_107 293 = q_an G 300 ou := (hf_102 293 (by decide)).trans hv20
      have hc_128 : σ_107 294 = q_ln G 1 oL := (hf_102 294 (by decide)).trans hv21
      have hc_129 : σ_107 295 = q_dn G 1 oD := (hf_102 295 (by decide)).trans hv22
      refine A_istore hg dL_law_540 (by decide) (q_c1d rfl) ?_
      refine A_eq (ls2 := [some (.ref bS), some (.ref (q_h G + 0)), some (.ref (q_h G + 279)), some (.ref (q_h G + 294)), some (.ref (q_h G + 295)), some (.int (nI (i))), some (.int (nI (1))), some (.int (nI (0))), none]) (st2 := []) (pc2 := 0) rfl rfl ?_
      refine A_aload_n hg dL_law_542 rfl rfl ?_
      refine A_eV (kc2 := kc + 2) (ks2 := ks + 12) (As := []) (rest := []) hg lk_RL_170 in_X11_thrown se_X11_thrown rfl dL_law_543 ⟨by decide, by decide⟩ rfl rfl (hfK 2 12 (by decide) (by decide)) hc_101 (by omega) rfl rfl (Nat.le_of_ble_eq_true rfl) (c_X11_thrown G false 296 σ_107 (upd F 7 (nI (1))) hc_101 (by omega)) ?_
      refine A_top (w := .int (nI (1))) (congrArg Value.int rfl) ?_
      refine A_iload hg dL_law_546 rfl ?_
      refine A_icmp_eqN (tgt := 553) hg dL_law_548 (by decide) (by decide) (by decide) (fun c548 => ?_) (fun c548 => False.elim (by omega))
      refine A_iload hg dL_law_553 rfl ?_
      refine A_if_neN (tgt := 570) hg dL_law_555 (by decide) (by decide) (fun c555 => ?_) (fun c555 => absurd c555 (by decide))
      refine A_goto (tgt := 3062) hg dL_law_570 (by decide) ?_
      refine A_drop 6 ?_
      refine A_drop 7 ?_
      refine A_eq (ls2 := [some (.ref bS), some (.ref (q_h G + 0)), some (.ref (q_h G + 279)), some (.ref (q_h G + 294)), some (.ref (q_h G + 295)), some (.int (nI (i))), none, none, none]) (st2 := []) (pc2 := 0) rfl rfl ?_
      refine A_wide (kc2 := kc + 8) (ks2 := ks + 48) (by omega) (by omega) ?_
      exact hnxt _ (iv_mk il z2 z3 f lo o g nx m ps kp sn (upd F 7 (nI (1))) wk as sh a fb nv ns mk va sp lp mc z ss ou oL oD hc_108 hc_109 hc_110 hc_111 hc_112 hc_113 hc_101 hc_114 hc_115 hc_116 hc_117 hc_118 hc_119 hc_120 hc_121 hc_122 hc_123 hc_124 hc_125 hc_126 hc_127 hc_128 hc_129 (x_lj_e (fun i _ _ => (hf_102 i (by omega))) hL) (x_gm_e (fun i _ _ => (hf_102 i (by omega))) hG) (x_mx_e (fun i _ _ => (hf_102 i (by omega))) hM) (x_hi_e (fun i _ _ => (hf_102 i (by omega))) hHi) (x_oj_e (fun i _ _ => (hf_102 i (by omega))) hO) (x_pj_e (fun i _ _ => (hf_102 i (by omega))) hT) (iv_hn (fun i _ _ => (hf_102 i (by omega))) hH) (iv_Sn (fun i _ _ => (hf_102 i (by omega))) hSn) (iv_Kp (fun i _ _ => (hf_102 i (by omega))) hKp) (by omega) hfb (by omega) hou hgd hps hk1 hkss hss hsn hF5 hF6 hF12 hF16 hF21 hF22 hF23 hF33 (by omega) hmk hTI hlo)
    · skip
      refine (?_ : AJ G K Q (kc + 2) (ks + 12) false 296 540 [some (.ref bS), some (.ref (q_h G + 0)), some (.ref (q_h G + 279)), some (.ref (q_h G + 294)), some (.ref (q_h G + 295)), some (.int (nI (i))), some (.int (nI (1))), none, none] [.int (nI (0))] σ_107)
      have hc_103 : σ_107 279 = o11 G (upd F 7 (nI (2))) := hc_103
      have hc_130 : σ_107 0 = o10 G (nI (il)) (z2) (z3) := (hf_104 0 (by decide)).trans hv0
      have hc_131 : σ_107 1 = q_an G 600 f := (hf_104 1 (by decide)).trans hv1
      have hc_132 : σ_107 23 = o5 G (23) (nI (lo)) := (hf_104 23 (by decide)).trans hv2
      have hc_133 : σ_107 24 = q_an G 256 o := (hf_104 24 (by decide)).trans hv3
      have hc_134 : σ_107 224 = q_rn G 2 2 (fun j => some (243 + 18 * j)) := (hf_104 224 (by decide)).trans hv4
      have hc_135 : σ_107 225 = q_bn G 2 kp := (hf_104 225 (by decide)).trans hv5
      have hc_136 : σ_107 280 = q_an G 265 g := (hf_104 280 (by decide)).trans hv7
      have hc_137 : σ_107 281 = q_an G 265 wk := (hf_104 281 (by decide)).trans hv8
      have hc_138 : σ_107 282 = q_an G 265 as := (hf_104 282 (by decide)).trans hv9
      have hc_139 : σ_107 283 = q_an G 530 sh := (hf_104 283 (by decide)).trans hv10
      have hc_140 : σ_107 284 = q_an G 2120 a := (hf_104 284 (by decide)).trans hv11
      have hc_141 : σ_107 285 = q_bn G 1681 fb := (hf_104 285 (by decide)).trans hv12
      have hc_142 : σ_107 286 = q_an G 1681 nv := (hf_104 286 (by decide)).trans hv13
      have hc_143 : σ_107 287 = q_an G 1681 ns := (hf_104 287 (by decide)).trans hv14
      have hc_144 : σ_107 288 = q_an G 2000 mk := (hf_104 288 (by decide)).trans hv15
      have hc_145 : σ_107 289 = q_an G 6724 va := (hf_104 289 (by decide)).trans hv16
      have hc_146 : σ_107 290 = q_an G 6724 sp := (hf_104 290 (by decide)).trans hv17
      have hc_147 : σ_107 291 = q_an G 80 lp := (hf_104 291 (by decide)).trans hv18
      have hc_148 : σ_107 292 = q_an G 600 f := (hf_104 292 (by decide)).trans hv19
      have hc_149 : σ_107 293 = q_an G 300 ou := (hf_104 293 (by decide)).trans hv20
      have hc_150 : σ_107 294 = q_ln G 1 oL := (hf_104 294 (by decide)).trans hv21
      have hc_151 : σ_107 295 = q_dn G 1 oD := (hf_104 295 (by decide)).trans hv22
      exact (Chxx p1M (by omega) Mhpe).elim
    · skip
      refine (?_ : AJ G K Q (kc + 2) (ks + 12) false 296 540 [some (.ref bS), some (.ref (q_h G + 0)), some (.ref (q_h G + 279)), some (.ref (q_h G + 294)), some (.ref (q_h G + 295)), some (.int (nI (i))), some (.int (nI (1))), none, none] [.int (nI (g (165 + 5 * (g 6 - 1 - p1M) + x1M)))] σ_107)
      have hc_105 : σ_107 279 = o11 G (upd F 7 (nI (0))) := hc_105
      have hc_152 : σ_107 0 = o10 G (nI (il)) (z2) (z3) := (hf_106 0 (by decide)).trans hv0
      have hc_153 : σ_107 1 = q_an G 600 f := (hf_106 1 (by decide)).trans hv1
      have hc_154 : σ_107 23 = o5 G (23) (nI (lo)) := (hf_106 23 (by decide)).trans hv2
      have hc_155 : σ_107 24 = q_an G 256 o := (hf_106 24 (by decide)).trans hv3
      have hc_156 : σ_107 224 = q_rn G 2 2 (fun j => some (243 + 18 * j)) := (hf_106 224 (by decide)).trans hv4
      have hc_157 : σ_107 225 = q_bn G 2 kp := (hf_106 225 (by decide)).trans hv5
      have hc_158 : σ_107 280 = q_an G 265 g := (hf_106 280 (by decide)).trans hv7
      have hc_159 : σ_107 281 = q_an G 265 wk := (hf_106 281 (by decide)).trans hv8
      have hc_160 : σ_107 282 = q_an G 265 as := (hf_106 282 (by decide)).trans hv9
      have hc_161 : σ_107 283 = q_an G 530 sh := (hf_106 283 (by decide)).trans hv10
      have hc_162 : σ_107 284 = q_an G 2120 a := (hf_106 284 (by decide)).trans hv11
      have hc_163 : σ_107 285 = q_bn G 1681 fb := (hf_106 285 (by decide)).trans hv12
      have hc_164 : σ_107 286 = q_an G 1681 nv := (hf_106 286 (by decide)).trans hv13
      have hc_165 : σ_107 287 = q_an G 1681 ns := (hf_106 287 (by decide)).trans hv14
      have hc_166 : σ_107 288 = q_an G 2000 mk := (hf_106 288 (by decide)).trans hv15
      have hc_167 : σ_107 289 = q_an G 6724 va := (hf_106 289 (by decide)).trans hv16
      have hc_168 : σ_107 290 = q_an G 6724 sp := (hf_106 290 (by decide)).trans hv17
      have hc_169 : σ_107 291 = q_an G 80 lp := (hf_106 291 (by decide)).trans hv18
      have hc_170 : σ_107 292 = q_an G 600 f := (hf_106 292 (by decide)).trans hv19
      have hc_171 : σ_107 293 = q_an G 300 ou := (hf_106 293 (by decide)).trans hv20
      have hc_172 : σ_107 294 = q_ln G 1 oL := (hf_106 294 (by decide)).trans hv21
      have hc_173 : σ_107 295 = q_dn G 1 oD := (hf_106 295 (by decide)).trans hv22
      exact (Chxx p1M (by omega) Mhpe).elim
  · skip
    rw [he_5]
    refine (?_ : AJ G K Q (kc + 2) (ks + 12) false 296 522 [some (.ref bS), some (.ref (q_h G + 0)), some (.ref (q_h G + 279)), some (.ref (q_h G + 294)), some (.ref (q_h G + 295)), some (.int (nI (i))), none, none, none] [.int (nI (2))] σ)
    obtain ⟨p1C, Chx0, Chx1, Chx2⟩ := Chxx
    refine A_istore hg dL_law_522 (by decide) (q_c1d rfl) ?_
    refine A_eq (ls2 := [some (.ref bS), some (.ref (q_h G + 0)), some (.ref (q_h G + 279)), some (.ref (q_h G + 294)), some (.ref (q_h G + 295)), some (.int (nI (i))), some (.int (nI (2))), none, none]) (st2 := []) (pc2 := 0) rfl rfl ?_
    refine A_aload_n hg dL_law_524 rfl rfl ?_
    refine A_aload_n hg dL_law_525 rfl rfl ?_
    refine A_iload hg dL_law_526 rfl ?_
    refine A_iconst (v := (nI (1))) hg dL_law_528 (by decide) ?_
    refine A_iaddN hg dL_law_529 ?_
    refine A_sld hg hX (i + 1) (by omega) dL_law_530 ?_
    refine A_aload_n hg dL_law_531 rfl rfl ?_
    refine A_iload hg dL_law_532 rfl ?_
    refine A_iconst (v := (nI (2))) hg dL_law_534 (by decide) ?_
    refine A_iaddN hg dL_law_535 ?_
    refine A_sld hg hX (i + 2) (by omega) dL_law_536 ?_
    refine A_hV (kc2 := kc + 2) (ks2 := ks + 12) (As := [.int (xs (i + 1)), .int (xs (i + 2))]) (rest := []) hg lk_RL_179 in_X11_turn se_X11_turn rfl dL_law_537 ⟨by decide, by decide⟩ rfl rfl (hfK 2 12 (by decide) (by decide)) hv6 (by omega) rfl rfl (Nat.le_of_ble_eq_true rfl) (c_X11_turn G false 296 σ F g (xs (i + 1)) (xs (i + 2)) hv6 hv7 (by omega) hg9) ?_
    rintro _ σ_180 (⟨rfl, Mhno, hc_174, hf_175⟩ | ⟨p1M, rfl, Mhpe, Mhpl, Mhnx, hc_176, hf_177⟩ | ⟨p1M, x1M, rfl, Mhpe, Mhpl, Mhxe, Mhxl, hc_178, hf_179⟩)
    · skip
      refine (?_ : AJ G K Q (kc + 2) (ks + 12) false 296 540 [some (.ref bS), some (.ref (q_h G + 0)), some (.ref (q_h G + 279)), some (.ref (q_h G + 294)), some (.ref (q_h G + 295)), some (.int (nI (i))), some (.int (nI (2))), none, none] [.int (nI (0))] σ_180)
      have hc_174 : σ_180 279 = o11 G (upd F 7 (nI (1))) := hc_174
      have hc_181 : σ_180 0 = o10 G (nI (il)) (z2) (z3) := (hf_175 0 (by decide)).trans hv0
      have hc_182 : σ_180 1 = q_an G 600 f := (hf_175 1 (by decide)).trans hv1
      have hc_183 : σ_180 23 = o5 G (23) (nI (lo)) := (hf_175 23 (by decide)).trans hv2
      have hc_184 : σ_180 24 = q_an G 256 o := (hf_175 24 (by decide)).trans hv3
      have hc_185 : σ_180 224 = q_rn G 2 2 (fun j => some (243 + 18 * j)) := (hf_175 224 (by decide)).trans hv4
      have hc_186 : σ_180 225 = q_bn G 2 kp := (hf_175 225 (by decide)).trans hv5
      have hc_187 : σ_180 280 = q_an G 265 g := (hf_175 280 (by decide)).trans hv7
      have hc_188 : σ_180 281 = q_an G 265 wk := (hf_175 281 (by decide)).trans hv8
      have hc_189 : σ_180 282 = q_an G 265 as := (hf_175 282 (by decide)).trans hv9
      have hc_190 : σ_180 283 = q_an G 530 sh := (hf_175 283 (by decide)).trans hv10
      have hc_191 : σ_180 284 = q_an G 2120 a := (hf_175 284 (by decide)).trans hv11
      have hc_192 : σ_180 285 = q_bn G 1681 fb := (hf_175 285 (by decide)).trans hv12
      have hc_193 : σ_180 286 = q_an G 1681 nv := (hf_175 286 (by decide)).trans hv13
      have hc_194 : σ_180 287 = q_an G 1681 ns := (hf_175 287 (by decide)).trans hv14
      have hc_195 : σ_180 288 = q_an G 2000 mk := (hf_175 288 (by decide)).trans hv15
      have hc_196 : σ_180 289 = q_an G 6724 va := (hf_175 289 (by decide)).trans hv16
      have hc_197 : σ_180 290 = q_an G 6724 sp := (hf_175 290 (by decide)).trans hv17
      have hc_198 : σ_180 291 = q_an G 80 lp := (hf_175 291 (by decide)).trans hv18
      have hc_199 : σ_180 292 = q_an G 600 f := (hf_175 292 (by decide)).trans hv19
      have hc_200 : σ_180 293 = q_an G 300 ou := (hf_175 293 (by decide)).trans hv20
      have hc_201 : σ_180 294 = q_ln G 1 oL := (hf_175 294 (by decide)).trans hv21
      have hc_202 : σ_180 295 = q_dn G 1 oD := (hf_175 295 (by decide)).trans hv22
      exact (Mhno p1C (by omega) Chx0).elim
    · skip
      refine (?_ : AJ G K Q (kc + 2) (ks + 12) false 296 540 [some (.ref bS), some (.ref (q_h G + 0)), some (.ref (q_h G + 279)), some (.ref (q_h G + 294)), some (.ref (q_h G + 295)), some (.int (nI (i))), some (.int (nI (2))), none, none] [.int (nI (0))] σ_180)
      have hc_176 : σ_180 279 = o11 G (upd F 7 (nI (2))) := hc_176
      have hc_203 : σ_180 0 = o10 G (nI (il)) (z2) (z3) := (hf_177 0 (by decide)).trans hv0
      have hc_204 : σ_180 1 = q_an G 600 f := (hf_177 1 (by decide)).trans hv1
      have hc_205 : σ_180 23 = o5 G (23) (nI (lo)) := (hf_177 23 (by decide)).trans hv2
      have hc_206 : σ_180 24 = q_an G 256 o := (hf_177 24 (by decide)).trans hv3
      have hc_207 : σ_180 224 = q_rn G 2 2 (fun j => some (243 + 18 * j)) := (hf_177 224 (by decide)).trans hv4
      have hc_208 : σ_180 225 = q_bn G 2 kp := (hf_177 225 (by decide)).trans hv5
      have hc_209 : σ_180 280 = q_an G 265 g := (hf_177 280 (by decide)).trans hv7
      have hc_210 : σ_180 281 = q_an G 265 wk := (hf_177 281 (by decide)).trans hv8
      have hc_211 : σ_180 282 = q_an G 265 as := (hf_177 282 (by decide)).trans hv9
      have hc_212 : σ_180 283 = q_an G 530 sh := (hf_177 283 (by decide)).trans hv10
      have hc_213 : σ_180 284 = q_an G 2120 a := (hf_177 284 (by decide)).trans hv11
      have hc_214 : σ_180 285 = q_bn G 1681 fb := (hf_177 285 (by decide)).trans hv12
      have hc_215 : σ_180 286 = q_an G 1681 nv := (hf_177 286 (by decide)).trans hv13
      have hc_216 : σ_180 287 = q_an G 1681 ns := (hf_177 287 (by decide)).trans hv14
      have hc_217 : σ_180 288 = q_an G 2000 mk := (hf_177 288 (by decide)).trans hv15
      have hc_218 : σ_180 289 = q_an G 6724 va := (hf_177 289 (by decide)).trans hv16
      have hc_219 : σ_180 290 = q_an G 6724 sp := (hf_177 290 (by decide)).trans hv17
      have hc_220 : σ_180 291 = q_an G 80 lp := (hf_177 291 (by decide)).trans hv18
      have hc_221 : σ_180 292 = q_an G 600 f := (hf_177 292 (by decide)).trans hv19
      have hc_222 : σ_180 293 = q_an G 300 ou := (hf_177 293 (by decide)).trans hv20
      have hc_223 : σ_180 294 = q_ln G 1 oL := (hf_177 294 (by decide)).trans hv21
      have hc_224 : σ_180 295 = q_dn G 1 oD := (hf_177 295 (by decide)).trans hv22
      have e_p : p1C = p1M := q_nI_inj (by omega) (by omega) (Chx0.symm.trans Mhpe)
      subst e_p
      refine A_istore hg dL_law_540 (by decide) (q_c1d rfl) ?_
      refine A_eq (ls2 := [some (.ref bS), some (.ref (q_h G + 0)), some (.ref (q_h G + 279)), some (.ref (q_h G + 294)), some (.ref (q_h G + 295)), some (.int (nI (i))), some (.int (nI (2))), some (.int (nI (0))), none]) (st2 := []) (pc2 := 0) rfl rfl ?_
      refine A_aload_n hg dL_law_542 rfl rfl ?_
      refine A_eV (kc2 := kc + 2) (ks2 := ks + 12) (As := []) (rest := []) hg lk_RL_170 in_X11_thrown se_X11_thrown rfl dL_law_543 ⟨by decide, by decide⟩ rfl rfl (hfK 2 12 (by decide) (by decide)) hc_176 (by omega) rfl rfl (Nat.le_of_ble_eq_true rfl) (c_X11_thrown G false 296 σ_180 (upd F 7 (nI (2))) hc_176 (by omega)) ?_
      refine A_top (w := .int (nI (2))) (congrArg Value.int rfl) ?_
      refine A_iload hg dL_law_546 rfl ?_
      refine A_icmp_eqN (tgt := 553) hg dL_law_548 (by decide) (by decide) (by decide) (fun c548 => ?_) (fun c548 => False.elim (by omega))
      refine A_iload hg dL_law_553 rfl ?_
      refine A_if_neN (tgt := 570) hg dL_law_555 (by decide) (by decide) (fun c555 => ?_) (fun c555 => absurd c555 (by decide))
      refine A_goto (tgt := 3062) hg dL_law_570 (by decide) ?_
      refine A_drop 6 ?_
      refine A_drop 7 ?_
      refine A_eq (ls2 := [some (.ref bS), some (.ref (q_h G + 0)), some (.ref (q_h G + 279)), some (.ref (q_h G + 294)), some (.ref (q_h G + 295)), some (.int (nI (i))), none, none, none]) (st2 := []) (pc2 := 0) rfl rfl ?_
      refine A_wide (kc2 := kc + 8) (ks2 := ks + 48) (by omega) (by omega) ?_
      exact hnxt _ (iv_mk il z2 z3 f lo o g nx m ps kp sn (upd F 7 (nI (2))) wk as sh a fb nv ns mk va sp lp mc z ss ou oL oD hc_203 hc_204 hc_205 hc_206 hc_207 hc_208 hc_176 hc_209 hc_210 hc_211 hc_212 hc_213 hc_214 hc_215 hc_216 hc_217 hc_218 hc_219 hc_220 hc_221 hc_222 hc_223 hc_224 (x_lj_e (fun i _ _ => (hf_177 i (by omega))) hL) (x_gm_e (fun i _ _ => (hf_177 i (by omega))) hG) (x_mx_e (fun i _ _ => (hf_177 i (by omega))) hM) (x_hi_e (fun i _ _ => (hf_177 i (by omega))) hHi) (x_oj_e (fun i _ _ => (hf_177 i (by omega))) hO) (x_pj_e (fun i _ _ => (hf_177 i (by omega))) hT) (iv_hn (fun i _ _ => (hf_177 i (by omega))) hH) (iv_Sn (fun i _ _ => (hf_177 i (by omega))) hSn) (iv_Kp (fun i _ _ => (hf_177 i (by omega))) hKp) (by omega) hfb (by omega) hou hgd hps hk1 hkss hss hsn hF5 hF6 hF12 hF16 hF21 hF22 hF23 hF33 (by omega) hmk hTI hlo)
    · skip
      refine (?_ : AJ G K Q (kc + 2) (ks + 12) false 296 540 [some (.ref bS), some (.ref (q_h G + 0)), some (.ref (q_h G + 279)), some (.ref (q_h G + 294)), some (.ref (q_h G + 295)), some (.int (nI (i))), some (.int (nI (2))), none, none] [.int (nI (g (165 + 5 * (g 6 - 1 - p1M) + x1M)))] σ_180)
      have hc_178 : σ_180 279 = o11 G (upd F 7 (nI (0))) := hc_178
      have hc_225 : σ_180 0 = o10 G (nI (il)) (z2) (z3) := (hf_179 0 (by decide)).trans hv0
      have hc_226 : σ_180 1 = q_an G 600 f := (hf_179 1 (by decide)).trans hv1
      have hc_227 : σ_180 23 = o5 G (23) (nI (lo)) := (hf_179 23 (by decide)).trans hv2
      have hc_228 : σ_180 24 = q_an G 256 o := (hf_179 24 (by decide)).trans hv3
      have hc_229 : σ_180 224 = q_rn G 2 2 (fun j => some (243 + 18 * j)) := (hf_179 224 (by decide)).trans hv4
      have hc_230 : σ_180 225 = q_bn G 2 kp := (hf_179 225 (by decide)).trans hv5
      have hc_231 : σ_180 280 = q_an G 265 g := (hf_179 280 (by decide)).trans hv7
      have hc_232 : σ_180 281 = q_an G 265 wk := (hf_179 281 (by decide)).trans hv8
      have hc_233 : σ_180 282 = q_an G 265 as := (hf_179 282 (by decide)).trans hv9
      have hc_234 : σ_180 283 = q_an G 530 sh := (hf_179 283 (by decide)).trans hv10
      have hc_235 : σ_180 284 = q_an G 2120 a := (hf_179 284 (by decide)).trans hv11
      have hc_236 : σ_180 285 = q_bn G 1681 fb := (hf_179 285 (by decide)).trans hv12
      have hc_237 : σ_180 286 = q_an G 1681 nv := (hf_179 286 (by decide)).trans hv13
      have hc_238 : σ_180 287 = q_an G 1681 ns := (hf_179 287 (by decide)).trans hv14
      have hc_239 : σ_180 288 = q_an G 2000 mk := (hf_179 288 (by decide)).trans hv15
      have hc_240 : σ_180 289 = q_an G 6724 va := (hf_179 289 (by decide)).trans hv16
      have hc_241 : σ_180 290 = q_an G 6724 sp := (hf_179 290 (by decide)).trans hv17
      have hc_242 : σ_180 291 = q_an G 80 lp := (hf_179 291 (by decide)).trans hv18
      have hc_243 : σ_180 292 = q_an G 600 f := (hf_179 292 (by decide)).trans hv19
      have hc_244 : σ_180 293 = q_an G 300 ou := (hf_179 293 (by decide)).trans hv20
      have hc_245 : σ_180 294 = q_ln G 1 oL := (hf_179 294 (by decide)).trans hv21
      have hc_246 : σ_180 295 = q_dn G 1 oD := (hf_179 295 (by decide)).trans hv22
      have e_p : p1C = p1M := q_nI_inj (by omega) (by omega) (Chx0.symm.trans Mhpe)
      subst e_p
      exact (Chx2 x1M (by omega) (by omega) Mhxe).elim
set_option maxRecDepth 100000 in
set_option maxHeartbeats 4000000 in
theorem law_c8 (G : GL) (K : KC) (Q : State → Prop) (hh : List (Nat × Nat × Nat × Nat)) (hg : Gd G K RL code 9 ret room_1 hh) (bS L : Nat) (xs : Nat → Int32) (hX : q_scr G K bS L xs) (i kc ks J : Nat) (hi : i + 5 < L) (hL31 : L < 2 ^ 31) (hkc : kc + 8 ≤ 601024) (hks : ks + 48 ≤ 7293034) (σ : Nat → va_E) (hI : iv G σ J) (hJ : J < 512) (hfd : q_fdn) (hdd : q_ddn) (hf2 : q_f2n) (hds : q_dcs) (hnxt : ∀ σ9 : Nat → va_E, iv G σ9 (J + 1) → AJ G K Q (kc + 8) (ks + 48) false 296 3062 [some (.ref bS), some (.ref (q_h G + 0)), some (.ref (q_h G + 279)), some (.ref (q_h G + 294)), some (.ref (q_h G + 295)), some (.int (nI (i))), none, none, none] [] σ9) : AJ G K Q kc ks false 296 573 [some (.ref bS), some (.ref (q_h G + 0)), some (.ref (q_h G + 279)), some (.ref (q_h G + 294)), some (.ref (q_h G + 295)), some (.int (nI (i))), none, none, none] [] σ := by
  refine iv_el hI ?_
  intro il z2 z3 f lo o g nx m ps kp sn F wk as sh a fb nv ns mk va sp lp mc z ss ou oL oD
  intro hv0 hv1 hv2 hv3 hv4 hv5 hv6 hv7 hv8 hv9 hv10 hv11 hv12 hv13 hv14 hv15 hv16 hv17 hv18 hv19 hv20 hv21 hv22
  intro hL hG hM hHi hO hT hH hSn hKp
  intro hil hfb hlo2 hou hgd hps hk1 hkss hss hsn hF5 hF6 hF12 hF16 hF21 hF22 hF23 hF33 hmc hmk hTI hlo
  have hfK : ∀ a b : Nat, a ≤ 8 → b ≤ 48 → kc + a ≤ room_1.cells ∧ ks + b ≤ room_1.slots := fun a b h1 h2 => ⟨by show kc + a ≤ 601024; omega, by show ks + b ≤ 7293034; omega⟩
  have hg9 := iv_g hG
  obtain ⟨hnx8, hm8, hc78⟩ := iv_hi hHi
  have hbb := iv_byte (m := il) hfb
  have hg90 := hg9.1
  have hg96 := hg9.2.2.2.2.1
  have hnp8 := s_np_le hg9
  refine A_aload_n hg dL_law_573 rfl rfl ?_
  refine A_aload_n hg dL_law_574 rfl rfl ?_
  refine A_iload hg dL_law_575 rfl ?_
  refine A_iconst (v := (nI (1))) hg dL_law_577 (by decide) ?_
  refine A_iaddN hg dL_law_578 ?_
  refine A_sld hg hX (i + 1) (by omega) dL_law_579 ?_
  refine A_aload_n hg dL_law_580 rfl rfl ?_
  refine A_iload hg dL_law_581 rfl ?_
  refine A_iconst (v := (nI (2))) hg dL_law_583 (by decide) ?_
  refine A_iaddN hg dL_law_584 ?_
  refine A_sld hg hX (i + 2) (by omega) dL_law_585 ?_
  refine A_aload_n hg dL_law_586 rfl rfl ?_
  refine A_callSH (As := [.ref (q_h G + 0), .int (xs (i + 1)), .int (xs (i + 2)), .ref (q_h G + 294)]) (rest := []) hg lkH_180 stH_L_rule dL_law_587 ⟨by decide, by decide⟩ (hfK 2 12 (by decide) (by decide)) rfl rfl (Nat.le_of_ble_eq_true rfl) (c_L_rule G 296 σ (nI (il)) z2 z3 g (xs (i + 1)) (xs (i + 2)) oL hv0 hv21 (by omega) hG hM (by omega)) ?_
  rintro _ σ_1 (⟨r1C, x1C, rfl, Chre, Chrl, Chxe, Chxl, ChM2, hc_2, hf_3⟩ | ⟨rfl, Chxx, he_4⟩ | ⟨rfl, Chxx, he_5⟩)
  · skip
    refine (?_ : AJ G K Q (kc + 2) (ks + 12) false 296 590 [some (.ref bS), some (.ref (q_h G + 0)), some (.ref (q_h G + 279)), some (.ref (q_h G + 294)), some (.ref (q_h G + 295)), some (.int (nI (i))), none, none, none] [.int (nI (0))] σ_1)
    have hc_6 : σ_1 0 = o10 G (nI (il)) (z2) (z3) := (hf_3 0 (by decide)).trans hv0
    have hc_7 : σ_1 1 = q_an G 600 f := (hf_3 1 (by decide)).trans hv1
    have hc_8 : σ_1 23 = o5 G (23) (nI (lo)) := (hf_3 23 (by decide)).trans hv2
    have hc_9 : σ_1 24 = q_an G 256 o := (hf_3 24 (by decide)).trans hv3
    have hc_10 : σ_1 224 = q_rn G 2 2 (fun j => some (243 + 18 * j)) := (hf_3 224 (by decide)).trans hv4
    have hc_11 : σ_1 225 = q_bn G 2 kp := (hf_3 225 (by decide)).trans hv5
    have hc_12 : σ_1 279 = o11 G F := (hf_3 279 (by decide)).trans hv6
    have hc_13 : σ_1 280 = q_an G 265 g := (hf_3 280 (by decide)).trans hv7
    have hc_14 : σ_1 281 = q_an G 265 wk := (hf_3 281 (by decide)).trans hv8
    have hc_15 : σ_1 282 = q_an G 265 as := (hf_3 282 (by decide)).trans hv9
    have hc_16 : σ_1 283 = q_an G 530 sh := (hf_3 283 (by decide)).trans hv10
    have hc_17 : σ_1 284 = q_an G 2120 a := (hf_3 284 (by decide)).trans hv11
    have hc_18 : σ_1 285 = q_bn G 1681 fb := (hf_3 285 (by decide)).trans hv12
    have hc_19 : σ_1 286 = q_an G 1681 nv := (hf_3 286 (by decide)).trans hv13
    have hc_20 : σ_1 287 = q_an G 1681 ns := (hf_3 287 (by decide)).trans hv14
    have hc_21 : σ_1 288 = q_an G 2000 mk := (hf_3 288 (by decide)).trans hv15
    have hc_22 : σ_1 289 = q_an G 6724 va := (hf_3 289 (by decide)).trans hv16
    have hc_23 : σ_1 290 = q_an G 6724 sp := (hf_3 290 (by decide)).trans hv17
    have hc_24 : σ_1 291 = q_an G 80 lp := (hf_3 291 (by decide)).trans hv18
    have hc_25 : σ_1 292 = q_an G 600 f := (hf_3 292 (by decide)).trans hv19
    have hc_26 : σ_1 293 = q_an G 300 ou := (hf_3 293 (by decide)).trans hv20
    have hc_27 : σ_1 295 = q_dn G 1 oD := (hf_3 295 (by decide)).trans hv22
    refine A_istore hg dL_law_590 (by decide) (q_c1d rfl) ?_
    refine A_eq (ls2 := [some (.ref bS), some (.ref (q_h G + 0)), some (.ref (q_h G + 279)), some (.ref (q_h G + 294)), some (.ref (q_h G + 295)), some (.int (nI (i))), some (.int (nI (0))), none, none]) (st2 := []) (pc2 := 0) rfl rfl ?_
    refine A_aload_n hg dL_law_592 rfl rfl ?_
    refine A_aload_n hg dL_law_593 rfl rfl ?_
    refine A_iload hg dL_law_594 rfl ?_
    refine A_iconst (v := (nI (1))) hg dL_law_596 (by decide) ?_
    refine A_iaddN hg dL_law_597 ?_
    refine A_sld hg hX (i + 1) (by omega) dL_law_598 ?_
    refine A_aload_n hg dL_law_599 rfl rfl ?_
    refine A_iload hg dL_law_600 rfl ?_
    refine A_iconst (v := (nI (2))) hg dL_law_602 (by decide) ?_
    refine A_iaddN hg dL_law_603 ?_
    refine A_sld hg hX (i + 2) (by omega) dL_law_604 ?_
    refine A_hV (kc2 := kc + 2) (ks2 := ks + 12) (As := [.int (xs (i + 1)), .int (xs (i + 2))]) (rest := []) hg lk_RL_182 in_X11_rule se_X11_rule rfl dL_law_605 ⟨by decide, by decide⟩ rfl rfl (hfK 2 12 (by decide) (by decide)) hc_12 (by omega) rfl rfl (Nat.le_of_ble_eq_true rfl) (c_X11_rule G false 296 σ_1 F g fb nv ns mk va sp lp mc z (xs (i + 1)) (xs (i + 2)) hc_12 hc_13 hc_18 hc_19 hc_20 hc_21 hc_22 hc_23 hc_24 (by omega) hg9 (by omega) hF12 hF16 hmk hTI hlo) ?_
    rintro _ σ_41 (⟨rfl, Mhno, hc_28, hf_29⟩ | ⟨r1M, rfl, Mhre, Mhrl, Mhnw, hc_30, hf_31⟩ | ⟨r1M, x1M, fqM, nvqM, nsqM, mkqM, vaqM, spqM, loqM, mcqM, zqM, rfl, Mhre, Mhrl, Mhxe, Mhxl, MhTI, Mhmc, Mhmk, Mhlo, hc_32, hc_33, hc_34, hc_35, hc_36, hc_37, hc_38, hc_39, hf_40⟩)
    · skip
      refine (?_ : AJ G K Q (kc + 2) (ks + 12) false 296 608 [some (.ref bS), some (.ref (q_h G + 0)), some (.ref (q_h G + 279)), some (.ref (q_h G + 294)), some (.ref (q_h G + 295)), some (.int (nI (i))), some (.int (nI (0))), none, none] [.int (nI (0))] σ_41)
      have hc_28 : σ_41 279 = o11 G (upd F 7 (nI (1))) := hc_28
      have hc_42 : σ_41 0 = o10 G (nI (il)) (z2) (z3) := (hf_29 0 (by decide)).trans hc_6
      have hc_43 : σ_41 1 = q_an G 600 f := (hf_29 1 (by decide)).trans hc_7
      have hc_44 : σ_41 23 = o5 G (23) (nI (lo)) := (hf_29 23 (by decide)).trans hc_8
      have hc_45 : σ_41 24 = q_an G 256 o := (hf_29 24 (by decide)).trans hc_9
      have hc_46 : σ_41 224 = q_rn G 2 2 (fun j => some (243 + 18 * j)) := (hf_29 224 (by decide)).trans hc_10
      have hc_47 : σ_41 225 = q_bn G 2 kp := (hf_29 225 (by decide)).trans hc_11
      have hc_48 : σ_41 280 = q_an G 265 g := (hf_29 280 (by decide)).trans hc_13
      have hc_49 : σ_41 281 = q_an G 265 wk := (hf_29 281 (by decide)).trans hc_14
      have hc_50 : σ_41 282 = q_an G 265 as := (hf_29 282 (by decide)).trans hc_15
      have hc_51 : σ_41 283 = q_an G 530 sh := (hf_29 283 (by decide)).trans hc_16
      have hc_52 : σ_41 284 = q_an G 2120 a := (hf_29 284 (by decide)).trans hc_17
      have hc_53 : σ_41 285 = q_bn G 1681 fb := (hf_29 285 (by decide)).trans hc_18
      have hc_54 : σ_41 286 = q_an G 1681 nv := (hf_29 286 (by decide)).trans hc_19
      have hc_55 : σ_41 287 = q_an G 1681 ns := (hf_29 287 (by decide)).trans hc_20
      have hc_56 : σ_41 288 = q_an G 2000 mk := (hf_29 288 (by decide)).trans hc_21
      have hc_57 : σ_41 289 = q_an G 6724 va := (hf_29 289 (by decide)).trans hc_22
      have hc_58 : σ_41 290 = q_an G 6724 sp := (hf_29 290 (by decide)).trans hc_23
      have hc_59 : σ_41 291 = q_an G 80 lp := (hf_29 291 (by decide)).trans hc_24
      have hc_60 : σ_41 292 = q_an G 600 f := (hf_29 292 (by decide)).trans hc_25
      have hc_61 : σ_41 293 = q_an G 300 ou := (hf_29 293 (by decide)).trans hc_26
      have hc_62 : σ_41 295 = q_dn G 1 oD := (hf_29 295 (by decide)).trans hc_27
      have hc_63 : σ_41 294 = q_ln G 1 (va_up oL 0 ((nI (s_ruleA g r1C x1C)).toInt64)) := (hf_29 294 (by decide)).trans hc_2
      exact (Mhno r1C (by omega) Chre).elim
    · skip
      refine (?_ : AJ G K Q (kc + 2) (ks + 12) false 296 608 [some (.ref bS), some (.ref (q_h G + 0)), some (.ref (q_h G + 279)), some (.ref (q_h G + 294)), some (.ref (q_h G + 295)), some (.int (nI (i))), some (.int (nI (0))), none, none] [.int (nI (0))] σ_41)
      have hc_30 : σ_41 279 = o11 G (upd F 7 (nI (2))) := hc_30
      have hc_64 : σ_41 0 = o10 G (nI (il)) (z2) (z3) := (hf_31 0 (by decide)).trans hc_6
      have hc_65 : σ_41 1 = q_an G 600 f := (hf_31 1 (by decide)).trans hc_7
      have hc_66 : σ_41 23 = o5 G (23) (nI (lo)) := (hf_31 23 (by decide)).trans hc_8
      have hc_67 : σ_41 24 = q_an G 256 o := (hf_31 24 (by decide)).trans hc_9
      have hc_68 : σ_41 224 = q_rn G 2 2 (fun j => some (243 + 18 * j)) := (hf_31 224 (by decide)).trans hc_10
      have hc_69 : σ_41 225 = q_bn G 2 kp := (hf_31 225 (by decide)).trans hc_11
      have hc_70 : σ_41 280 = q_an G 265 g := (hf_31 280 (by decide)).trans hc_13
      have hc_71 : σ_41 281 = q_an G 265 wk := (hf_31 281 (by decide)).trans hc_14
      have hc_72 : σ_41 282 = q_an G 265 as := (hf_31 282 (by decide)).trans hc_15
      have hc_73 : σ_41 283 = q_an G 530 sh := (hf_31 283 (by decide)).trans hc_16
      have hc_74 : σ_41 284 = q_an G 2120 a := (hf_31 284 (by decide)).trans hc_17
      have hc_75 : σ_41 285 = q_bn G 1681 fb := (hf_31 285 (by decide)).trans hc_18
      have hc_76 : σ_41 286 = q_an G 1681 nv := (hf_31 286 (by decide)).trans hc_19
      have hc_77 : σ_41 287 = q_an G 1681 ns := (hf_31 287 (by decide)).trans hc_20
      have hc_78 : σ_41 288 = q_an G 2000 mk := (hf_31 288 (by decide)).trans hc_21
      have hc_79 : σ_41 289 = q_an G 6724 va := (hf_31 289 (by decide)).trans hc_22
      have hc_80 : σ_41 290 = q_an G 6724 sp := (hf_31 290 (by decide)).trans hc_23
      have hc_81 : σ_41 291 = q_an G 80 lp := (hf_31 291 (by decide)).trans hc_24
      have hc_82 : σ_41 292 = q_an G 600 f := (hf_31 292 (by decide)).trans hc_25
      have hc_83 : σ_41 293 = q_an G 300 ou := (hf_31 293 (by decide)).trans hc_26
      have hc_84 : σ_41 295 = q_dn G 1 oD := (hf_31 295 (by decide)).trans hc_27
      have hc_85 : σ_41 294 = q_ln G 1 (va_up oL 0 ((nI (s_ruleA g r1C x1C)).toInt64)) := (hf_31 294 (by decide)).trans hc_2
      have e_r : r1C = r1M := q_nI_inj (by omega) (by omega) (Chre.symm.trans Mhre)
      subst e_r
      exact (Mhnw x1C (by omega) (by omega) Chxe).elim
    · skip
      refine (?_ : AJ G K Q (kc + 2) (ks + 12) false 296 608 [some (.ref bS), some (.ref (q_h G + 0)), some (.ref (q_h G + 279)), some (.ref (q_h G + 294)), some (.ref (q_h G + 295)), some (.int (nI (i))), some (.int (nI (0))), none, none] [.int (nI (s_ruleA g r1M x1M))] σ_41)
      have hc_32 : σ_41 279 = o11 G (upd (upd (upd F 7 (nI (0))) 12 (nI (mcqM))) 16 (nI (zqM))) := hc_32
      have hc_86 : σ_41 0 = o10 G (nI (il)) (z2) (z3) := (hf_40 0 (by decide)).trans hc_6
      have hc_87 : σ_41 1 = q_an G 600 f := (hf_40 1 (by decide)).trans hc_7
      have hc_88 : σ_41 23 = o5 G (23) (nI (lo)) := (hf_40 23 (by decide)).trans hc_8
      have hc_89 : σ_41 24 = q_an G 256 o := (hf_40 24 (by decide)).trans hc_9
      have hc_90 : σ_41 224 = q_rn G 2 2 (fun j => some (243 + 18 * j)) := (hf_40 224 (by decide)).trans hc_10
      have hc_91 : σ_41 225 = q_bn G 2 kp := (hf_40 225 (by decide)).trans hc_11
      have hc_92 : σ_41 280 = q_an G 265 g := (hf_40 280 (by decide)).trans hc_13
      have hc_93 : σ_41 281 = q_an G 265 wk := (hf_40 281 (by decide)).trans hc_14
      have hc_94 : σ_41 282 = q_an G 265 as := (hf_40 282 (by decide)).trans hc_15
      have hc_95 : σ_41 283 = q_an G 530 sh := (hf_40 283 (by decide)).trans hc_16
      have hc_96 : σ_41 284 = q_an G 2120 a := (hf_40 284 (by decide)).trans hc_17
      have hc_97 : σ_41 292 = q_an G 600 f := (hf_40 292 (by decide)).trans hc_25
      have hc_98 : σ_41 293 = q_an G 300 ou := (hf_40 293 (by decide)).trans hc_26
      have hc_99 : σ_41 295 = q_dn G 1 oD := (hf_40 295 (by decide)).trans hc_27
      have hc_100 : σ_41 294 = q_ln G 1 (va_up oL 0 ((nI (s_ruleA g r1C x1C)).toInt64)) := (hf_40 294 (by decide)).trans hc_2
      have e_r : r1C = r1M := q_nI_inj (by omega) (by omega) (Chre.symm.trans Mhre)
      subst e_r
      have e_x : x1C = x1M := q_nI_inj (by omega) (by omega) (Chxe.symm.trans Mhxe)
      subst e_x
      refine A_istore hg dL_law_608 (by decide) (q_c1d rfl) ?_
      refine A_eq (ls2 := [some (.ref bS), some (.ref (q_h G + 0)), some (.ref (q_h G + 279)), some (.ref (q_h G + 294)), some (.ref (q_h G + 295)), some (.int (nI (i))), some (.int (nI (0))), some (.int (nI (s_ruleA g r1C x1C))), none]) (st2 := []) (pc2 := 0) rfl rfl ?_
      refine A_aload_n hg dL_law_610 rfl rfl ?_
      refine A_eV (kc2 := kc + 2) (ks2 := ks + 12) (As := []) (rest := []) hg lk_RL_170 in_X11_thrown se_X11_thrown rfl dL_law_611 ⟨by decide, by decide⟩ rfl rfl (hfK 2 12 (by decide) (by decide)) hc_32 (by omega) rfl rfl (Nat.le_of_ble_eq_true rfl) (c_X11_thrown G false 296 σ_41 (upd (upd (upd F 7 (nI (0))) 12 (nI (mcqM))) 16 (nI (zqM))) hc_32 (by omega)) ?_
      refine A_top (w := .int (nI (0))) (congrArg Value.int rfl) ?_
      refine A_iload hg dL_law_614 rfl ?_
      refine A_icmp_eqN (tgt := 621) hg dL_law_616 (by decide) (by decide) (by decide) (fun c616 => ?_) (fun c616 => False.elim (by omega))
      refine A_iload hg dL_law_621 rfl ?_
      refine A_if_neN (tgt := 638) hg dL_law_623 (by decide) (by decide) (fun c623 => absurd (by decide) c623) (fun c623 => ?_)
      refine A_aload_n hg dL_law_626 rfl rfl ?_
      refine A_iconst (v := (nI (0))) hg dL_law_627 (by decide) ?_
      refine A_lald (j := 0) hg dL_law_628 hc_100 (by omega) (by decide) (by decide) ?_
      refine A_top (w := .long ((nI (s_ruleA g r1C x1C)).toInt64)) (congrArg Value.long iv_up0) ?_
      refine A_iload hg dL_law_629 rfl ?_
      refine A_i2l (v := (nI (s_ruleA g r1C x1C)).toInt64) hg dL_law_631 rfl ?_
      refine A_lcmp hg dL_law_632 ?_
      refine A_top (w := .int (nI 0)) (congrArg Value.int (lc_self _)) ?_
      refine A_if_eqN (tgt := 638) hg dL_law_633 (by decide) (by decide) (fun c633 => ?_) (fun c633 => absurd (by decide) c633)
      refine A_goto (tgt := 3062) hg dL_law_638 (by decide) ?_
      refine A_drop 6 ?_
      refine A_drop 7 ?_
      refine A_eq (ls2 := [some (.ref bS), some (.ref (q_h G + 0)), some (.ref (q_h G + 279)), some (.ref (q_h G + 294)), some (.ref (q_h G + 295)), some (.int (nI (i))), none, none, none]) (st2 := []) (pc2 := 0) rfl rfl ?_
      refine A_wide (kc2 := kc + 8) (ks2 := ks + 48) (by omega) (by omega) ?_
      exact hnxt _ (iv_mk il z2 z3 f lo o g nx m ps kp sn (upd (upd (upd F 7 (nI (0))) 12 (nI (mcqM))) 16 (nI (zqM))) wk as sh a fqM nvqM nsqM mkqM vaqM spqM loqM mcqM zqM ss ou (va_up oL 0 ((nI (s_ruleA g r1C x1C)).toInt64)) oD hc_86 hc_87 hc_88 hc_89 hc_90 hc_91 hc_32 hc_92 hc_93 hc_94 hc_95 hc_96 hc_33 hc_34 hc_35 hc_36 hc_37 hc_38 hc_39 hc_97 hc_98 hc_100 hc_99 (x_lj_e (fun i _ _ => ((hf_40 i (by omega)).trans (hf_3 i (by omega)))) hL) (x_gm_e (fun i _ _ => ((hf_40 i (by omega)).trans (hf_3 i (by omega)))) hG) (x_mx_e (fun i _ _ => (hf_40 i (by omega))) ChM2) (x_hi_e (fun i _ _ => ((hf_40 i (by omega)).trans (hf_3 i (by omega)))) hHi) (x_oj_e (fun i _ _ => ((hf_40 i (by omega)).trans (hf_3 i (by omega)))) hO) (x_pj_e (fun i _ _ => ((hf_40 i (by omega)).trans (hf_3 i (by omega)))) hT) (iv_hn (fun i _ _ => ((hf_40 i (by omega)).trans (hf_3 i (by omega)))) hH) (iv_Sn (fun i _ _ => ((hf_40 i (by omega)).trans (hf_3 i (by omega)))) hSn) (iv_Kp (fun i _ _ => ((hf_40 i (by omega)).trans (hf_3 i (by omega)))) hKp) (by omega) hfb (by omega) hou hgd hps hk1 hkss hss hsn hF5 hF6 rfl rfl hF21 hF22 hF23 hF33 (by omega) Mhmk MhTI Mhlo)
  · skip
    rw [he_4]
    refine (?_ : AJ G K Q (kc + 2) (ks + 12) false 296 590 [some (.ref bS), some (.ref (q_h G + 0)), some (.ref (q_h G + 279)), some (.ref (q_h G + 294)), some (.ref (q_h G + 295)), some (.int (nI (i))), none, none, none] [.int (nI (1))] σ)
    refine A_istore hg dL_law_590 (by decide) (q_c1d rfl) ?_
    refine A_eq (ls2 := [some (.ref bS), some (.ref (q_h G + 0)), some (.ref (q_h G + 279)), some (.ref (q_h G + 294)), some (.ref (q_h G + 295)), some (.int (nI (i))), some (.int (nI (1))), none, none]) (st2 := []) (pc2 := 0) rfl rfl ?_
    refine A_aload_n hg dL_law_592 rfl rfl ?_
    refine A_aload_n hg dL_law_593 rfl rfl ?_
    refine A_iload hg dL_law_594 rfl ?_
    refine A_iconst (v := (nI (1))) hg dL_law_596 (by decide) ?_
    refine A_iaddN hg dL_law_597 ?_
    refine A_sld hg hX (i + 1) (by omega) dL_law_598 ?_
    refine A_aload_n hg dL_law_599 rfl rfl ?_
    refine A_iload hg dL_law_600 rfl ?_
    refine A_iconst (v := (nI (2))) hg dL_law_602 (by decide) ?_
    refine A_iaddN hg dL_law_603 ?_
    refine A_sld hg hX (i + 2) (by omega) dL_law_604 ?_
    refine A_hV (kc2 := kc + 2) (ks2 := ks + 12) (As := [.int (xs (i + 1)), .int (xs (i + 2))]) (rest := []) hg lk_RL_182 in_X11_rule se_X11_rule rfl dL_law_605 ⟨by decide, by decide⟩ rfl rfl (hfK 2 12 (by decide) (by decide)) hv6 (by omega) rfl rfl (Nat.le_of_ble_eq_true rfl) (c_X11_rule G false 296 σ F g fb nv ns mk va sp lp mc z (xs (i + 1)) (xs (i + 2)) hv6 hv7 hv12 hv13 hv14 hv15 hv16 hv17 hv18 (by omega) hg9 (by omega) hF12 hF16 hmk hTI hlo) ?_
    rintro _ σ_114 (⟨rfl, Mhno, hc_101, hf_102⟩ | ⟨r1M, rfl, Mhre, Mhrl, Mhnw, hc_103, hf_104⟩ | ⟨r1M, x1M, fqM, nvqM, nsqM, mkqM, vaqM, spqM, loqM, mcqM, zqM, rfl, Mhre, Mhrl, Mhxe, Mhxl, MhTI, Mhmc, Mhmk, Mhlo, hc_105, hc_106, hc_107, hc_108, hc_109, hc_110, hc_111, hc_112, hf_113⟩)
    · skip
      refine (?_ : AJ G K Q (kc + 2) (ks + 12) false 296 608 [some (.ref bS), some (.ref (q_h G + 0)), some (.ref (q_h G + 279)), some (.ref (q_h G + 294)), some (.ref (q_h G + 295)), some (.int (nI (i))), some (.int (nI (1))), none, none] [.int (nI (0))] σ_114)
      have hc_101 : σ_114 279 = o11 G (upd F 7 (nI (1))) := hc_101
      have hc_115 : σ_114 0 = o10 G (nI (il)) (z2) (z3) := (hf_102 0 (by decide)).trans hv0
      have hc_116 : σ_114 1 = q_an G 600 f := (hf_102 1 (by decide)).trans hv1
      have hc_117 : σ_114 23 = o5 G (23) (nI (lo)) := (hf_102 23 (by decide)).trans hv2
      have hc_118 : σ_114 24 = q_an G 256 o := (hf_102 24 (by decide)).trans hv3
      have hc_119 : σ_114 224 = q_rn G 2 2 (fun j => some (243 + 18 * j)) := (hf_102 224 (by decide)).trans hv4
      have hc_120 : σ_114 225 = q_bn G 2 kp := (hf_102 225 (by decide)).trans hv5
      have hc_121 : σ_114 280 = q_an G 265 g := (hf_102 280 (by decide)).trans hv7
      have hc_122 : σ_114 281 = q_an G 265 wk := (hf_102 281 (by decide)).trans hv8
      have hc_123 : σ_114 282 = q_an G 265 as := (hf_102 282 (by decide)).trans hv9
      have hc_124 : σ_114 283 = q_an G 530 sh := (hf_102 283 (by decide)).trans hv10
      have hc_125 : σ_114 284 = q_an G 2120 a := (hf_102 284 (by decide)).trans hv11
      have hc_126 : σ_114 285 = q_bn G 1681 fb := (hf_102 285 (by decide)).trans hv12
      have hc_127 : σ_114 286 = q_an G 1681 nv := (hf_102 286 (by decide)).trans hv13
      have hc_128 : σ_114 287 = q_an G 1681 ns := (hf_102 287 (by decide)).trans hv14
      have hc_129 : σ_114 288 = q_an G 2000 mk := (hf_102 288 (by decide)).trans hv15
      have hc_130 : σ_114 289 = q_an G 6724 va := (hf_102 289 (by decide)).trans hv16
      have hc_131 : σ_114 290 = q_an G 6724 sp := (hf_102 290 (by decide)).trans hv17
      have hc_132 : σ_114 291 = q_an G 80 lp := (hf_102 291 (by decide)).trans hv18
      have hc_133 : σ_114 292 = q_an G 600 f := (hf_102 292 (by decide)).trans hv19
      have hc_134 : σ_114 293 = q_an G 300 ou := (hf_102 293 (by decide)).trans hv20
      have hc_135 : σ_114 294 = q_ln G 1 oL := (hf_102 294 (by decide)).trans hv21
      have hc_136 : σ_114 295 = q_dn G 1 oD := (hf_102 295 (by decide)).trans hv22
      refine A_istore hg dL_law_608 (by decide) (q_c1d rfl) ?_
      refine A_eq (ls2 := [some (.ref bS), some (.ref (q_h G + 0)), some (.ref (q_h G + 279)), some (.ref (q_h G + 294)), some (.ref (q_h G + 295)), some (.int (nI (i))), some (.int (nI (1))), some (.int (nI (0))), none]) (st2 := []) (pc2 := 0) rfl rfl ?_
      refine A_aload_n hg dL_law_610 rfl rfl ?_
      refine A_eV (kc2 := kc + 2) (ks2 := ks + 12) (As := []) (rest := []) hg lk_RL_170 in_X11_thrown se_X11_thrown rfl dL_law_611 ⟨by decide, by decide⟩ rfl rfl (hfK 2 12 (by decide) (by decide)) hc_101 (by omega) rfl rfl (Nat.le_of_ble_eq_true rfl) (c_X11_thrown G false 296 σ_114 (upd F 7 (nI (1))) hc_101 (by omega)) ?_
      refine A_top (w := .int (nI (1))) (congrArg Value.int rfl) ?_
      refine A_iload hg dL_law_614 rfl ?_
      refine A_icmp_eqN (tgt := 621) hg dL_law_616 (by decide) (by decide) (by decide) (fun c616 => ?_) (fun c616 => False.elim (by omega))
      refine A_iload hg dL_law_621 rfl ?_
      refine A_if_neN (tgt := 638) hg dL_law_623 (by decide) (by decide) (fun c623 => ?_) (fun c623 => absurd c623 (by decide))
      refine A_goto (tgt := 3062) hg dL_law_638 (by decide) ?_
      refine A_drop 6 ?_
      refine A_drop 7 ?_
      refine A_eq (ls2 := [some (.ref bS), some (.ref (q_h G + 0)), some (.ref (q_h G + 279)), some (.ref (q_h G + 294)), some (.ref (q_h G + 295)), some (.int (nI (i))), none, none, none]) (st2 := []) (pc2 := 0) rfl rfl ?_
      refine A_wide (kc2 := kc + 8) (ks2 := ks + 48) (by omega) (by omega) ?_
      exact hnxt _ (iv_mk il z2 z3 f lo o g nx m ps kp sn (upd F 7 (nI (1))) wk as sh a fb nv ns mk va sp lp mc z ss ou oL oD hc_115 hc_116 hc_117 hc_118 hc_119 hc_120 hc_101 hc_121 hc_122 hc_123 hc_124 hc_125 hc_126 hc_127 hc_128 hc_129 hc_130 hc_131 hc_132 hc_133 hc_134 hc_135 hc_136 (x_lj_e (fun i _ _ => (hf_102 i (by omega))) hL) (x_gm_e (fun i _ _ => (hf_102 i (by omega))) hG) (x_mx_e (fun i _ _ => (hf_102 i (by omega))) hM) (x_hi_e (fun i _ _ => (hf_102 i (by omega))) hHi) (x_oj_e (fun i _ _ => (hf_102 i (by omega))) hO) (x_pj_e (fun i _ _ => (hf_102 i (by omega))) hT) (iv_hn (fun i _ _ => (hf_102 i (by omega))) hH) (iv_Sn (fun i _ _ => (hf_102 i (by omega))) hSn) (iv_Kp (fun i _ _ => (hf_102 i (by omega))) hKp) (by omega) hfb (by omega) hou hgd hps hk1 hkss hss hsn hF5 hF6 hF12 hF16 hF21 hF22 hF23 hF33 (by omega) hmk hTI hlo)
    · skip
      refine (?_ : AJ G K Q (kc + 2) (ks + 12) false 296 608 [some (.ref bS), some (.ref (q_h G + 0)), some (.ref (q_h G + 279)), some (.ref (q_h G + 294)), some (.ref (q_h G + 295)), some (.int (nI (i))), some (.int (nI (1))), none, none] [.int (nI (0))] σ_114)
      have hc_103 : σ_114 279 = o11 G (upd F 7 (nI (2))) := hc_103
      have hc_137 : σ_114 0 = o10 G (nI (il)) (z2) (z3) := (hf_104 0 (by decide)).trans hv0
      have hc_138 : σ_114 1 = q_an G 600 f := (hf_104 1 (by decide)).trans hv1
      have hc_139 : σ_114 23 = o5 G (23) (nI (lo)) := (hf_104 23 (by decide)).trans hv2
      have hc_140 : σ_114 24 = q_an G 256 o := (hf_104 24 (by decide)).trans hv3
      have hc_141 : σ_114 224 = q_rn G 2 2 (fun j => some (243 + 18 * j)) := (hf_104 224 (by decide)).trans hv4
      have hc_142 : σ_114 225 = q_bn G 2 kp := (hf_104 225 (by decide)).trans hv5
      have hc_143 : σ_114 280 = q_an G 265 g := (hf_104 280 (by decide)).trans hv7
      have hc_144 : σ_114 281 = q_an G 265 wk := (hf_104 281 (by decide)).trans hv8
      have hc_145 : σ_114 282 = q_an G 265 as := (hf_104 282 (by decide)).trans hv9
      have hc_146 : σ_114 283 = q_an G 530 sh := (hf_104 283 (by decide)).trans hv10
      have hc_147 : σ_114 284 = q_an G 2120 a := (hf_104 284 (by decide)).trans hv11
      have hc_148 : σ_114 285 = q_bn G 1681 fb := (hf_104 285 (by decide)).trans hv12
      have hc_149 : σ_114 286 = q_an G 1681 nv := (hf_104 286 (by decide)).trans hv13
      have hc_150 : σ_114 287 = q_an G 1681 ns := (hf_104 287 (by decide)).trans hv14
      have hc_151 : σ_114 288 = q_an G 2000 mk := (hf_104 288 (by decide)).trans hv15
      have hc_152 : σ_114 289 = q_an G 6724 va := (hf_104 289 (by decide)).trans hv16
      have hc_153 : σ_114 290 = q_an G 6724 sp := (hf_104 290 (by decide)).trans hv17
      have hc_154 : σ_114 291 = q_an G 80 lp := (hf_104 291 (by decide)).trans hv18
      have hc_155 : σ_114 292 = q_an G 600 f := (hf_104 292 (by decide)).trans hv19
      have hc_156 : σ_114 293 = q_an G 300 ou := (hf_104 293 (by decide)).trans hv20
      have hc_157 : σ_114 294 = q_ln G 1 oL := (hf_104 294 (by decide)).trans hv21
      have hc_158 : σ_114 295 = q_dn G 1 oD := (hf_104 295 (by decide)).trans hv22
      exact (Chxx r1M (by omega) Mhre).elim
    · skip
      refine (?_ : AJ G K Q (kc + 2) (ks + 12) false 296 608 [some (.ref bS), some (.ref (q_h G + 0)), some (.ref (q_h G + 279)), some (.ref (q_h G + 294)), some (.ref (q_h G + 295)), some (.int (nI (i))), some (.int (nI (1))), none, none] [.int (nI (s_ruleA g r1M x1M))] σ_114)
      have hc_105 : σ_114 279 = o11 G (upd (upd (upd F 7 (nI (0))) 12 (nI (mcqM))) 16 (nI (zqM))) := hc_105
      have hc_159 : σ_114 0 = o10 G (nI (il)) (z2) (z3) := (hf_113 0 (by decide)).trans hv0
      have hc_160 : σ_114 1 = q_an G 600 f := (hf_113 1 (by decide)).trans hv1
      have hc_161 : σ_114 23 = o5 G (23) (nI (lo)) := (hf_113 23 (by decide)).trans hv2
      have hc_162 : σ_114 24 = q_an G 256 o := (hf_113 24 (by decide)).trans hv3
      have hc_163 : σ_114 224 = q_rn G 2 2 (fun j => some (243 + 18 * j)) := (hf_113 224 (by decide)).trans hv4
      have hc_164 : σ_114 225 = q_bn G 2 kp := (hf_113 225 (by decide)).trans hv5
      have hc_165 : σ_114 280 = q_an G 265 g := (hf_113 280 (by decide)).trans hv7
      have hc_166 : σ_114 281 = q_an G 265 wk := (hf_113 281 (by decide)).trans hv8
      have hc_167 : σ_114 282 = q_an G 265 as := (hf_113 282 (by decide)).trans hv9
      have hc_168 : σ_114 283 = q_an G 530 sh := (hf_113 283 (by decide)).trans hv10
      have hc_169 : σ_114 284 = q_an G 2120 a := (hf_113 284 (by decide)).trans hv11
      have hc_170 : σ_114 292 = q_an G 600 f := (hf_113 292 (by decide)).trans hv19
      have hc_171 : σ_114 293 = q_an G 300 ou := (hf_113 293 (by decide)).trans hv20
      have hc_172 : σ_114 294 = q_ln G 1 oL := (hf_113 294 (by decide)).trans hv21
      have hc_173 : σ_114 295 = q_dn G 1 oD := (hf_113 295 (by decide)).trans hv22
      exact (Chxx r1M (by omega) Mhre).elim
  · skip
    rw [he_5]
    refine (?_ : AJ G K Q (kc + 2) (ks + 12) false 296 590 [some (.ref bS), some (.ref (q_h G + 0)), some (.ref (q_h G + 279)), some (.ref (q_h G + 294)), some (.ref (q_h G + 295)), some (.int (nI (i))), none, none, none] [.int (nI (2))] σ)
    obtain ⟨r1C, Chx0, Chx1, Chx2⟩ := Chxx
    refine A_istore hg dL_law_590 (by decide) (q_c1d rfl) ?_
    refine A_eq (ls2 := [some (.ref bS), some (.ref (q_h G + 0)), some (.ref (q_h G + 279)), some (.ref (q_h G + 294)), some (.ref (q_h G + 295)), some (.int (nI (i))), some (.int (nI (2))), none, none]) (st2 := []) (pc2 := 0) rfl rfl ?_
    refine A_aload_n hg dL_law_592 rfl rfl ?_
    refine A_aload_n hg dL_law_593 rfl rfl ?_
    refine A_iload hg dL_law_594 rfl ?_
    refine A_iconst (v := (nI (1))) hg dL_law_596 (by decide) ?_
    refine A_iaddN hg dL_law_597 ?_
    refine A_sld hg hX (i + 1) (by omega) dL_law_598 ?_
    refine A_aload_n hg dL_law_599 rfl rfl ?_
    refine A_iload hg dL_law_600 rfl ?_
    refine A_iconst (v := (nI (2))) hg dL_law_602 (by decide) ?_
    refine A_iaddN hg dL_law_603 ?_
    refine A_sld hg hX (i + 2) (by omega) dL_law_604 ?_
    refine A_hV (kc2 := kc + 2) (ks2 := ks + 12) (As := [.int (xs (i + 1)), .int (xs (i + 2))]) (rest := []) hg lk_RL_182 in_X11_rule se_X11_rule rfl dL_law_605 ⟨by decide, by decide⟩ rfl rfl (hfK 2 12 (by decide) (by decide)) hv6 (by omega) rfl rfl (Nat.le_of_ble_eq_true rfl) (c_X11_rule G false 296 σ F g fb nv ns mk va sp lp mc z (xs (i + 1)) (xs (i + 2)) hv6 hv7 hv12 hv13 hv14 hv15 hv16 hv17 hv18 (by omega) hg9 (by omega) hF12 hF16 hmk hTI hlo) ?_
    rintro _ σ_187 (⟨rfl, Mhno, hc_174, hf_175⟩ | ⟨r1M, rfl, Mhre, Mhrl, Mhnw, hc_176, hf_177⟩ | ⟨r1M, x1M, fqM, nvqM, nsqM, mkqM, vaqM, spqM, loqM, mcqM, zqM, rfl, Mhre, Mhrl, Mhxe, Mhxl, MhTI, Mhmc, Mhmk, Mhlo, hc_178, hc_179, hc_180, hc_181, hc_182, hc_183, hc_184, hc_185, hf_186⟩)
    · skip
      refine (?_ : AJ G K Q (kc + 2) (ks + 12) false 296 608 [some (.ref bS), some (.ref (q_h G + 0)), some (.ref (q_h G + 279)), some (.ref (q_h G + 294)), some (.ref (q_h G + 295)), some (.int (nI (i))), some (.int (nI (2))), none, none] [.int (nI (0))] σ_187)
      have hc_174 : σ_187 279 = o11 G (upd F 7 (nI (1))) := hc_174
      have hc_188 : σ_187 0 = o10 G (nI (il)) (z2) (z3) := (hf_175 0 (by decide)).trans hv0
      have hc_189 : σ_187 1 = q_an G 600 f := (hf_175 1 (by decide)).trans hv1
      have hc_190 : σ_187 23 = o5 G (23) (nI (lo)) := (hf_175 23 (by decide)).trans hv2
      have hc_191 : σ_187 24 = q_an G 256 o := (hf_175 24 (by decide)).trans hv3
      have hc_192 : σ_187 224 = q_rn G 2 2 (fun j => some (243 + 18 * j)) := (hf_175 224 (by decide)).trans hv4
      have hc_193 : σ_187 225 = q_bn G 2 kp := (hf_175 225 (by decide)).trans hv5
      have hc_194 : σ_187 280 = q_an G 265 g := (hf_175 280 (by decide)).trans hv7
      have hc_195 : σ_187 281 = q_an G 265 wk := (hf_175 281 (by decide)).trans hv8
      have hc_196 : σ_187 282 = q_an G 265 as := (hf_175 282 (by decide)).trans hv9
      have hc_197 : σ_187 283 = q_an G 530 sh := (hf_175 283 (by decide)).trans hv10
      have hc_198 : σ_187 284 = q_an G 2120 a := (hf_175 284 (by decide)).trans hv11
      have hc_199 : σ_187 285 = q_bn G 1681 fb := (hf_175 285 (by decide)).trans hv12
      have hc_200 : σ_187 286 = q_an G 1681 nv := (hf_175 286 (by decide)).trans hv13
      have hc_201 : σ_187 287 = q_an G 1681 ns := (hf_175 287 (by decide)).trans hv14
      have hc_202 : σ_187 288 = q_an G 2000 mk := (hf_175 288 (by decide)).trans hv15
      have hc_203 : σ_187 289 = q_an G 6724 va := (hf_175 289 (by decide)).trans hv16
      have hc_204 : σ_187 290 = q_an G 6724 sp := (hf_175 290 (by decide)).trans hv17
      have hc_205 : σ_187 291 = q_an G 80 lp := (hf_175 291 (by decide)).trans hv18
      have hc_206 : σ_187 292 = q_an G 600 f := (hf_175 292 (by decide)).trans hv19
      have hc_207 : σ_187 293 = q_an G 300 ou := (hf_175 293 (by decide)).trans hv20
      have hc_208 : σ_187 294 = q_ln G 1 oL := (hf_175 294 (by decide)).trans hv21
      have hc_209 : σ_187 295 = q_dn G 1 oD := (hf_175 295 (by decide)).trans hv22
      exact (Mhno r1C (by omega) Chx0).elim
    · skip
      refine (?_ : AJ G K Q (kc + 2) (ks + 12) false 296 608 [some (.ref bS), some (.ref (q_h G + 0)), some (.ref (q_h G + 279)), some (.ref (q_h G + 294)), some (.ref (q_h G + 295)), some (.int (nI (i))), some (.int (nI (2))), none, none] [.int (nI (0))] σ_187)
      have hc_176 : σ_187 279 = o11 G (upd F 7 (nI (2))) := hc_176
      have hc_210 : σ_187 0 = o10 G (nI (il)) (z2) (z3) := (hf_177 0 (by decide)).trans hv0
      have hc_211 : σ_187 1 = q_an G 600 f := (hf_177 1 (by decide)).trans hv1
      have hc_212 : σ_187 23 = o5 G (23) (nI (lo)) := (hf_177 23 (by decide)).trans hv2
      have hc_213 : σ_187 24 = q_an G 256 o := (hf_177 24 (by decide)).trans hv3
      have hc_214 : σ_187 224 = q_rn G 2 2 (fun j => some (243 + 18 * j)) := (hf_177 224 (by decide)).trans hv4
      have hc_215 : σ_187 225 = q_bn G 2 kp := (hf_177 225 (by decide)).trans hv5
      have hc_216 : σ_187 280 = q_an G 265 g := (hf_177 280 (by decide)).trans hv7
      have hc_217 : σ_187 281 = q_an G 265 wk := (hf_177 281 (by decide)).trans hv8
      have hc_218 : σ_187 282 = q_an G 265 as := (hf_177 282 (by decide)).trans hv9
      have hc_219 : σ_187 283 = q_an G 530 sh := (hf_177 283 (by decide)).trans hv10
      have hc_220 : σ_187 284 = q_an G 2120 a := (hf_177 284 (by decide)).trans hv11
      have hc_221 : σ_187 285 = q_bn G 1681 fb := (hf_177 285 (by decide)).trans hv12
      have hc_222 : σ_187 286 = q_an G 1681 nv := (hf_177 286 (by decide)).trans hv13
      have hc_223 : σ_187 287 = q_an G 1681 ns := (hf_177 287 (by decide)).trans hv14
      have hc_224 : σ_187 288 = q_an G 2000 mk := (hf_177 288 (by decide)).trans hv15
      have hc_225 : σ_187 289 = q_an G 6724 va := (hf_177 289 (by decide)).trans hv16
      have hc_226 : σ_187 290 = q_an G 6724 sp := (hf_177 290 (by decide)).trans hv17
      have hc_227 : σ_187 291 = q_an G 80 lp := (hf_177 291 (by decide)).trans hv18
      have hc_228 : σ_187 292 = q_an G 600 f := (hf_177 292 (by decide)).trans hv19
      have hc_229 : σ_187 293 = q_an G 300 ou := (hf_177 293 (by decide)).trans hv20
      have hc_230 : σ_187 294 = q_ln G 1 oL := (hf_177 294 (by decide)).trans hv21
      have hc_231 : σ_187 295 = q_dn G 1 oD := (hf_177 295 (by decide)).trans hv22
      have e_r : r1C = r1M := q_nI_inj (by omega) (by omega) (Chx0.symm.trans Mhre)
      subst e_r
      refine A_istore hg dL_law_608 (by decide) (q_c1d rfl) ?_
      refine A_eq (ls2 := [some (.ref bS), some (.ref (q_h G + 0)), some (.ref (q_h G + 279)), some (.ref (q_h G + 294)), some (.ref (q_h G + 295)), some (.int (nI (i))), some (.int (nI (2))), some (.int (nI (0))), none]) (st2 := []) (pc2 := 0) rfl rfl ?_
      refine A_aload_n hg dL_law_610 rfl rfl ?_
      refine A_eV (kc2 := kc + 2) (ks2 := ks + 12) (As := []) (rest := []) hg lk_RL_170 in_X11_thrown se_X11_thrown rfl dL_law_611 ⟨by decide, by decide⟩ rfl rfl (hfK 2 12 (by decide) (by decide)) hc_176 (by omega) rfl rfl (Nat.le_of_ble_eq_true rfl) (c_X11_thrown G false 296 σ_187 (upd F 7 (nI (2))) hc_176 (by omega)) ?_
      refine A_top (w := .int (nI (2))) (congrArg Value.int rfl) ?_
      refine A_iload hg dL_law_614 rfl ?_
      refine A_icmp_eqN (tgt := 621) hg dL_law_616 (by decide) (by decide) (by decide) (fun c616 => ?_) (fun c616 => False.elim (by omega))
      refine A_iload hg dL_law_621 rfl ?_
      refine A_if_neN (tgt := 638) hg dL_law_623 (by decide) (by decide) (fun c623 => ?_) (fun c623 => absurd c623 (by decide))
      refine A_goto (tgt := 3062) hg dL_law_638 (by decide) ?_
      refine A_drop 6 ?_
      refine A_drop 7 ?_
      refine A_eq (ls2 := [some (.ref bS), some (.ref (q_h G + 0)), some (.ref (q_h G + 279)), some (.ref (q_h G + 294)), some (.ref (q_h G + 295)), some (.int (nI (i))), none, none, none]) (st2 := []) (pc2 := 0) rfl rfl ?_
      refine A_wide (kc2 := kc + 8) (ks2 := ks + 48) (by omega) (by omega) ?_
      exact hnxt _ (iv_mk il z2 z3 f lo o g nx m ps kp sn (upd F 7 (nI (2))) wk as sh a fb nv ns mk va sp lp mc z ss ou oL oD hc_210 hc_211 hc_212 hc_213 hc_214 hc_215 hc_176 hc_216 hc_217 hc_218 hc_219 hc_220 hc_221 hc_222 hc_223 hc_224 hc_225 hc_226 hc_227 hc_228 hc_229 hc_230 hc_231 (x_lj_e (fun i _ _ => (hf_177 i (by omega))) hL) (x_gm_e (fun i _ _ => (hf_177 i (by omega))) hG) (x_mx_e (fun i _ _ => (hf_177 i (by omega))) hM) (x_hi_e (fun i _ _ => (hf_177 i (by omega))) hHi) (x_oj_e (fun i _ _ => (hf_177 i (by omega))) hO) (x_pj_e (fun i _ _ => (hf_177 i (by omega))) hT) (iv_hn (fun i _ _ => (hf_177 i (by omega))) hH) (iv_Sn (fun i _ _ => (hf_177 i (by omega))) hSn) (iv_Kp (fun i _ _ => (hf_177 i (by omega))) hKp) (by omega) hfb (by omega) hou hgd hps hk1 hkss hss hsn hF5 hF6 hF12 hF16 hF21 hF22 hF23 hF33 (by omega) hmk hTI hlo)
    · skip
      refine (?_ : AJ G K Q (kc + 2) (ks + 12) false 296 608 [some (.ref bS), some (.ref (q_h G + 0)), some (.ref (q_h G + 279)), some (.ref (q_h G + 294)), some (.ref (q_h G + 295)), some (.int (nI (i))), some (.int (nI (2))), none, none] [.int (nI (s_ruleA g r1M x1M))] σ_187)
      have hc_178 : σ_187 279 = o11 G (upd (upd (upd F 7 (nI (0))) 12 (nI (mcqM))) 16 (nI (zqM))) := hc_178
      have hc_232 : σ_187 0 = o10 G (nI (il)) (z2) (z3) := (hf_186 0 (by decide)).trans hv0
      have hc_233 : σ_187 1 = q_an G 600 f := (hf_186 1 (by decide)).trans hv1
      have hc_234 : σ_187 23 = o5 G (23) (nI (lo)) := (hf_186 23 (by decide)).trans hv2
      have hc_235 : σ_187 24 = q_an G 256 o := (hf_186 24 (by decide)).trans hv3
      have hc_236 : σ_187 224 = q_rn G 2 2 (fun j => some (243 + 18 * j)) := (hf_186 224 (by decide)).trans hv4
      have hc_237 : σ_187 225 = q_bn G 2 kp := (hf_186 225 (by decide)).trans hv5
      have hc_238 : σ_187 280 = q_an G 265 g := (hf_186 280 (by decide)).trans hv7
      have hc_239 : σ_187 281 = q_an G 265 wk := (hf_186 281 (by decide)).trans hv8
      have hc_240 : σ_187 282 = q_an G 265 as := (hf_186 282 (by decide)).trans hv9
      have hc_241 : σ_187 283 = q_an G 530 sh := (hf_186 283 (by decide)).trans hv10
      have hc_242 : σ_187 284 = q_an G 2120 a := (hf_186 284 (by decide)).trans hv11
      have hc_243 : σ_187 292 = q_an G 600 f := (hf_186 292 (by decide)).trans hv19
      have hc_244 : σ_187 293 = q_an G 300 ou := (hf_186 293 (by decide)).trans hv20
      have hc_245 : σ_187 294 = q_ln G 1 oL := (hf_186 294 (by decide)).trans hv21
      have hc_246 : σ_187 295 = q_dn G 1 oD := (hf_186 295 (by decide)).trans hv22
      have e_r : r1C = r1M := q_nI_inj (by omega) (by omega) (Chx0.symm.trans Mhre)
      subst e_r
      exact (Chx2 x1M (by omega) (by omega) Mhxe).elim
set_option maxRecDepth 100000 in
set_option maxHeartbeats 4000000 in
theorem law_c9 (G : GL) (K : KC) (Q : State → Prop) (hh : List (Nat × Nat × Nat × Nat)) (hg : Gd G K RL code 9 ret room_1 hh) (bS L : Nat) (xs : Nat → Int32) (hX : q_scr G K bS L xs) (i kc ks J : Nat) (hi : i + 5 < L) (hL31 : L < 2 ^ 31) (hkc : kc + 8 ≤ 601024) (hks : ks + 48 ≤ 7293034) (σ : Nat → va_E) (hI : iv G σ J) (hJ : J < 512) (hfd : q_fdn) (hdd : q_ddn) (hf2 : q_f2n) (hds : q_dcs) (hnxt : ∀ σ9 : Nat → va_E, iv G σ9 (J + 1) → AJ G K Q (kc + 8) (ks + 48) false 296 3062 [some (.ref bS), some (.ref (q_h G + 0)), some (.ref (q_h G + 279)), some (.ref (q_h G + 294)), some (.ref (q_h G + 295)), some (.int (nI (i))), none, none, none] [] σ9) : AJ G K Q kc ks false 296 641 [some (.ref bS), some (.ref (q_h G + 0)), some (.ref (q_h G + 279)), some (.ref (q_h G + 294)), some (.ref (q_h G + 295)), some (.int (nI (i))), none, none, none] [] σ := by
  refine iv_el hI ?_
  intro il z2 z3 f lo o g nx m ps kp sn F wk as sh a fb nv ns mk va sp lp mc z ss ou oL oD
  intro hv0 hv1 hv2 hv3 hv4 hv5 hv6 hv7 hv8 hv9 hv10 hv11 hv12 hv13 hv14 hv15 hv16 hv17 hv18 hv19 hv20 hv21 hv22
  intro hL hG hM hHi hO hT hH hSn hKp
  intro hil hfb hlo2 hou hgd hps hk1 hkss hss hsn hF5 hF6 hF12 hF16 hF21 hF22 hF23 hF33 hmc hmk hTI hlo
  have hfK : ∀ a b : Nat, a ≤ 8 → b ≤ 48 → kc + a ≤ room_1.cells ∧ ks + b ≤ room_1.slots := fun a b h1 h2 => ⟨by show kc + a ≤ 601024; omega, by show ks + b ≤ 7293034; omega⟩
  have hg9 := iv_g hG
  obtain ⟨hnx8, hm8, hc78⟩ := iv_hi hHi
  have hbb := iv_byte (m := il) hfb
  have hg90 := hg9.1
  have hg96 := hg9.2.2.2.2.1
  have hnp8 := s_np_le hg9
  refine A_aload_n hg dL_law_641 rfl rfl ?_
  refine A_aload_n hg dL_law_642 rfl rfl ?_
  refine A_iload hg dL_law_643 rfl ?_
  refine A_iconst (v := (nI (1))) hg dL_law_645 (by decide) ?_
  refine A_iaddN hg dL_law_646 ?_
  refine A_sld hg hX (i + 1) (by omega) dL_law_647 ?_
  refine A_aload_n hg dL_law_648 rfl rfl ?_
  refine A_iload hg dL_law_649 rfl ?_
  refine A_iconst (v := (nI (2))) hg dL_law_651 (by decide) ?_
  refine A_iaddN hg dL_law_652 ?_
  refine A_sld hg hX (i + 2) (by omega) dL_law_653 ?_
  refine A_aload_n hg dL_law_654 rfl rfl ?_
  refine A_callSH (As := [.ref (q_h G + 0), .int (xs (i + 1)), .int (xs (i + 2)), .ref (q_h G + 294)]) (rest := []) hg lkH_183 stH_L_only dL_law_655 ⟨by decide, by decide⟩ (hfK 1 6 (by decide) (by decide)) rfl rfl (Nat.le_of_ble_eq_true rfl) (c_L_only G 296 σ (nI (il)) z2 z3 g (xs (i + 1)) (xs (i + 2)) oL hv0 hv21 (by omega) hG (by omega)) ?_
  rintro _ σ_1 (⟨r1C, i1C, rfl, Chre, Chrl, Chie, Chil, hc_2, hf_3⟩ | ⟨r1C, rfl, Chre, Chrl, Chni, hc_4, hf_5⟩ | ⟨rfl, Chxx, he_6⟩)
  · skip
    refine (?_ : AJ G K Q (kc + 1) (ks + 6) false 296 658 [some (.ref bS), some (.ref (q_h G + 0)), some (.ref (q_h G + 279)), some (.ref (q_h G + 294)), some (.ref (q_h G + 295)), some (.int (nI (i))), none, none, none] [.int (nI (0))] σ_1)
    have hc_7 : σ_1 0 = o10 G (nI (il)) (z2) (z3) := (hf_3 0 (by decide)).trans hv0
    have hc_8 : σ_1 1 = q_an G 600 f := (hf_3 1 (by decide)).trans hv1
    have hc_9 : σ_1 23 = o5 G (23) (nI (lo)) := (hf_3 23 (by decide)).trans hv2
    have hc_10 : σ_1 24 = q_an G 256 o := (hf_3 24 (by decide)).trans hv3
    have hc_11 : σ_1 224 = q_rn G 2 2 (fun j => some (243 + 18 * j)) := (hf_3 224 (by decide)).trans hv4
    have hc_12 : σ_1 225 = q_bn G 2 kp := (hf_3 225 (by decide)).trans hv5
    have hc_13 : σ_1 279 = o11 G F := (hf_3 279 (by decide)).trans hv6
    have hc_14 : σ_1 280 = q_an G 265 g := (hf_3 280 (by decide)).trans hv7
    have hc_15 : σ_1 281 = q_an G 265 wk := (hf_3 281 (by decide)).trans hv8
    have hc_16 : σ_1 282 = q_an G 265 as := (hf_3 282 (by decide)).trans hv9
    have hc_17 : σ_1 283 = q_an G 530 sh := (hf_3 283 (by decide)).trans hv10
    have hc_18 : σ_1 284 = q_an G 2120 a := (hf_3 284 (by decide)).trans hv11
    have hc_19 : σ_1 285 = q_bn G 1681 fb := (hf_3 285 (by decide)).trans hv12
    have hc_20 : σ_1 286 = q_an G 1681 nv := (hf_3 286 (by decide)).trans hv13
    have hc_21 : σ_1 287 = q_an G 1681 ns := (hf_3 287 (by decide)).trans hv14
    have hc_22 : σ_1 288 = q_an G 2000 mk := (hf_3 288 (by decide)).trans hv15
    have hc_23 : σ_1 289 = q_an G 6724 va := (hf_3 289 (by decide)).trans hv16
    have hc_24 : σ_1 290 = q_an G 6724 sp := (hf_3 290 (by decide)).trans hv17
    have hc_25 : σ_1 291 = q_an G 80 lp := (hf_3 291 (by decide)).trans hv18
    have hc_26 : σ_1 292 = q_an G 600 f := (hf_3 292 (by decide)).trans hv19
    have hc_27 : σ_1 293 = q_an G 300 ou := (hf_3 293 (by decide)).trans hv20
    have hc_28 : σ_1 295 = q_dn G 1 oD := (hf_3 295 (by decide)).trans hv22
    refine A_istore hg dL_law_658 (by decide) (q_c1d rfl) ?_
    refine A_eq (ls2 := [some (.ref bS), some (.ref (q_h G + 0)), some (.ref (q_h G + 279)), some (.ref (q_h G + 294)), some (.ref (q_h G + 295)), some (.int (nI (i))), some (.int (nI (0))), none, none]) (st2 := []) (pc2 := 0) rfl rfl ?_
    refine A_aload_n hg dL_law_660 rfl rfl ?_
    refine A_aload_n hg dL_law_661 rfl rfl ?_
    refine A_iload hg dL_law_662 rfl ?_
    refine A_iconst (v := (nI (1))) hg dL_law_664 (by decide) ?_
    refine A_iaddN hg dL_law_665 ?_
    refine A_sld hg hX (i + 1) (by omega) dL_law_666 ?_
    refine A_aload_n hg dL_law_667 rfl rfl ?_
    refine A_iload hg dL_law_668 rfl ?_
    refine A_iconst (v := (nI (2))) hg dL_law_670 (by decide) ?_
    refine A_iaddN hg dL_law_671 ?_
    refine A_sld hg hX (i + 2) (by omega) dL_law_672 ?_
    refine A_hV (kc2 := kc + 1) (ks2 := ks + 6) (As := [.int (xs (i + 1)), .int (xs (i + 2))]) (rest := []) hg lk_RL_185 in_X11_only se_X11_only rfl dL_law_673 ⟨by decide, by decide⟩ rfl rfl (hfK 1 6 (by decide) (by decide)) hc_13 (by omega) rfl rfl (Nat.le_of_ble_eq_true rfl) (c_X11_only G false 296 σ_1 F g (xs (i + 1)) (xs (i + 2)) hc_13 hc_14 (by omega) hg9) ?_
    rintro _ σ_35 (⟨rfl, Mhno, hc_29, hf_30⟩ | ⟨r1M, i1M, rfl, Mhre, Mhrl, Mhie, Mhil, hc_31, hf_32⟩ | ⟨r1M, rfl, Mhre, Mhrl, Mhni, hc_33, hf_34⟩)
    · skip
      refine (?_ : AJ G K Q (kc + 1) (ks + 6) false 296 676 [some (.ref bS), some (.ref (q_h G + 0)), some (.ref (q_h G + 279)), some (.ref (q_h G + 294)), some (.ref (q_h G + 295)), some (.int (nI (i))), some (.int (nI (0))), none, none] [.int (nI (0))] σ_35)
      have hc_29 : σ_35 279 = o11 G (upd F 7 (nI (1))) := hc_29
      have hc_36 : σ_35 0 = o10 G (nI (il)) (z2) (z3) := (hf_30 0 (by decide)).trans hc_7
      have hc_37 : σ_35 1 = q_an G 600 f := (hf_30 1 (by decide)).trans hc_8
      have hc_38 : σ_35 23 = o5 G (23) (nI (lo)) := (hf_30 23 (by decide)).trans hc_9
      have hc_39 : σ_35 24 = q_an G 256 o := (hf_30 24 (by decide)).trans hc_10
      have hc_40 : σ_35 224 = q_rn G 2 2 (fun j => some (243 + 18 * j)) := (hf_30 224 (by decide)).trans hc_11
      have hc_41 : σ_35 225 = q_bn G 2 kp := (hf_30 225 (by decide)).trans hc_12
      have hc_42 : σ_35 280 = q_an G 265 g := (hf_30 280 (by decide)).trans hc_14
      have hc_43 : σ_35 281 = q_an G 265 wk := (hf_30 281 (by decide)).trans hc_15
      have hc_44 : σ_35 282 = q_an G 265 as := (hf_30 282 (by decide)).trans hc_16
      have hc_45 : σ_35 283 = q_an G 530 sh := (hf_30 283 (by decide)).trans hc_17
      have hc_46 : σ_35 284 = q_an G 2120 a := (hf_30 284 (by decide)).trans hc_18
      have hc_47 : σ_35 285 = q_bn G 1681 fb := (hf_30 285 (by decide)).trans hc_19
      have hc_48 : σ_35 286 = q_an G 1681 nv := (hf_30 286 (by decide)).trans hc_20
      have hc_49 : σ_35 287 = q_an G 1681 ns := (hf_30 287 (by decide)).trans hc_21
      have hc_50 : σ_35 288 = q_an G 2000 mk := (hf_30 288 (by decide)).trans hc_22
      have hc_51 : σ_35 289 = q_an G 6724 va := (hf_30 289 (by decide)).trans hc_23
      have hc_52 : σ_35 290 = q_an G 6724 sp := (hf_30 290 (by decide)).trans hc_24
      have hc_53 : σ_35 291 = q_an G 80 lp := (hf_30 291 (by decide)).trans hc_25
      have hc_54 : σ_35 292 = q_an G 600 f := (hf_30 292 (by decide)).trans hc_26
      have hc_55 : σ_35 293 = q_an G 300 ou := (hf_30 293 (by decide)).trans hc_27
      have hc_56 : σ_35 295 = q_dn G 1 oD := (hf_30 295 (by decide)).trans hc_28
      have hc_57 : σ_35 294 = q_ln G 1 (va_up oL 0 ((nI (s_rule g r1C (10 + i1C))).toInt64)) := (hf_30 294 (by decide)).trans hc_2
      have hub_i1C := (hg9.2.2.2.2.2.1 r1C Chrl).2.1
      exact (Mhno r1C (by omega) Chre).elim
    · skip
      refine (?_ : AJ G K Q (kc + 1) (ks + 6) false 296 676 [some (.ref bS), some (.ref (q_h G + 0)), some (.ref (q_h G + 279)), some (.ref (q_h G + 294)), some (.ref (q_h G + 295)), some (.int (nI (i))), some (.int (nI (0))), none, none] [.int (nI (s_rule g r1M (10 + i1M)))] σ_35)
      have hc_31 : σ_35 279 = o11 G (upd F 7 (nI (0))) := hc_31
      have hc_58 : σ_35 0 = o10 G (nI (il)) (z2) (z3) := (hf_32 0 (by decide)).trans hc_7
      have hc_59 : σ_35 1 = q_an G 600 f := (hf_32 1 (by decide)).trans hc_8
      have hc_60 : σ_35 23 = o5 G (23) (nI (lo)) := (hf_32 23 (by decide)).trans hc_9
      have hc_61 : σ_35 24 = q_an G 256 o := (hf_32 24 (by decide)).trans hc_10
      have hc_62 : σ_35 224 = q_rn G 2 2 (fun j => some (243 + 18 * j)) := (hf_32 224 (by decide)).trans hc_11
      have hc_63 : σ_35 225 = q_bn G 2 kp := (hf_32 225 (by decide)).trans hc_12
      have hc_64 : σ_35 280 = q_an G 265 g := (hf_32 280 (by decide)).trans hc_14
      have hc_65 : σ_35 281 = q_an G 265 wk := (hf_32 281 (by decide)).trans hc_15
      have hc_66 : σ_35 282 = q_an G 265 as := (hf_32 282 (by decide)).trans hc_16
      have hc_67 : σ_35 283 = q_an G 530 sh := (hf_32 283 (by decide)).trans hc_17
      have hc_68 : σ_35 284 = q_an G 2120 a := (hf_32 284 (by decide)).trans hc_18
      have hc_69 : σ_35 285 = q_bn G 1681 fb := (hf_32 285 (by decide)).trans hc_19
      have hc_70 : σ_35 286 = q_an G 1681 nv := (hf_32 286 (by decide)).trans hc_20
      have hc_71 : σ_35 287 = q_an G 1681 ns := (hf_32 287 (by decide)).trans hc_21
      have hc_72 : σ_35 288 = q_an G 2000 mk := (hf_32 288 (by decide)).trans hc_22
      have hc_73 : σ_35 289 = q_an G 6724 va := (hf_32 289 (by decide)).trans hc_23
      have hc_74 : σ_35 290 = q_an G 6724 sp := (hf_32 290 (by decide)).trans hc_24
      have hc_75 : σ_35 291 = q_an G 80 lp := (hf_32 291 (by decide)).trans hc_25
      have hc_76 : σ_35 292 = q_an G 600 f := (hf_32 292 (by decide)).trans hc_26
      have hc_77 : σ_35 293 = q_an G 300 ou := (hf_32 293 (by decide)).trans hc_27
      have hc_78 : σ_35 295 = q_dn G 1 oD := (hf_32 295 (by decide)).trans hc_28
      have hc_79 : σ_35 294 = q_ln G 1 (va_up oL 0 ((nI (s_rule g r1C (10 + i1C))).toInt64)) := (hf_32 294 (by decide)).trans hc_2
      have hub_i1C := (hg9.2.2.2.2.2.1 r1C Chrl).2.1
      have hub_i1M := (hg9.2.2.2.2.2.1 r1M Mhrl).2.1
      have e_r : r1C = r1M := q_nI_inj (by omega) (by omega) (Chre.symm.trans Mhre)
      subst e_r
      have e_x : i1C = i1M := q_nI_inj (by omega) (by omega) (Chie.symm.trans Mhie)
      subst e_x
      refine A_istore hg dL_law_676 (by decide) (q_c1d rfl) ?_
      refine A_eq (ls2 := [some (.ref bS), some (.ref (q_h G + 0)), some (.ref (q_h G + 279)), some (.ref (q_h G + 294)), some (.ref (q_h G + 295)), some (.int (nI (i))), some (.int (nI (0))), some (.int (nI (s_rule g r1C (10 + i1C)))), none]) (st2 := []) (pc2 := 0) rfl rfl ?_
      refine A_aload_n hg dL_law_678 rfl rfl ?_
      refine A_eV (kc2 := kc + 1) (ks2 := ks + 6) (As := []) (rest := []) hg lk_RL_170 in_X11_thrown se_X11_thrown rfl dL_law_679 ⟨by decide, by decide⟩ rfl rfl (hfK 1 6 (by decide) (by decide)) hc_31 (by omega) rfl rfl (Nat.le_of_ble_eq_true rfl) (c_X11_thrown G false 296 σ_35 (upd F 7 (nI (0))) hc_31 (by omega)) ?_
      refine A_top (w := .int (nI (0))) (congrArg Value.int rfl) ?_
      refine A_iload hg dL_law_682 rfl ?_
      refine A_icmp_eqN (tgt := 689) hg dL_law_684 (by decide) (by decide) (by decide) (fun c684 => ?_) (fun c684 => False.elim (by omega))
      refine A_iload hg dL_law_689 rfl ?_
      refine A_if_neN (tgt := 706) hg dL_law_691 (by decide) (by decide) (fun c691 => absurd (by decide) c691) (fun c691 => ?_)
      refine A_aload_n hg dL_law_694 rfl rfl ?_
      refine A_iconst (v := (nI (0))) hg dL_law_695 (by decide) ?_
      refine A_lald (j := 0) hg dL_law_696 hc_79 (by omega) (by decide) (by decide) ?_
      refine A_top (w := .long ((nI (s_rule g r1C (10 + i1C))).toInt64)) (congrArg Value.long iv_up0) ?_
      refine A_iload hg dL_law_697 rfl ?_
      refine A_i2l (v := (nI (s_rule g r1C (10 + i1C))).toInt64) hg dL_law_699 rfl ?_
      refine A_lcmp hg dL_law_700 ?_
      refine A_top (w := .int (nI 0)) (congrArg Value.int (lc_self _)) ?_
      refine A_if_eqN (tgt := 706) hg dL_law_701 (by decide) (by decide) (fun c701 => ?_) (fun c701 => absurd (by decide) c701)
      refine A_goto (tgt := 3062) hg dL_law_706 (by decide) ?_
      refine A_drop 6 ?_
      refine A_drop 7 ?_
      refine A_eq (ls2 := [some (.ref bS), some (.ref (q_h G + 0)), some (.ref (q_h G + 279)), some (.ref (q_h G + 294)), some (.ref (q_h G + 295)), some (.int (nI (i))), none, none, none]) (st2 := []) (pc2 := 0) rfl rfl ?_
      refine A_wide (kc2 := kc + 8) (ks2 := ks + 48) (by omega) (by omega) ?_
      exact hnxt _ (iv_mk il z2 z3 f lo o g nx m ps kp sn (upd F 7 (nI (0))) wk as sh a fb nv ns mk va sp lp mc z ss ou (va_up oL 0 ((nI (s_rule g r1C (10 + i1C))).toInt64)) oD hc_58 hc_59 hc_60 hc_61 hc_62 hc_63 hc_31 hc_64 hc_65 hc_66 hc_67 hc_68 hc_69 hc_70 hc_71 hc_72 hc_73 hc_74 hc_75 hc_76 hc_77 hc_79 hc_78 (x_lj_e (fun i _ _ => ((hf_32 i (by omega)).trans (hf_3 i (by omega)))) hL) (x_gm_e (fun i _ _ => ((hf_32 i (by omega)).trans (hf_3 i (by omega)))) hG) (x_mx_e (fun i _ _ => ((hf_32 i (by omega)).trans (hf_3 i (by omega)))) hM) (x_hi_e (fun i _ _ => ((hf_32 i (by omega)).trans (hf_3 i (by omega)))) hHi) (x_oj_e (fun i _ _ => ((hf_32 i (by omega)).trans (hf_3 i (by omega)))) hO) (x_pj_e (fun i _ _ => ((hf_32 i (by omega)).trans (hf_3 i (by omega)))) hT) (iv_hn (fun i _ _ => ((hf_32 i (by omega)).trans (hf_3 i (by omega)))) hH) (iv_Sn (fun i _ _ => ((hf_32 i (by omega)).trans (hf_3 i (by omega)))) hSn) (iv_Kp (fun i _ _ => ((hf_32 i (by omega)).trans (hf_3 i (by omega)))) hKp) (by omega) hfb (by omega) hou hgd hps hk1 hkss hss hsn hF5 hF6 hF12 hF16 hF21 hF22 hF23 hF33 (by omega) hmk hTI hlo)
    · skip
      refine (?_ : AJ G K Q (kc + 1) (ks + 6) false 296 676 [some (.ref bS), some (.ref (q_h G + 0)), some (.ref (q_h G + 279)), some (.ref (q_h G + 294)), some (.ref (q_h G + 295)), some (.int (nI (i))), some (.int (nI (0))), none, none] [.int (q_d (0))] σ_35)
      have hc_33 : σ_35 279 = o11 G (upd F 7 (nI (0))) := hc_33
      have hc_80 : σ_35 0 = o10 G (nI (il)) (z2) (z3) := (hf_34 0 (by decide)).trans hc_7
      have hc_81 : σ_35 1 = q_an G 600 f := (hf_34 1 (by decide)).trans hc_8
      have hc_82 : σ_35 23 = o5 G (23) (nI (lo)) := (hf_34 23 (by decide)).trans hc_9
      have hc_83 : σ_35 24 = q_an G 256 o := (hf_34 24 (by decide)).trans hc_10
      have hc_84 : σ_35 224 = q_rn G 2 2 (fun j => some (243 + 18 * j)) := (hf_34 224 (by decide)).trans hc_11
      have hc_85 : σ_35 225 = q_bn G 2 kp := (hf_34 225 (by decide)).trans hc_12
      have hc_86 : σ_35 280 = q_an G 265 g := (hf_34 280 (by decide)).trans hc_14
      have hc_87 : σ_35 281 = q_an G 265 wk := (hf_34 281 (by decide)).trans hc_15
      have hc_88 : σ_35 282 = q_an G 265 as := (hf_34 282 (by decide)).trans hc_16
      have hc_89 : σ_35 283 = q_an G 530 sh := (hf_34 283 (by decide)).trans hc_17
      have hc_90 : σ_35 284 = q_an G 2120 a := (hf_34 284 (by decide)).trans hc_18
      have hc_91 : σ_35 285 = q_bn G 1681 fb := (hf_34 285 (by decide)).trans hc_19
      have hc_92 : σ_35 286 = q_an G 1681 nv := (hf_34 286 (by decide)).trans hc_20
      have hc_93 : σ_35 287 = q_an G 1681 ns := (hf_34 287 (by decide)).trans hc_21
      have hc_94 : σ_35 288 = q_an G 2000 mk := (hf_34 288 (by decide)).trans hc_22
      have hc_95 : σ_35 289 = q_an G 6724 va := (hf_34 289 (by decide)).trans hc_23
      have hc_96 : σ_35 290 = q_an G 6724 sp := (hf_34 290 (by decide)).trans hc_24
      have hc_97 : σ_35 291 = q_an G 80 lp := (hf_34 291 (by decide)).trans hc_25
      have hc_98 : σ_35 292 = q_an G 600 f := (hf_34 292 (by decide)).trans hc_26
      have hc_99 : σ_35 293 = q_an G 300 ou := (hf_34 293 (by decide)).trans hc_27
      have hc_100 : σ_35 295 = q_dn G 1 oD := (hf_34 295 (by decide)).trans hc_28
      have hc_101 : σ_35 294 = q_ln G 1 (va_up oL 0 ((nI (s_rule g r1C (10 + i1C))).toInt64)) := (hf_34 294 (by decide)).trans hc_2
      have hub_i1C := (hg9.2.2.2.2.2.1 r1C Chrl).2.1
      have e_r : r1C = r1M := q_nI_inj (by omega) (by omega) (Chre.symm.trans Mhre)
      subst e_r
      exact (Mhni i1C (by omega) Chie).elim
  · skip
    refine (?_ : AJ G K Q (kc + 1) (ks + 6) false 296 658 [some (.ref bS), some (.ref (q_h G + 0)), some (.ref (q_h G + 279)), some (.ref (q_h G + 294)), some (.ref (q_h G + 295)), some (.int (nI (i))), none, none, none] [.int (nI (0))] σ_1)
    have hc_102 : σ_1 0 = o10 G (nI (il)) (z2) (z3) := (hf_5 0 (by decide)).trans hv0
    have hc_103 : σ_1 1 = q_an G 600 f := (hf_5 1 (by decide)).trans hv1
    have hc_104 : σ_1 23 = o5 G (23) (nI (lo)) := (hf_5 23 (by decide)).trans hv2
    have hc_105 : σ_1 24 = q_an G 256 o := (hf_5 24 (by decide)).trans hv3
    have hc_106 : σ_1 224 = q_rn G 2 2 (fun j => some (243 + 18 * j)) := (hf_5 224 (by decide)).trans hv4
    have hc_107 : σ_1 225 = q_bn G 2 kp := (hf_5 225 (by decide)).trans hv5
    have hc_108 : σ_1 279 = o11 G F := (hf_5 279 (by decide)).trans hv6
    have hc_109 : σ_1 280 = q_an G 265 g := (hf_5 280 (by decide)).trans hv7
    have hc_110 : σ_1 281 = q_an G 265 wk := (hf_5 281 (by decide)).trans hv8
    have hc_111 : σ_1 282 = q_an G 265 as := (hf_5 282 (by decide)).trans hv9
    have hc_112 : σ_1 283 = q_an G 530 sh := (hf_5 283 (by decide)).trans hv10
    have hc_113 : σ_1 284 = q_an G 2120 a := (hf_5 284 (by decide)).trans hv11
    have hc_114 : σ_1 285 = q_bn G 1681 fb := (hf_5 285 (by decide)).trans hv12
    have hc_115 : σ_1 286 = q_an G 1681 nv := (hf_5 286 (by decide)).trans hv13
    have hc_116 : σ_1 287 = q_an G 1681 ns := (hf_5 287 (by decide)).trans hv14
    have hc_117 : σ_1 288 = q_an G 2000 mk := (hf_5 288 (by decide)).trans hv15
    have hc_118 : σ_1 289 = q_an G 6724 va := (hf_5 289 (by decide)).trans hv16
    have hc_119 : σ_1 290 = q_an G 6724 sp := (hf_5 290 (by decide)).trans hv17
    have hc_120 : σ_1 291 = q_an G 80 lp := (hf_5 291 (by decide)).trans hv18
    have hc_121 : σ_1 292 = q_an G 600 f := (hf_5 292 (by decide)).trans hv19
    have hc_122 : σ_1 293 = q_an G 300 ou := (hf_5 293 (by decide)).trans hv20
    have hc_123 : σ_1 295 = q_dn G 1 oD := (hf_5 295 (by decide)).trans hv22
    refine A_istore hg dL_law_658 (by decide) (q_c1d rfl) ?_
    refine A_eq (ls2 := [some (.ref bS), some (.ref (q_h G + 0)), some (.ref (q_h G + 279)), some (.ref (q_h G + 294)), some (.ref (q_h G + 295)), some (.int (nI (i))), some (.int (nI (0))), none, none]) (st2 := []) (pc2 := 0) rfl rfl ?_
    refine A_aload_n hg dL_law_660 rfl rfl ?_
    refine A_aload_n hg dL_law_661 rfl rfl ?_
    refine A_iload hg dL_law_662 rfl ?_
    refine A_iconst (v := (nI (1))) hg dL_law_664 (by decide) ?_
    refine A_iaddN hg dL_law_665 ?_
    refine A_sld hg hX (i + 1) (by omega) dL_law_666 ?_
    refine A_aload_n hg dL_law_667 rfl rfl ?_
    refine A_iload hg dL_law_668 rfl ?_
    refine A_iconst (v := (nI (2))) hg dL_law_670 (by decide) ?_
    refine A_iaddN hg dL_law_671 ?_
    refine A_sld hg hX (i + 2) (by omega) dL_law_672 ?_
    refine A_hV (kc2 := kc + 1) (ks2 := ks + 6) (As := [.int (xs (i + 1)), .int (xs (i + 2))]) (rest := []) hg lk_RL_185 in_X11_only se_X11_only rfl dL_law_673 ⟨by decide, by decide⟩ rfl rfl (hfK 1 6 (by decide) (by decide)) hc_108 (by omega) rfl rfl (Nat.le_of_ble_eq_true rfl) (c_X11_only G false 296 σ_1 F g (xs (i + 1)) (xs (i + 2)) hc_108 hc_109 (by omega) hg9) ?_
    rintro _ σ_130 (⟨rfl, Mhno, hc_124, hf_125⟩ | ⟨r1M, i1M, rfl, Mhre, Mhrl, Mhie, Mhil, hc_126, hf_127⟩ | ⟨r1M, rfl, Mhre, Mhrl, Mhni, hc_128, hf_129⟩)
    · skip
      refine (?_ : AJ G K Q (kc + 1) (ks + 6) false 296 676 [some (.ref bS), some (.ref (q_h G + 0)), some (.ref (q_h G + 279)), some (.ref (q_h G + 294)), some (.ref (q_h G + 295)), some (.int (nI (i))), some (.int (nI (0))), none, none] [.int (nI (0))] σ_130)
      have hc_124 : σ_130 279 = o11 G (upd F 7 (nI (1))) := hc_124
      have hc_131 : σ_130 0 = o10 G (nI (il)) (z2) (z3) := (hf_125 0 (by decide)).trans hc_102
      have hc_132 : σ_130 1 = q_an G 600 f := (hf_125 1 (by decide)).trans hc_103
      have hc_133 : σ_130 23 = o5 G (23) (nI (lo)) := (hf_125 23 (by decide)).trans hc_104
      have hc_134 : σ_130 24 = q_an G 256 o := (hf_125 24 (by decide)).trans hc_105
      have hc_135 : σ_130 224 = q_rn G 2 2 (fun j => some (243 + 18 * j)) := (hf_125 224 (by decide)).trans hc_106
      have hc_136 : σ_130 225 = q_bn G 2 kp := (hf_125 225 (by decide)).trans hc_107
      have hc_137 : σ_130 280 = q_an G 265 g := (hf_125 280 (by decide)).trans hc_109
      have hc_138 : σ_130 281 = q_an G 265 wk := (hf_125 281 (by decide)).trans hc_110
      have hc_139 : σ_130 282 = q_an G 265 as := (hf_125 282 (by decide)).trans hc_111
      have hc_140 : σ_130 283 = q_an G 530 sh := (hf_125 283 (by decide)).trans hc_112
      have hc_141 : σ_130 284 = q_an G 2120 a := (hf_125 284 (by decide)).trans hc_113
      have hc_142 : σ_130 285 = q_bn G 1681 fb := (hf_125 285 (by decide)).trans hc_114
      have hc_143 : σ_130 286 = q_an G 1681 nv := (hf_125 286 (by decide)).trans hc_115
      have hc_144 : σ_130 287 = q_an G 1681 ns := (hf_125 287 (by decide)).trans hc_116
      have hc_145 : σ_130 288 = q_an G 2000 mk := (hf_125 288 (by decide)).trans hc_117
      have hc_146 : σ_130 289 = q_an G 6724 va := (hf_125 289 (by decide)).trans hc_118
      have hc_147 : σ_130 290 = q_an G 6724 sp := (hf_125 290 (by decide)).trans hc_119
      have hc_148 : σ_130 291 = q_an G 80 lp := (hf_125 291 (by decide)).trans hc_120
      have hc_149 : σ_130 292 = q_an G 600 f := (hf_125 292 (by decide)).trans hc_121
      have hc_150 : σ_130 293 = q_an G 300 ou := (hf_125 293 (by decide)).trans hc_122
      have hc_151 : σ_130 295 = q_dn G 1 oD := (hf_125 295 (by decide)).trans hc_123
      have hc_152 : σ_130 294 = q_ln G 1 (va_up oL 0 ((q_d (0)).toInt64)) := (hf_125 294 (by decide)).trans hc_4
      exact (Mhno r1C (by omega) Chre).elim
    · skip
      refine (?_ : AJ G K Q (kc + 1) (ks + 6) false 296 676 [some (.ref bS), some (.ref (q_h G + 0)), some (.ref (q_h G + 279)), some (.ref (q_h G + 294)), some (.ref (q_h G + 295)), some (.int (nI (i))), some (.int (nI (0))), none, none] [.int (nI (s_rule g r1M (10 + i1M)))] σ_130)
      have hc_126 : σ_130 279 = o11 G (upd F 7 (nI (0))) := hc_126
      have hc_153 : σ_130 0 = o10 G (nI (il)) (z2) (z3) := (hf_127 0 (by decide)).trans hc_102
      have hc_154 : σ_130 1 = q_an G 600 f := (hf_127 1 (by decide)).trans hc_103
      have hc_155 : σ_130 23 = o5 G (23) (nI (lo)) := (hf_127 23 (by decide)).trans hc_104
      have hc_156 : σ_130 24 = q_an G 256 o := (hf_127 24 (by decide)).trans hc_105
      have hc_157 : σ_130 224 = q_rn G 2 2 (fun j => some (243 + 18 * j)) := (hf_127 224 (by decide)).trans hc_106
      have hc_158 : σ_130 225 = q_bn G 2 kp := (hf_127 225 (by decide)).trans hc_107
      have hc_159 : σ_130 280 = q_an G 265 g := (hf_127 280 (by decide)).trans hc_109
      have hc_160 : σ_130 281 = q_an G 265 wk := (hf_127 281 (by decide)).trans hc_110
      have hc_161 : σ_130 282 = q_an G 265 as := (hf_127 282 (by decide)).trans hc_111
      have hc_162 : σ_130 283 = q_an G 530 sh := (hf_127 283 (by decide)).trans hc_112
      have hc_163 : σ_130 284 = q_an G 2120 a := (hf_127 284 (by decide)).trans hc_113
      have hc_164 : σ_130 285 = q_bn G 1681 fb := (hf_127 285 (by decide)).trans hc_114
      have hc_165 : σ_130 286 = q_an G 1681 nv := (hf_127 286 (by decide)).trans hc_115
      have hc_166 : σ_130 287 = q_an G 1681 ns := (hf_127 287 (by decide)).trans hc_116
      have hc_167 : σ_130 288 = q_an G 2000 mk := (hf_127 288 (by decide)).trans hc_117
      have hc_168 : σ_130 289 = q_an G 6724 va := (hf_127 289 (by decide)).trans hc_118
      have hc_169 : σ_130 290 = q_an G 6724 sp := (hf_127 290 (by decide)).trans hc_119
      have hc_170 : σ_130 291 = q_an G 80 lp := (hf_127 291 (by decide)).trans hc_120
      have hc_171 : σ_130 292 = q_an G 600 f := (hf_127 292 (by decide)).trans hc_121
      have hc_172 : σ_130 293 = q_an G 300 ou := (hf_127 293 (by decide)).trans hc_122
      have hc_173 : σ_130 295 = q_dn G 1 oD := (hf_127 295 (by decide)).trans hc_123
      have hc_174 : σ_130 294 = q_ln G 1 (va_up oL 0 ((q_d (0)).toInt64)) := (hf_127 294 (by decide)).trans hc_4
      have hub_i1M := (hg9.2.2.2.2.2.1 r1M Mhrl).2.1
      have e_r : r1C = r1M := q_nI_inj (by omega) (by omega) (Chre.symm.trans Mhre)
      subst e_r
      exact (Chni i1M (by omega) Mhie).elim
    · skip
      refine (?_ : AJ G K Q (kc + 1) (ks + 6) false 296 676 [some (.ref bS), some (.ref (q_h G + 0)), some (.ref (q_h G + 279)), some (.ref (q_h G + 294)), some (.ref (q_h G + 295)), some (.int (nI (i))), some (.int (nI (0))), none, none] [.int (q_d (0))] σ_130)
      have hc_128 : σ_130 279 = o11 G (upd F 7 (nI (0))) := hc_128
      have hc_175 : σ_130 0 = o10 G (nI (il)) (z2) (z3) := (hf_129 0 (by decide)).trans hc_102
      have hc_176 : σ_130 1 = q_an G 600 f := (hf_129 1 (by decide)).trans hc_103
      have hc_177 : σ_130 23 = o5 G (23) (nI (lo)) := (hf_129 23 (by decide)).trans hc_104
      have hc_178 : σ_130 24 = q_an G 256 o := (hf_129 24 (by decide)).trans hc_105
      have hc_179 : σ_130 224 = q_rn G 2 2 (fun j => some (243 + 18 * j)) := (hf_129 224 (by decide)).trans hc_106
      have hc_180 : σ_130 225 = q_bn G 2 kp := (hf_129 225 (by decide)).trans hc_107
      have hc_181 : σ_130 280 = q_an G 265 g := (hf_129 280 (by decide)).trans hc_109
      have hc_182 : σ_130 281 = q_an G 265 wk := (hf_129 281 (by decide)).trans hc_110
      have hc_183 : σ_130 282 = q_an G 265 as := (hf_129 282 (by decide)).trans hc_111
      have hc_184 : σ_130 283 = q_an G 530 sh := (hf_129 283 (by decide)).trans hc_112
      have hc_185 : σ_130 284 = q_an G 2120 a := (hf_129 284 (by decide)).trans hc_113
      have hc_186 : σ_130 285 = q_bn G 1681 fb := (hf_129 285 (by decide)).trans hc_114
      have hc_187 : σ_130 286 = q_an G 1681 nv := (hf_129 286 (by decide)).trans hc_115
      have hc_188 : σ_130 287 = q_an G 1681 ns := (hf_129 287 (by decide)).trans hc_116
      have hc_189 : σ_130 288 = q_an G 2000 mk := (hf_129 288 (by decide)).trans hc_117
      have hc_190 : σ_130 289 = q_an G 6724 va := (hf_129 289 (by decide)).trans hc_118
      have hc_191 : σ_130 290 = q_an G 6724 sp := (hf_129 290 (by decide)).trans hc_119
      have hc_192 : σ_130 291 = q_an G 80 lp := (hf_129 291 (by decide)).trans hc_120
      have hc_193 : σ_130 292 = q_an G 600 f := (hf_129 292 (by decide)).trans hc_121
      have hc_194 : σ_130 293 = q_an G 300 ou := (hf_129 293 (by decide)).trans hc_122
      have hc_195 : σ_130 295 = q_dn G 1 oD := (hf_129 295 (by decide)).trans hc_123
      have hc_196 : σ_130 294 = q_ln G 1 (va_up oL 0 ((q_d (0)).toInt64)) := (hf_129 294 (by decide)).trans hc_4
      have e_r : r1C = r1M := q_nI_inj (by omega) (by omega) (Chre.symm.trans Mhre)
      subst e_r
      refine A_istore hg dL_law_676 (by decide) (q_c1d rfl) ?_
      refine A_eq (ls2 := [some (.ref bS), some (.ref (q_h G + 0)), some (.ref (q_h G + 279)), some (.ref (q_h G + 294)), some (.ref (q_h G + 295)), some (.int (nI (i))), some (.int (nI (0))), some (.int (q_d (0))), none]) (st2 := []) (pc2 := 0) rfl rfl ?_
      refine A_aload_n hg dL_law_678 rfl rfl ?_
      refine A_eV (kc2 := kc + 1) (ks2 := ks + 6) (As := []) (rest := []) hg lk_RL_170 in_X11_thrown se_X11_thrown rfl dL_law_679 ⟨by decide, by decide⟩ rfl rfl (hfK 1 6 (by decide) (by decide)) hc_128 (by omega) rfl rfl (Nat.le_of_ble_eq_true rfl) (c_X11_thrown G false 296 σ_130 (upd F 7 (nI (0))) hc_128 (by omega)) ?_
      refine A_top (w := .int (nI (0))) (congrArg Value.int rfl) ?_
      refine A_iload hg dL_law_682 rfl ?_
      refine A_icmp_eqN (tgt := 689) hg dL_law_684 (by decide) (by decide) (by decide) (fun c684 => ?_) (fun c684 => False.elim (by omega))
      refine A_iload hg dL_law_689 rfl ?_
      refine A_if_neN (tgt := 706) hg dL_law_691 (by decide) (by decide) (fun c691 => absurd (by decide) c691) (fun c691 => ?_)
      refine A_aload_n hg dL_law_694 rfl rfl ?_
      refine A_iconst (v := (nI (0))) hg dL_law_695 (by decide) ?_
      refine A_lald (j := 0) hg dL_law_696 hc_196 (by omega) (by decide) (by decide) ?_
      refine A_top (w := .long ((q_d (0)).toInt64)) (congrArg Value.long iv_up0) ?_
      refine A_iload hg dL_law_697 rfl ?_
      refine A_i2l (v := (q_d (0)).toInt64) hg dL_law_699 rfl ?_
      refine A_lcmp hg dL_law_700 ?_
      refine A_top (w := .int (nI 0)) (congrArg Value.int (lc_self _)) ?_
      refine A_if_eqN (tgt := 706) hg dL_law_701 (by decide) (by decide) (fun c701 => ?_) (fun c701 => absurd (by decide) c701)
      refine A_goto (tgt := 3062) hg dL_law_706 (by decide) ?_
      refine A_drop 6 ?_
      refine A_drop 7 ?_
      refine A_eq (ls2 := [some (.ref bS), some (.ref (q_h G + 0)), some (.ref (q_h G + 279)), some (.ref (q_h G + 294)), some (.ref (q_h G + 295)), some (.int (nI (i))), none, none, none]) (st2 := []) (pc2 := 0) rfl rfl ?_
      refine A_wide (kc2 := kc + 8) (ks2 := ks + 48) (by omega) (by omega) ?_
      exact hnxt _ (iv_mk il z2 z3 f lo o g nx m ps kp sn (upd F 7 (nI (0))) wk as sh a fb nv ns mk va sp lp mc z ss ou (va_up oL 0 ((q_d (0)).toInt64)) oD hc_175 hc_176 hc_177 hc_178 hc_179 hc_180 hc_128 hc_181 hc_182 hc_183 hc_184 hc_185 hc_186 hc_187 hc_188 hc_189 hc_190 hc_191 hc_192 hc_193 hc_194 hc_196 hc_195 (x_lj_e (fun i _ _ => ((hf_129 i (by omega)).trans (hf_5 i (by omega)))) hL) (x_gm_e (fun i _ _ => ((hf_129 i (by omega)).trans (hf_5 i (by omega)))) hG) (x_mx_e (fun i _ _ => ((hf_129 i (by omega)).trans (hf_5 i (by omega)))) hM) (x_hi_e (fun i _ _ => ((hf_129 i (by omega)).trans (hf_5 i (by omega)))) hHi) (x_oj_e (fun i _ _ => ((hf_129 i (by omega)).trans (hf_5 i (by omega)))) hO) (x_pj_e (fun i _ _ => ((hf_129 i (by omega)).trans (hf_5 i (by omega)))) hT) (iv_hn (fun i _ _ => ((hf_129 i (by omega)).trans (hf_5 i (by omega)))) hH) (iv_Sn (fun i _ _ => ((hf_129 i (by omega)).trans (hf_5 i (by omega)))) hSn) (iv_Kp (fun i _ _ => ((hf_129 i (by omega)).trans (hf_5 i (by omega)))) hKp) (by omega) hfb (by omega) hou hgd hps hk1 hkss hss hsn hF5 hF6 hF12 hF16 hF21 hF22 hF23 hF33 (by omega) hmk hTI hlo)
  · skip
    rw [he_6]
    refine (?_ : AJ G K Q (kc + 1) (ks + 6) false 296 658 [some (.ref bS), some (.ref (q_h G + 0)), some (.ref (q_h G + 279)), some (.ref (q_h G + 294)), some (.ref (q_h G + 295)), some (.int (nI (i))), none, none, none] [.int (nI (1))] σ)
    refine A_istore hg dL_law_658 (by decide) (q_c1d rfl) ?_
    refine A_eq (ls2 := [some (.ref bS), some (.ref (q_h G + 0)), some (.ref (q_h G + 279)), some (.ref (q_h G + 294)), some (.ref (q_h G + 295)), some (.int (nI (i))), some (.int (nI (1))), none, none]) (st2 := []) (pc2 := 0) rfl rfl ?_
    refine A_aload_n hg dL_law_660 rfl rfl ?_
    refine A_aload_n hg dL_law_661 rfl rfl ?_
    refine A_iload hg dL_law_662 rfl ?_
    refine A_iconst (v := (nI (1))) hg dL_law_664 (by decide) ?_
    refine A_iaddN hg dL_law_665 ?_
    refine A_sld hg hX (i + 1) (by omega) dL_law_666 ?_
    refine A_aload_n hg dL_law_667 rfl rfl ?_
    refine A_iload hg dL_law_668 rfl ?_
    refine A_iconst (v := (nI (2))) hg dL_law_670 (by decide) ?_
    refine A_iaddN hg dL_law_671 ?_
    refine A_sld hg hX (i + 2) (by omega) dL_law_672 ?_
    refine A_hV (kc2 := kc + 1) (ks2 := ks + 6) (As := [.int (xs (i + 1)), .int (xs (i + 2))]) (rest := []) hg lk_RL_185 in_X11_only se_X11_only rfl dL_law_673 ⟨by decide, by decide⟩ rfl rfl (hfK 1 6 (by decide) (by decide)) hv6 (by omega) rfl rfl (Nat.le_of_ble_eq_true rfl) (c_X11_only G false 296 σ F g (xs (i + 1)) (xs (i + 2)) hv6 hv7 (by omega) hg9) ?_
    rintro _ σ_203 (⟨rfl, Mhno, hc_197, hf_198⟩ | ⟨r1M, i1M, rfl, Mhre, Mhrl, Mhie, Mhil, hc_199, hf_200⟩ | ⟨r1M, rfl, Mhre, Mhrl, Mhni, hc_201, hf_202⟩)
    · skip
      refine (?_ : AJ G K Q (kc + 1) (ks + 6) false 296 676 [some (.ref bS), some (.ref (q_h G + 0)), some (.ref (q_h G + 279)), some (.ref (q_h G + 294)), some (.ref (q_h G + 295)), some (.int (nI (i))), some (.int (nI (1))), none, none] [.int (nI (0))] σ_203)
      have hc_197 : σ_203 279 = o11 G (upd F 7 (nI (1))) := hc_197
      have hc_204 : σ_203 0 = o10 G (nI (il)) (z2) (z3) := (hf_198 0 (by decide)).trans hv0
      have hc_205 : σ_203 1 = q_an G 600 f := (hf_198 1 (by decide)).trans hv1
      have hc_206 : σ_203 23 = o5 G (23) (nI (lo)) := (hf_198 23 (by decide)).trans hv2
      have hc_207 : σ_203 24 = q_an G 256 o := (hf_198 24 (by decide)).trans hv3
      have hc_208 : σ_203 224 = q_rn G 2 2 (fun j => some (243 + 18 * j)) := (hf_198 224 (by decide)).trans hv4
      have hc_209 : σ_203 225 = q_bn G 2 kp := (hf_198 225 (by decide)).trans hv5
      have hc_210 : σ_203 280 = q_an G 265 g := (hf_198 280 (by decide)).trans hv7
      have hc_211 : σ_203 281 = q_an G 265 wk := (hf_198 281 (by decide)).trans hv8
      have hc_212 : σ_203 282 = q_an G 265 as := (hf_198 282 (by decide)).trans hv9
      have hc_213 : σ_203 283 = q_an G 530 sh := (hf_198 283 (by decide)).trans hv10
      have hc_214 : σ_203 284 = q_an G 2120 a := (hf_198 284 (by decide)).trans hv11
      have hc_215 : σ_203 285 = q_bn G 1681 fb := (hf_198 285 (by decide)).trans hv12
      have hc_216 : σ_203 286 = q_an G 1681 nv := (hf_198 286 (by decide)).trans hv13
      have hc_217 : σ_203 287 = q_an G 1681 ns := (hf_198 287 (by decide)).trans hv14
      have hc_218 : σ_203 288 = q_an G 2000 mk := (hf_198 288 (by decide)).trans hv15
      have hc_219 : σ_203 289 = q_an G 6724 va := (hf_198 289 (by decide)).trans hv16
      have hc_220 : σ_203 290 = q_an G 6724 sp := (hf_198 290 (by decide)).trans hv17
      have hc_221 : σ_203 291 = q_an G 80 lp := (hf_198 291 (by decide)).trans hv18
      have hc_222 : σ_203 292 = q_an G 600 f := (hf_198 292 (by decide)).trans hv19
      have hc_223 : σ_203 293 = q_an G 300 ou := (hf_198 293 (by decide)).trans hv20
      have hc_224 : σ_203 294 = q_ln G 1 oL := (hf_198 294 (by decide)).trans hv21
      have hc_225 : σ_203 295 = q_dn G 1 oD := (hf_198 295 (by decide)).trans hv22
      refine A_istore hg dL_law_676 (by decide) (q_c1d rfl) ?_
      refine A_eq (ls2 := [some (.ref bS), some (.ref (q_h G + 0)), some (.ref (q_h G + 279)), some (.ref (q_h G + 294)), some (.ref (q_h G + 295)), some (.int (nI (i))), some (.int (nI (1))), some (.int (nI (0))), none]) (st2 := []) (pc2 := 0) rfl rfl ?_
      refine A_aload_n hg dL_law_678 rfl rfl ?_
      refine A_eV (kc2 := kc + 1) (ks2 := ks + 6) (As := []) (rest := []) hg lk_RL_170 in_X11_thrown se_X11_thrown rfl dL_law_679 ⟨by decide, by decide⟩ rfl rfl (hfK 1 6 (by decide) (by decide)) hc_197 (by omega) rfl rfl (Nat.le_of_ble_eq_true rfl) (c_X11_thrown G false 296 σ_203 (upd F 7 (nI (1))) hc_197 (by omega)) ?_
      refine A_top (w := .int (nI (1))) (congrArg Value.int rfl) ?_
      refine A_iload hg dL_law_682 rfl ?_
      refine A_icmp_eqN (tgt := 689) hg dL_law_684 (by decide) (by decide) (by decide) (fun c684 => ?_) (fun c684 => False.elim (by omega))
      refine A_iload hg dL_law_689 rfl ?_
      refine A_if_neN (tgt := 706) hg dL_law_691 (by decide) (by decide) (fun c691 => ?_) (fun c691 => absurd c691 (by decide))
      refine A_goto (tgt := 3062) hg dL_law_706 (by decide) ?_
      refine A_drop 6 ?_
      refine A_drop 7 ?_
      refine A_eq (ls2 := [some (.ref bS), some (.ref (q_h G + 0)), some (.ref (q_h G + 279)), some (.ref (q_h G + 294)), some (.ref (q_h G + 295)), some (.int (nI (i))), none, none, none]) (st2 := []) (pc2 := 0) rfl rfl ?_
      refine A_wide (kc2 := kc + 8) (ks2 := ks + 48) (by omega) (by omega) ?_
      exact hnxt _ (iv_mk il z2 z3 f lo o g nx m ps kp sn (upd F 7 (nI (1))) wk as sh a fb nv ns mk va sp lp mc z ss ou oL oD hc_204 hc_205 hc_206 hc_207 hc_208 hc_209 hc_197 hc_210 hc_211 hc_212 hc_213 hc_214 hc_215 hc_216 hc_217 hc_218 hc_219 hc_220 hc_221 hc_222 hc_223 hc_224 hc_225 (x_lj_e (fun i _ _ => (hf_198 i (by omega))) hL) (x_gm_e (fun i _ _ => (hf_198 i (by omega))) hG) (x_mx_e (fun i _ _ => (hf_198 i (by omega))) hM) (x_hi_e (fun i _ _ => (hf_198 i (by omega))) hHi) (x_oj_e (fun i _ _ => (hf_198 i (by omega))) hO) (x_pj_e (fun i _ _ => (hf_198 i (by omega))) hT) (iv_hn (fun i _ _ => (hf_198 i (by omega))) hH) (iv_Sn (fun i _ _ => (hf_198 i (by omega))) hSn) (iv_Kp (fun i _ _ => (hf_198 i (by omega))) hKp) (by omega) hfb (by omega) hou hgd hps hk1 hkss hss hsn hF5 hF6 hF12 hF16 hF21 hF22 hF23 hF33 (by omega) hmk hTI hlo)
    · skip
      refine (?_ : AJ G K Q (kc + 1) (ks + 6) false 296 676 [some (.ref bS), some (.ref (q_h G + 0)), some (.ref (q_h G + 279)), some (.ref (q_h G + 294)), some (.ref (q_h G + 295)), some (.int (nI (i))), some (.int (nI (1))), none, none] [.int (nI (s_rule g r1M (10 + i1M)))] σ_203)
      have hc_199 : σ_203 279 = o11 G (upd F 7 (nI (0))) := hc_199
      have hc_226 : σ_203 0 = o10 G (nI (il)) (z2) (z3) := (hf_200 0 (by decide)).trans hv0
      have hc_227 : σ_203 1 = q_an G 600 f := (hf_200 1 (by decide)).trans hv1
      have hc_228 : σ_203 23 = o5 G (23) (nI (lo)) := (hf_200 23 (by decide)).trans hv2
      have hc_229 : σ_203 24 = q_an G 256 o := (hf_200 24 (by decide)).trans hv3
      have hc_230 : σ_203 224 = q_rn G 2 2 (fun j => some (243 + 18 * j)) := (hf_200 224 (by decide)).trans hv4
      have hc_231 : σ_203 225 = q_bn G 2 kp := (hf_200 225 (by decide)).trans hv5
      have hc_232 : σ_203 280 = q_an G 265 g := (hf_200 280 (by decide)).trans hv7
      have hc_233 : σ_203 281 = q_an G 265 wk := (hf_200 281 (by decide)).trans hv8
      have hc_234 : σ_203 282 = q_an G 265 as := (hf_200 282 (by decide)).trans hv9
      have hc_235 : σ_203 283 = q_an G 530 sh := (hf_200 283 (by decide)).trans hv10
      have hc_236 : σ_203 284 = q_an G 2120 a := (hf_200 284 (by decide)).trans hv11
      have hc_237 : σ_203 285 = q_bn G 1681 fb := (hf_200 285 (by decide)).trans hv12
      have hc_238 : σ_203 286 = q_an G 1681 nv := (hf_200 286 (by decide)).trans hv13
      have hc_239 : σ_203 287 = q_an G 1681 ns := (hf_200 287 (by decide)).trans hv14
      have hc_240 : σ_203 288 = q_an G 2000 mk := (hf_200 288 (by decide)).trans hv15
      have hc_241 : σ_203 289 = q_an G 6724 va := (hf_200 289 (by decide)).trans hv16
      have hc_242 : σ_203 290 = q_an G 6724 sp := (hf_200 290 (by decide)).trans hv17
      have hc_243 : σ_203 291 = q_an G 80 lp := (hf_200 291 (by decide)).trans hv18
      have hc_244 : σ_203 292 = q_an G 600 f := (hf_200 292 (by decide)).trans hv19
      have hc_245 : σ_203 293 = q_an G 300 ou := (hf_200 293 (by decide)).trans hv20
      have hc_246 : σ_203 294 = q_ln G 1 oL := (hf_200 294 (by decide)).trans hv21
      have hc_247 : σ_203 295 = q_dn G 1 oD := (hf_200 295 (by decide)).trans hv22
      have hub_i1M := (hg9.2.2.2.2.2.1 r1M Mhrl).2.1
      exact (Chxx r1M (by omega) Mhre).elim
    · skip
      refine (?_ : AJ G K Q (kc + 1) (ks + 6) false 296 676 [some (.ref bS), some (.ref (q_h G + 0)), some (.ref (q_h G + 279)), some (.ref (q_h G + 294)), some (.ref (q_h G + 295)), some (.int (nI (i))), some (.int (nI (1))), none, none] [.int (q_d (0))] σ_203)
      have hc_201 : σ_203 279 = o11 G (upd F 7 (nI (0))) := hc_201
      have hc_248 : σ_203 0 = o10 G (nI (il)) (z2) (z3) := (hf_202 0 (by decide)).trans hv0
      have hc_249 : σ_203 1 = q_an G 600 f := (hf_202 1 (by decide)).trans hv1
      have hc_250 : σ_203 23 = o5 G (23) (nI (lo)) := (hf_202 23 (by decide)).trans hv2
      have hc_251 : σ_203 24 = q_an G 256 o := (hf_202 24 (by decide)).trans hv3
      have hc_252 : σ_203 224 = q_rn G 2 2 (fun j => some (243 + 18 * j)) := (hf_202 224 (by decide)).trans hv4
      have hc_253 : σ_203 225 = q_bn G 2 kp := (hf_202 225 (by decide)).trans hv5
      have hc_254 : σ_203 280 = q_an G 265 g := (hf_202 280 (by decide)).trans hv7
      have hc_255 : σ_203 281 = q_an G 265 wk := (hf_202 281 (by decide)).trans hv8
      have hc_256 : σ_203 282 = q_an G 265 as := (hf_202 282 (by decide)).trans hv9
      have hc_257 : σ_203 283 = q_an G 530 sh := (hf_202 283 (by decide)).trans hv10
      have hc_258 : σ_203 284 = q_an G 2120 a := (hf_202 284 (by decide)).trans hv11
      have hc_259 : σ_203 285 = q_bn G 1681 fb := (hf_202 285 (by decide)).trans hv12
      have hc_260 : σ_203 286 = q_an G 1681 nv := (hf_202 286 (by decide)).trans hv13
      have hc_261 : σ_203 287 = q_an G 1681 ns := (hf_202 287 (by decide)).trans hv14
      have hc_262 : σ_203 288 = q_an G 2000 mk := (hf_202 288 (by decide)).trans hv15
      have hc_263 : σ_203 289 = q_an G 6724 va := (hf_202 289 (by decide)).trans hv16
      have hc_264 : σ_203 290 = q_an G 6724 sp := (hf_202 290 (by decide)).trans hv17
      have hc_265 : σ_203 291 = q_an G 80 lp := (hf_202 291 (by decide)).trans hv18
      have hc_266 : σ_203 292 = q_an G 600 f := (hf_202 292 (by decide)).trans hv19
      have hc_267 : σ_203 293 = q_an G 300 ou := (hf_202 293 (by decide)).trans hv20
      have hc_268 : σ_203 294 = q_ln G 1 oL := (hf_202 294 (by decide)).trans hv21
      have hc_269 : σ_203 295 = q_dn G 1 oD := (hf_202 295 (by decide)).trans hv22
      exact (Chxx r1M (by omega) Mhre).elim
set_option maxRecDepth 100000 in
set_option maxHeartbeats 4000000 in
theorem law_c10 (G : GL) (K : KC) (Q : State → Prop) (hh : List (Nat × Nat × Nat × Nat)) (hg : Gd G K RL code 9 ret room_1 hh) (bS L : Nat) (xs : Nat → Int32) (hX : q_scr G K bS L xs) (i kc ks J : Nat) (hi : i + 5 < L) (hL31 : L < 2 ^ 31) (hkc : kc + 8 ≤ 601024) (hks : ks + 48 ≤ 7293034) (σ : Nat → va_E) (hI : iv G σ J) (hJ : J < 512) (hfd : q_fdn) (hdd : q_ddn) (hf2 : q_f2n) (hds : q_dcs) (hnxt : ∀ σ9 : Nat → va_E, iv G σ9 (J + 1) → AJ G K Q (kc + 8) (ks + 48) false 296 3062 [some (.ref bS), some (.ref (q_h G + 0)), some (.ref (q_h G + 279)), some (.ref (q_h G + 294)), some (.ref (q_h G + 295)), some (.int (nI (i))), none, none, none] [] σ9) : AJ G K Q kc ks false 296 709 [some (.ref bS), some (.ref (q_h G + 0)), some (.ref (q_h G + 279)), some (.ref (q_h G + 294)), some (.ref (q_h G + 295)), some (.int (nI (i))), none, none, none] [] σ := by
  refine iv_el hI ?_
  intro il z2 z3 f lo o g nx m ps kp sn F wk as sh a fb nv ns mk va sp lp mc z ss ou oL oD
  intro hv0 hv1 hv2 hv3 hv4 hv5 hv6 hv7 hv8 hv9 hv10 hv11 hv12 hv13 hv14 hv15 hv16 hv17 hv18 hv19 hv20 hv21 hv22
  intro hL hG hM hHi hO hT hH hSn hKp
  intro hil hfb hlo2 hou hgd hps hk1 hkss hss hsn hF5 hF6 hF12 hF16 hF21 hF22 hF23 hF33 hmc hmk hTI hlo
  have hfK : ∀ a b : Nat, a ≤ 8 → b ≤ 48 → kc + a ≤ room_1.cells ∧ ks + b ≤ room_1.slots := fun a b h1 h2 => ⟨by show kc + a ≤ 601024; omega, by show ks + b ≤ 7293034; omega⟩
  have hg9 := iv_g hG
  obtain ⟨hnx8, hm8, hc78⟩ := iv_hi hHi
  have hbb := iv_byte (m := il) hfb
  have hg90 := hg9.1
  have hg96 := hg9.2.2.2.2.1
  have hnp8 := s_np_le hg9
  refine A_aload_n hg dL_law_709 rfl rfl ?_
  refine A_aload_n hg dL_law_710 rfl rfl ?_
  refine A_iload hg dL_law_711 rfl ?_
  refine A_iconst (v := (nI (1))) hg dL_law_713 (by decide) ?_
  refine A_iaddN hg dL_law_714 ?_
  refine A_sld hg hX (i + 1) (by omega) dL_law_715 ?_
  refine A_aload_n hg dL_law_716 rfl rfl ?_
  refine A_iload hg dL_law_717 rfl ?_
  refine A_iconst (v := (nI (2))) hg dL_law_719 (by decide) ?_
  refine A_iaddN hg dL_law_720 ?_
  refine A_sld hg hX (i + 2) (by omega) dL_law_721 ?_
  refine A_aload_n hg dL_law_722 rfl rfl ?_
  refine A_iload hg dL_law_723 rfl ?_
  refine A_iconst (v := (nI (3))) hg dL_law_725 (by decide) ?_
  refine A_iaddN hg dL_law_726 ?_
  refine A_sld hg hX (i + 3) (by omega) dL_law_727 ?_
  refine A_if_eq (tgt := 735) hg dL_law_728 (by decide) (fun c728 => ?_) (fun c728 => ?_)
  · skip
    refine A_iconst (v := (nI (0))) hg dL_law_735 (by decide) ?_
    refine A_aload_n hg dL_law_736 rfl rfl ?_
    refine A_callSH (As := [.ref (q_h G + 0), .int (xs (i + 1)), .int (xs (i + 2)), .int (nI (0)), .ref (q_h G + 294)]) (rest := []) hg lkH_186 stH_L_barred dL_law_737 ⟨by decide, by decide⟩ (hfK 1 6 (by decide) (by decide)) rfl rfl (Nat.le_of_ble_eq_true rfl) (c_L_barred G 296 σ (nI (il)) z2 z3 g (xs (i + 1)) (xs (i + 2)) false oL hv0 hv21 (by omega) hG (by omega)) ?_
    rintro _ σ_1 (⟨r1C, i1C, rfl, Chre, Chrl, Chie, Chil, hc_2, hf_3⟩ | ⟨r1C, rfl, Chre, Chrl, Chni, hc_4, hf_5⟩ | ⟨rfl, Chxx, he_6⟩)
    · skip
      refine (?_ : AJ G K Q (kc + 1) (ks + 6) false 296 740 [some (.ref bS), some (.ref (q_h G + 0)), some (.ref (q_h G + 279)), some (.ref (q_h G + 294)), some (.ref (q_h G + 295)), some (.int (nI (i))), none, none, none] [.int (nI (0))] σ_1)
      have hc_7 : σ_1 0 = o10 G (nI (il)) (z2) (z3) := (hf_3 0 (by decide)).trans hv0
      have hc_8 : σ_1 1 = q_an G 600 f := (hf_3 1 (by decide)).trans hv1
      have hc_9 : σ_1 23 = o5 G (23) (nI (lo)) := (hf_3 23 (by decide)).trans hv2
      have hc_10 : σ_1 24 = q_an G 256 o := (hf_3 24 (by decide)).trans hv3
      have hc_11 : σ_1 224 = q_rn G 2 2 (fun j => some (243 + 18 * j)) := (hf_3 224 (by decide)).trans hv4
      have hc_12 : σ_1 225 = q_bn G 2 kp := (hf_3 225 (by decide)).trans hv5
      have hc_13 : σ_1 279 = o11 G F := (hf_3 279 (by decide)).trans hv6
      have hc_14 : σ_1 280 = q_an G 265 g := (hf_3 280 (by decide)).trans hv7
      have hc_15 : σ_1 281 = q_an G 265 wk := (hf_3 281 (by decide)).trans hv8
      have hc_16 : σ_1 282 = q_an G 265 as := (hf_3 282 (by decide)).trans hv9
      have hc_17 : σ_1 283 = q_an G 530 sh := (hf_3 283 (by decide)).trans hv10
      have hc_18 : σ_1 284 = q_an G 2120 a := (hf_3 284 (by decide)).trans hv11
      have hc_19 : σ_1 285 = q_bn G 1681 fb := (hf_3 285 (by decide)).trans hv12
      have hc_20 : σ_1 286 = q_an G 1681 nv := (hf_3 286 (by decide)).trans hv13
      have hc_21 : σ_1 287 = q_an G 1681 ns := (hf_3 287 (by decide)).trans hv14
      have hc_22 : σ_1 288 = q_an G 2000 mk := (hf_3 288 (by decide)).trans hv15
      have hc_23 : σ_1 289 = q_an G 6724 va := (hf_3 289 (by decide)).trans hv16
      have hc_24 : σ_1 290 = q_an G 6724 sp := (hf_3 290 (by decide)).trans hv17
      have hc_25 : σ_1 291 = q_an G 80 lp := (hf_3 291 (by decide)).trans hv18
      have hc_26 : σ_1 292 = q_an G 600 f := (hf_3 292 (by decide)).trans hv19
      have hc_27 : σ_1 293 = q_an G 300 ou := (hf_3 293 (by decide)).trans hv20
      have hc_28 : σ_1 295 = q_dn G 1 oD := (hf_3 295 (by decide)).trans hv22
      refine A_istore hg dL_law_740 (by decide) (q_c1d rfl) ?_
      refine A_eq (ls2 := [some (.ref bS), some (.ref (q_h G + 0)), some (.ref (q_h G + 279)), some (.ref (q_h G + 294)), some (.ref (q_h G + 295)), some (.int (nI (i))), some (.int (nI (0))), none, none]) (st2 := []) (pc2 := 0) rfl rfl ?_
      refine A_aload_n hg dL_law_742 rfl rfl ?_
      refine A_aload_n hg dL_law_743 rfl rfl ?_
      refine A_iload hg dL_law_744 rfl ?_
      refine A_iconst (v := (nI (1))) hg dL_law_746 (by decide) ?_
      refine A_iaddN hg dL_law_747 ?_
      refine A_sld hg hX (i + 1) (by omega) dL_law_748 ?_
      refine A_aload_n hg dL_law_749 rfl rfl ?_
      refine A_iload hg dL_law_750 rfl ?_
      refine A_iconst (v := (nI (2))) hg dL_law_752 (by decide) ?_
      refine A_iaddN hg dL_law_753 ?_
      refine A_sld hg hX (i + 2) (by omega) dL_law_754 ?_
      refine A_aload_n hg dL_law_755 rfl rfl ?_
      refine A_iload hg dL_law_756 rfl ?_
      refine A_iconst (v := (nI (3))) hg dL_law_758 (by decide) ?_
      refine A_iaddN hg dL_law_759 ?_
      refine A_sld hg hX (i + 3) (by omega) dL_law_760 ?_
      refine A_if_eq (tgt := 768) hg dL_law_761 (by decide) (fun _ => ?_) (fun z9 => absurd c728 z9)
      refine A_iconst (v := (nI (0))) hg dL_law_768 (by decide) ?_
      refine A_hV (kc2 := kc + 1) (ks2 := ks + 6) (As := [.int (xs (i + 1)), .int (xs (i + 2)), .int (nI (0))]) (rest := []) hg lk_RL_189 in_X11_barred se_X11_barred rfl dL_law_769 ⟨by decide, by decide⟩ rfl rfl (hfK 1 6 (by decide) (by decide)) hc_13 (by omega) rfl rfl (Nat.le_of_ble_eq_true rfl) (c_X11_barred G false 296 σ_1 F g (xs (i + 1)) (xs (i + 2)) false hc_13 hc_14 (by omega) hg9) ?_
      rintro _ σ_35 (⟨rfl, Mhno, hc_29, hf_30⟩ | ⟨r1M, i1M, rfl, Mhre, Mhrl, Mhie, Mhil, hc_31, hf_32⟩ | ⟨r1M, rfl, Mhre, Mhrl, Mhni, hc_33, hf_34⟩)
      · skip
        refine (?_ : AJ G K Q (kc + 1) (ks + 6) false 296 772 [some (.ref bS), some (.ref (q_h G + 0)), some (.ref (q_h G + 279)), some (.ref (q_h G + 294)), some (.ref (q_h G + 295)), some (.int (nI (i))), some (.int (nI (0))), none, none] [.int (nI (0))] σ_35)
        have hc_29 : σ_35 279 = o11 G (upd F 7 (nI (1))) := hc_29
        have hc_36 : σ_35 0 = o10 G (nI (il)) (z2) (z3) := (hf_30 0 (by decide)).trans hc_7
        have hc_37 : σ_35 1 = q_an G 600 f := (hf_30 1 (by decide)).trans hc_8
        have hc_38 : σ_35 23 = o5 G (23) (nI (lo)) := (hf_30 23 (by decide)).trans hc_9
        have hc_39 : σ_35 24 = q_an G 256 o := (hf_30 24 (by decide)).trans hc_10
        have hc_40 : σ_35 224 = q_rn G 2 2 (fun j => some (243 + 18 * j)) := (hf_30 224 (by decide)).trans hc_11
        have hc_41 : σ_35 225 = q_bn G 2 kp := (hf_30 225 (by decide)).trans hc_12
        have hc_42 : σ_35 280 = q_an G 265 g := (hf_30 280 (by decide)).trans hc_14
        have hc_43 : σ_35 281 = q_an G 265 wk := (hf_30 281 (by decide)).trans hc_15
        have hc_44 : σ_35 282 = q_an G 265 as := (hf_30 282 (by decide)).trans hc_16
        have hc_45 : σ_35 283 = q_an G 530 sh := (hf_30 283 (by decide)).trans hc_17
        have hc_46 : σ_35 284 = q_an G 2120 a := (hf_30 284 (by decide)).trans hc_18
        have hc_47 : σ_35 285 = q_bn G 1681 fb := (hf_30 285 (by decide)).trans hc_19
        have hc_48 : σ_35 286 = q_an G 1681 nv := (hf_30 286 (by decide)).trans hc_20
        have hc_49 : σ_35 287 = q_an G 1681 ns := (hf_30 287 (by decide)).trans hc_21
        have hc_50 : σ_35 288 = q_an G 2000 mk := (hf_30 288 (by decide)).trans hc_22
        have hc_51 : σ_35 289 = q_an G 6724 va := (hf_30 289 (by decide)).trans hc_23
        have hc_52 : σ_35 290 = q_an G 6724 sp := (hf_30 290 (by decide)).trans hc_24
        have hc_53 : σ_35 291 = q_an G 80 lp := (hf_30 291 (by decide)).trans hc_25
        have hc_54 : σ_35 292 = q_an G 600 f := (hf_30 292 (by decide)).trans hc_26
        have hc_55 : σ_35 293 = q_an G 300 ou := (hf_30 293 (by decide)).trans hc_27
        have hc_56 : σ_35 295 = q_dn G 1 oD := (hf_30 295 (by decide)).trans hc_28
        have hc_57 : σ_35 294 = q_ln G 1 (va_up oL 0 ((nI (s_rule g r1C (21 + 2 * i1C + (if false = true then 1 else 0)))).toInt64)) := (hf_30 294 (by decide)).trans hc_2
        have hub_i1C := (hg9.2.2.2.2.2.1 r1C Chrl).2.2.2.2.1
        exact (Mhno r1C (by omega) Chre).elim
      · skip
        refine (?_ : AJ G K Q (kc + 1) (ks + 6) false 296 772 [some (.ref bS), some (.ref (q_h G + 0)), some (.ref (q_h G + 279)), some (.ref (q_h G + 294)), some (.ref (q_h G + 295)), some (.int (nI (i))), some (.int (nI (0))), none, none] [.int (nI (s_rule g r1M (21 + 2 * i1M + (if false = true then 1 else 0))))] σ_35)
        have hc_31 : σ_35 279 = o11 G (upd F 7 (nI (0))) := hc_31
        have hc_58 : σ_35 0 = o10 G (nI (il)) (z2) (z3) := (hf_32 0 (by decide)).trans hc_7
        have hc_59 : σ_35 1 = q_an G 600 f := (hf_32 1 (by decide)).trans hc_8
        have hc_60 : σ_35 23 = o5 G (23) (nI (lo)) := (hf_32 23 (by decide)).trans hc_9
        have hc_61 : σ_35 24 = q_an G 256 o := (hf_32 24 (by decide)).trans hc_10
        have hc_62 : σ_35 224 = q_rn G 2 2 (fun j => some (243 + 18 * j)) := (hf_32 224 (by decide)).trans hc_11
        have hc_63 : σ_35 225 = q_bn G 2 kp := (hf_32 225 (by decide)).trans hc_12
        have hc_64 : σ_35 280 = q_an G 265 g := (hf_32 280 (by decide)).trans hc_14
        have hc_65 : σ_35 281 = q_an G 265 wk := (hf_32 281 (by decide)).trans hc_15
        have hc_66 : σ_35 282 = q_an G 265 as := (hf_32 282 (by decide)).trans hc_16
        have hc_67 : σ_35 283 = q_an G 530 sh := (hf_32 283 (by decide)).trans hc_17
        have hc_68 : σ_35 284 = q_an G 2120 a := (hf_32 284 (by decide)).trans hc_18
        have hc_69 : σ_35 285 = q_bn G 1681 fb := (hf_32 285 (by decide)).trans hc_19
        have hc_70 : σ_35 286 = q_an G 1681 nv := (hf_32 286 (by decide)).trans hc_20
        have hc_71 : σ_35 287 = q_an G 1681 ns := (hf_32 287 (by decide)).trans hc_21
        have hc_72 : σ_35 288 = q_an G 2000 mk := (hf_32 288 (by decide)).trans hc_22
        have hc_73 : σ_35 289 = q_an G 6724 va := (hf_32 289 (by decide)).trans hc_23
        have hc_74 : σ_35 290 = q_an G 6724 sp := (hf_32 290 (by decide)).trans hc_24
        have hc_75 : σ_35 291 = q_an G 80 lp := (hf_32 291 (by decide)).trans hc_25
        have hc_76 : σ_35 292 = q_an G 600 f := (hf_32 292 (by decide)).trans hc_26
        have hc_77 : σ_35 293 = q_an G 300 ou := (hf_32 293 (by decide)).trans hc_27
        have hc_78 : σ_35 295 = q_dn G 1 oD := (hf_32 295 (by decide)).trans hc_28
        have hc_79 : σ_35 294 = q_ln G 1 (va_up oL 0 ((nI (s_rule g r1C (21 + 2 * i1C + (if false = true then 1 else 0)))).toInt64)) := (hf_32 294 (by decide)).trans hc_2
        have hub_i1C := (hg9.2.2.2.2.2.1 r1C Chrl).2.2.2.2.1
        have hub_i1M := (hg9.2.2.2.2.2.1 r1M Mhrl).2.2.2.2.1
        have e_r : r1C = r1M := q_nI_inj (by omega) (by omega) (Chre.symm.trans Mhre)
        subst e_r
        have e_x : i1C = i1M := q_nI_inj (by omega) (by omega) (Chie.symm.trans Mhie)
        subst e_x
        refine A_istore hg dL_law_772 (by decide) (q_c1d rfl) ?_
        refine A_eq (ls2 := [some (.ref bS), some (.ref (q_h G + 0)), some (.ref (q_h G + 279)), some (.ref (q_h G + 294)), some (.ref (q_h G + 295)), some (.int (nI (i))), some (.int (nI (0))), some (.int (nI (s_rule g r1C (21 + 2 * i1C + (if false = true then 1 else 0))))), none]) (st2 := []) (pc2 := 0) rfl rfl ?_
        refine A_aload_n hg dL_law_774 rfl rfl ?_
        refine A_eV (kc2 := kc + 1) (ks2 := ks + 6) (As := []) (rest := []) hg lk_RL_170 in_X11_thrown se_X11_thrown rfl dL_law_775 ⟨by decide, by decide⟩ rfl rfl (hfK 1 6 (by decide) (by decide)) hc_31 (by omega) rfl rfl (Nat.le_of_ble_eq_true rfl) (c_X11_thrown G false 296 σ_35 (upd F 7 (nI (0))) hc_31 (by omega)) ?_
        refine A_top (w := .int (nI (0))) (congrArg Value.int rfl) ?_
        refine A_iload hg dL_law_778 rfl ?_
        refine A_icmp_eqN (tgt := 785) hg dL_law_780 (by decide) (by decide) (by decide) (fun c780 => ?_) (fun c780 => False.elim (by omega))
        refine A_iload hg dL_law_785 rfl ?_
        refine A_if_neN (tgt := 802) hg dL_law_787 (by decide) (by decide) (fun c787 => absurd (by decide) c787) (fun c787 => ?_)
        refine A_aload_n hg dL_law_790 rfl rfl ?_
        refine A_iconst (v := (nI (0))) hg dL_law_791 (by decide) ?_
        refine A_lald (j := 0) hg dL_law_792 hc_79 (by omega) (by decide) (by decide) ?_
        refine A_top (w := .long ((nI (s_rule g r1C (21 + 2 * i1C + (if false = true then 1 else 0)))).toInt64)) (congrArg Value.long iv_up0) ?_
        refine A_iload hg dL_law_793 rfl ?_
        refine A_i2l (v := (nI (s_rule g r1C (21 + 2 * i1C + (if false = true then 1 else 0)))).toInt64) hg dL_law_795 rfl ?_
        refine A_lcmp hg dL_law_796 ?_
        refine A_top (w := .int (nI 0)) (congrArg Value.int (lc_self _)) ?_
        refine A_if_eqN (tgt := 802) hg dL_law_797 (by decide) (by decide) (fun c797 => ?_) (fun c797 => absurd (by decide) c797)
        refine A_goto (tgt := 3062) hg dL_law_802 (by decide) ?_
        refine A_drop 6 ?_
        refine A_drop 7 ?_
        refine A_eq (ls2 := [some (.ref bS), some (.ref (q_h G + 0)), some (.ref (q_h G + 279)), some (.ref (q_h G + 294)), some (.ref (q_h G + 295)), some (.int (nI (i))), none, none, none]) (st2 := []) (pc2 := 0) rfl rfl ?_
        refine A_wide (kc2 := kc + 8) (ks2 := ks + 48) (by omega) (by omega) ?_
        exact hnxt _ (iv_mk il z2 z3 f lo o g nx m ps kp sn (upd F 7 (nI (0))) wk as sh a fb nv ns mk va sp lp mc z ss ou (va_up oL 0 ((nI (s_rule g r1C (21 + 2 * i1C + (if false = true then 1 else 0)))).toInt64)) oD hc_58 hc_59 hc_60 hc_61 hc_62 hc_63 hc_31 hc_64 hc_65 hc_66 hc_67 hc_68 hc_69 hc_70 hc_71 hc_72 hc_73 hc_74 hc_75 hc_76 hc_77 hc_79 hc_78 (x_lj_e (fun i _ _ => ((hf_32 i (by omega)).trans (hf_3 i (by omega)))) hL) (x_gm_e (fun i _ _ => ((hf_32 i (by omega)).trans (hf_3 i (by omega)))) hG) (x_mx_e (fun i _ _ => ((hf_32 i (by omega)).trans (hf_3 i (by omega)))) hM) (x_hi_e (fun i _ _ => ((hf_32 i (by omega)).trans (hf_3 i (by omega)))) hHi) (x_oj_e (fun i _ _ => ((hf_32 i (by omega)).trans (hf_3 i (by omega)))) hO) (x_pj_e (fun i _ _ => ((hf_32 i (by omega)).trans (hf_3 i (by omega)))) hT) (iv_hn (fun i _ _ => ((hf_32 i (by omega)).trans (hf_3 i (by omega)))) hH) (iv_Sn (fun i _ _ => ((hf_32 i (by omega)).trans (hf_3 i (by omega)))) hSn) (iv_Kp (fun i _ _ => ((hf_32 i (by omega)).trans (hf_3 i (by omega)))) hKp) (by omega) hfb (by omega) hou hgd hps hk1 hkss hss hsn hF5 hF6 hF12 hF16 hF21 hF22 hF23 hF33 (by omega) hmk hTI hlo)
      · skip
        refine (?_ : AJ G K Q (kc + 1) (ks + 6) false 296 772 [some (.ref bS), some (.ref (q_h G + 0)), some (.ref (q_h G + 279)), some (.ref (q_h G + 294)), some (.ref (q_h G + 295)), some (.int (nI (i))), some (.int (nI (0))), none, none] [.int (q_d (0))] σ_35)
        have hc_33 : σ_35 279 = o11 G (upd F 7 (nI (0))) := hc_33
        have hc_80 : σ_35 0 = o10 G (nI (il)) (z2) (z3) := (hf_34 0 (by decide)).trans hc_7
        have hc_81 : σ_35 1 = q_an G 600 f := (hf_34 1 (by decide)).trans hc_8
        have hc_82 : σ_35 23 = o5 G (23) (nI (lo)) := (hf_34 23 (by decide)).trans hc_9
        have hc_83 : σ_35 24 = q_an G 256 o := (hf_34 24 (by decide)).trans hc_10
        have hc_84 : σ_35 224 = q_rn G 2 2 (fun j => some (243 + 18 * j)) := (hf_34 224 (by decide)).trans hc_11
        have hc_85 : σ_35 225 = q_bn G 2 kp := (hf_34 225 (by decide)).trans hc_12
        have hc_86 : σ_35 280 = q_an G 265 g := (hf_34 280 (by decide)).trans hc_14
        have hc_87 : σ_35 281 = q_an G 265 wk := (hf_34 281 (by decide)).trans hc_15
        have hc_88 : σ_35 282 = q_an G 265 as := (hf_34 282 (by decide)).trans hc_16
        have hc_89 : σ_35 283 = q_an G 530 sh := (hf_34 283 (by decide)).trans hc_17
        have hc_90 : σ_35 284 = q_an G 2120 a := (hf_34 284 (by decide)).trans hc_18
        have hc_91 : σ_35 285 = q_bn G 1681 fb := (hf_34 285 (by decide)).trans hc_19
        have hc_92 : σ_35 286 = q_an G 1681 nv := (hf_34 286 (by decide)).trans hc_20
        have hc_93 : σ_35 287 = q_an G 1681 ns := (hf_34 287 (by decide)).trans hc_21
        have hc_94 : σ_35 288 = q_an G 2000 mk := (hf_34 288 (by decide)).trans hc_22
        have hc_95 : σ_35 289 = q_an G 6724 va := (hf_34 289 (by decide)).trans hc_23
        have hc_96 : σ_35 290 = q_an G 6724 sp := (hf_34 290 (by decide)).trans hc_24
        have hc_97 : σ_35 291 = q_an G 80 lp := (hf_34 291 (by decide)).trans hc_25
        have hc_98 : σ_35 292 = q_an G 600 f := (hf_34 292 (by decide)).trans hc_26
        have hc_99 : σ_35 293 = q_an G 300 ou := (hf_34 293 (by decide)).trans hc_27
        have hc_100 : σ_35 295 = q_dn G 1 oD := (hf_34 295 (by decide)).trans hc_28
        have hc_101 : σ_35 294 = q_ln G 1 (va_up oL 0 ((nI (s_rule g r1C (21 + 2 * i1C + (if false = true then 1 else 0)))).toInt64)) := (hf_34 294 (by decide)).trans hc_2
        have hub_i1C := (hg9.2.2.2.2.2.1 r1C Chrl).2.2.2.2.1
        have e_r : r1C = r1M := q_nI_inj (by omega) (by omega) (Chre.symm.trans Mhre)
        subst e_r
        exact (Mhni i1C (by omega) Chie).elim
    · skip
      refine (?_ : AJ G K Q (kc + 1) (ks + 6) false 296 740 [some (.ref bS), some (.ref (q_h G + 0)), some (.ref (q_h G + 279)), some (.ref (q_h G + 294)), some (.ref (q_h G + 295)), some (.int (nI (i))), none, none, none] [.int (nI (0))] σ_1)
      have hc_102 : σ_1 0 = o10 G (nI (il)) (z2) (z3) := (hf_5 0 (by decide)).trans hv0
      have hc_103 : σ_1 1 = q_an G 600 f := (hf_5 1 (by decide)).trans hv1
      have hc_104 : σ_1 23 = o5 G (23) (nI (lo)) := (hf_5 23 (by decide)).trans hv2
      have hc_105 : σ_1 24 = q_an G 256 o := (hf_5 24 (by decide)).trans hv3
      have hc_106 : σ_1 224 = q_rn G 2 2 (fun j => some (243 + 18 * j)) := (hf_5 224 (by decide)).trans hv4
      have hc_107 : σ_1 225 = q_bn G 2 kp := (hf_5 225 (by decide)).trans hv5
      have hc_108 : σ_1 279 = o11 G F := (hf_5 279 (by decide)).trans hv6
      have hc_109 : σ_1 280 = q_an G 265 g := (hf_5 280 (by decide)).trans hv7
      have hc_110 : σ_1 281 = q_an G 265 wk := (hf_5 281 (by decide)).trans hv8
      have hc_111 : σ_1 282 = q_an G 265 as := (hf_5 282 (by decide)).trans hv9
      have hc_112 : σ_1 283 = q_an G 530 sh := (hf_5 283 (by decide)).trans hv10
      have hc_113 : σ_1 284 = q_an G 2120 a := (hf_5 284 (by decide)).trans hv11
      have hc_114 : σ_1 285 = q_bn G 1681 fb := (hf_5 285 (by decide)).trans hv12
      have hc_115 : σ_1 286 = q_an G 1681 nv := (hf_5 286 (by decide)).trans hv13
      have hc_116 : σ_1 287 = q_an G 1681 ns := (hf_5 287 (by decide)).trans hv14
      have hc_117 : σ_1 288 = q_an G 2000 mk := (hf_5 288 (by decide)).trans hv15
      have hc_118 : σ_1 289 = q_an G 6724 va := (hf_5 289 (by decide)).trans hv16
      have hc_119 : σ_1 290 = q_an G 6724 sp := (hf_5 290 (by decide)).trans hv17
      have hc_120 : σ_1 291 = q_an G 80 lp := (hf_5 291 (by decide)).trans hv18
      have hc_121 : σ_1 292 = q_an G 600 f := (hf_5 292 (by decide)).trans hv19
      have hc_122 : σ_1 293 = q_an G 300 ou := (hf_5 293 (by decide)).trans hv20
      have hc_123 : σ_1 295 = q_dn G 1 oD := (hf_5 295 (by decide)).trans hv22
      refine A_istore hg dL_law_740 (by decide) (q_c1d rfl) ?_
      refine A_eq (ls2 := [some (.ref bS), some (.ref (q_h G + 0)), some (.ref (q_h G + 279)), some (.ref (q_h G + 294)), some (.ref (q_h G + 295)), some (.int (nI (i))), some (.int (nI (0))), none, none]) (st2 := []) (pc2 := 0) rfl rfl ?_
      refine A_aload_n hg dL_law_742 rfl rfl ?_
      refine A_aload_n hg dL_law_743 rfl rfl ?_
      refine A_iload hg dL_law_744 rfl ?_
      refine A_iconst (v := (nI (1))) hg dL_law_746 (by decide) ?_
      refine A_iaddN hg dL_law_747 ?_
      refine A_sld hg hX (i + 1) (by omega) dL_law_748 ?_
      refine A_aload_n hg dL_law_749 rfl rfl ?_
      refine A_iload hg dL_law_750 rfl ?_
      refine A_iconst (v := (nI (2))) hg dL_law_752 (by decide) ?_
      refine A_iaddN hg dL_law_753 ?_
      refine A_sld hg hX (i + 2) (by omega) dL_law_754 ?_
      refine A_aload_n hg dL_law_755 rfl rfl ?_
      refine A_iload hg dL_law_756 rfl ?_
      refine A_iconst (v := (nI (3))) hg dL_law_758 (by decide) ?_
      refine A_iaddN hg dL_law_759 ?_
      refine A_sld hg hX (i + 3) (by omega) dL_law_760 ?_
      refine A_if_eq (tgt := 768) hg dL_law_761 (by decide) (fun _ => ?_) (fun z9 => absurd c728 z9)
      refine A_iconst (v := (nI (0))) hg dL_law_768 (by decide) ?_
      refine A_hV (kc2 := kc + 1) (ks2 := ks + 6) (As := [.int (xs (i + 1)), .int (xs (i + 2)), .int (nI (0))]) (rest := []) hg lk_RL_189 in_X11_barred se_X11_barred rfl dL_law_769 ⟨by decide, by decide⟩ rfl rfl (hfK 1 6 (by decide) (by decide)) hc_108 (by omega) rfl rfl (Nat.le_of_ble_eq_true rfl) (c_X11_barred G false 296 σ_1 F g (xs (i + 1)) (xs (i + 2)) false hc_108 hc_109 (by omega) hg9) ?_
      rintro _ σ_130 (⟨rfl, Mhno, hc_124, hf_125⟩ | ⟨r1M, i1M, rfl, Mhre, Mhrl, Mhie, Mhil, hc_126, hf_127⟩ | ⟨r1M, rfl, Mhre, Mhrl, Mhni, hc_128, hf_129⟩)
      · skip
        refine (?_ : AJ G K Q (kc + 1) (ks + 6) false 296 772 [some (.ref bS), some (.ref (q_h G + 0)), some (.ref (q_h G + 279)), some (.ref (q_h G + 294)), some (.ref (q_h G + 295)), some (.int (nI (i))), some (.int (nI (0))), none, none] [.int (nI (0))] σ_130)
        have hc_124 : σ_130 279 = o11 G (upd F 7 (nI (1))) := hc_124
        have hc_131 : σ_130 0 = o10 G (nI (il)) (z2) (z3) := (hf_125 0 (by decide)).trans hc_102
        have hc_132 : σ_130 1 = q_an G 600 f := (hf_125 1 (by decide)).trans hc_103
        have hc_133 : σ_130 23 = o5 G (23) (nI (lo)) := (hf_125 23 (by decide)).trans hc_104
        have hc_134 : σ_130 24 = q_an G 256 o := (hf_125 24 (by decide)).trans hc_105
        have hc_135 : σ_130 224 = q_rn G 2 2 (fun j => some (243 + 18 * j)) := (hf_125 224 (by decide)).trans hc_106
        have hc_136 : σ_130 225 = q_bn G 2 kp := (hf_125 225 (by decide)).trans hc_107
        have hc_137 : σ_130 280 = q_an G 265 g := (hf_125 280 (by decide)).trans hc_109
        have hc_138 : σ_130 281 = q_an G 265 wk := (hf_125 281 (by decide)).trans hc_110
        have hc_139 : σ_130 282 = q_an G 265 as := (hf_125 282 (by decide)).trans hc_111
        have hc_140 : σ_130 283 = q_an G 530 sh := (hf_125 283 (by decide)).trans hc_112
        have hc_141 : σ_130 284 = q_an G 2120 a := (hf_125 284 (by decide)).trans hc_113
        have hc_142 : σ_130 285 = q_bn G 1681 fb := (hf_125 285 (by decide)).trans hc_114
        have hc_143 : σ_130 286 = q_an G 1681 nv := (hf_125 286 (by decide)).trans hc_115
        have hc_144 : σ_130 287 = q_an G 1681 ns := (hf_125 287 (by decide)).trans hc_116
        have hc_145 : σ_130 288 = q_an G 2000 mk := (hf_125 288 (by decide)).trans hc_117
        have hc_146 : σ_130 289 = q_an G 6724 va := (hf_125 289 (by decide)).trans hc_118
        have hc_147 : σ_130 290 = q_an G 6724 sp := (hf_125 290 (by decide)).trans hc_119
        have hc_148 : σ_130 291 = q_an G 80 lp := (hf_125 291 (by decide)).trans hc_120
        have hc_149 : σ_130 292 = q_an G 600 f := (hf_125 292 (by decide)).trans hc_121
        have hc_150 : σ_130 293 = q_an G 300 ou := (hf_125 293 (by decide)).trans hc_122
        have hc_151 : σ_130 295 = q_dn G 1 oD := (hf_125 295 (by decide)).trans hc_123
        have hc_152 : σ_130 294 = q_ln G 1 (va_up oL 0 ((q_d (0)).toInt64)) := (hf_125 294 (by decide)).trans hc_4
        exact (Mhno r1C (by omega) Chre).elim
      · skip
        refine (?_ : AJ G K Q (kc + 1) (ks + 6) false 296 772 [some (.ref bS), some (.ref (q_h G + 0)), some (.ref (q_h G + 279)), some (.ref (q_h G + 294)), some (.ref (q_h G + 295)), some (.int (nI (i))), some (.int (nI (0))), none, none] [.int (nI (s_rule g r1M (21 + 2 * i1M + (if false = true then 1 else 0))))] σ_130)
        have hc_126 : σ_130 279 = o11 G (upd F 7 (nI (0))) := hc_126
        have hc_153 : σ_130 0 = o10 G (nI (il)) (z2) (z3) := (hf_127 0 (by decide)).trans hc_102
        have hc_154 : σ_130 1 = q_an G 600 f := (hf_127 1 (by decide)).trans hc_103
        have hc_155 : σ_130 23 = o5 G (23) (nI (lo)) := (hf_127 23 (by decide)).trans hc_104
        have hc_156 : σ_130 24 = q_an G 256 o := (hf_127 24 (by decide)).trans hc_105
        have hc_157 : σ_130 224 = q_rn G 2 2 (fun j => some (243 + 18 * j)) := (hf_127 224 (by decide)).trans hc_106
        have hc_158 : σ_130 225 = q_bn G 2 kp := (hf_127 225 (by decide)).trans hc_107
        have hc_159 : σ_130 280 = q_an G 265 g := (hf_127 280 (by decide)).trans hc_109
        have hc_160 : σ_130 281 = q_an G 265 wk := (hf_127 281 (by decide)).trans hc_110
        have hc_161 : σ_130 282 = q_an G 265 as := (hf_127 282 (by decide)).trans hc_111
        have hc_162 : σ_130 283 = q_an G 530 sh := (hf_127 283 (by decide)).trans hc_112
        have hc_163 : σ_130 284 = q_an G 2120 a := (hf_127 284 (by decide)).trans hc_113
        have hc_164 : σ_130 285 = q_bn G 1681 fb := (hf_127 285 (by decide)).trans hc_114
        have hc_165 : σ_130 286 = q_an G 1681 nv := (hf_127 286 (by decide)).trans hc_115
        have hc_166 : σ_130 287 = q_an G 1681 ns := (hf_127 287 (by decide)).trans hc_116
        have hc_167 : σ_130 288 = q_an G 2000 mk := (hf_127 288 (by decide)).trans hc_117
        have hc_168 : σ_130 289 = q_an G 6724 va := (hf_127 289 (by decide)).trans hc_118
        have hc_169 : σ_130 290 = q_an G 6724 sp := (hf_127 290 (by decide)).trans hc_119
        have hc_170 : σ_130 291 = q_an G 80 lp := (hf_127 291 (by decide)).trans hc_120
        have hc_171 : σ_130 292 = q_an G 600 f := (hf_127 292 (by decide)).trans hc_121
        have hc_172 : σ_130 293 = q_an G 300 ou := (hf_127 293 (by decide)).trans hc_122
        have hc_173 : σ_130 295 = q_dn G 1 oD := (hf_127 295 (by decide)).trans hc_123
        have hc_174 : σ_130 294 = q_ln G 1 (va_up oL 0 ((q_d (0)).toInt64)) := (hf_127 294 (by decide)).trans hc_4
        have hub_i1M := (hg9.2.2.2.2.2.1 r1M Mhrl).2.2.2.2.1
        have e_r : r1C = r1M := q_nI_inj (by omega) (by omega) (Chre.symm.trans Mhre)
        subst e_r
        exact (Chni i1M (by omega) Mhie).elim
      · skip
        refine (?_ : AJ G K Q (kc + 1) (ks + 6) false 296 772 [some (.ref bS), some (.ref (q_h G + 0)), some (.ref (q_h G + 279)), some (.ref (q_h G + 294)), some (.ref (q_h G + 295)), some (.int (nI (i))), some (.int (nI (0))), none, none] [.int (q_d (0))] σ_130)
        have hc_128 : σ_130 279 = o11 G (upd F 7 (nI (0))) := hc_128
        have hc_175 : σ_130 0 = o10 G (nI (il)) (z2) (z3) := (hf_129 0 (by decide)).trans hc_102
        have hc_176 : σ_130 1 = q_an G 600 f := (hf_129 1 (by decide)).trans hc_103
        have hc_177 : σ_130 23 = o5 G (23) (nI (lo)) := (hf_129 23 (by decide)).trans hc_104
        have hc_178 : σ_130 24 = q_an G 256 o := (hf_129 24 (by decide)).trans hc_105
        have hc_179 : σ_130 224 = q_rn G 2 2 (fun j => some (243 + 18 * j)) := (hf_129 224 (by decide)).trans hc_106
        have hc_180 : σ_130 225 = q_bn G 2 kp := (hf_129 225 (by decide)).trans hc_107
        have hc_181 : σ_130 280 = q_an G 265 g := (hf_129 280 (by decide)).trans hc_109
        have hc_182 : σ_130 281 = q_an G 265 wk := (hf_129 281 (by decide)).trans hc_110
        have hc_183 : σ_130 282 = q_an G 265 as := (hf_129 282 (by decide)).trans hc_111
        have hc_184 : σ_130 283 = q_an G 530 sh := (hf_129 283 (by decide)).trans hc_112
        have hc_185 : σ_130 284 = q_an G 2120 a := (hf_129 284 (by decide)).trans hc_113
        have hc_186 : σ_130 285 = q_bn G 1681 fb := (hf_129 285 (by decide)).trans hc_114
        have hc_187 : σ_130 286 = q_an G 1681 nv := (hf_129 286 (by decide)).trans hc_115
        have hc_188 : σ_130 287 = q_an G 1681 ns := (hf_129 287 (by decide)).trans hc_116
        have hc_189 : σ_130 288 = q_an G 2000 mk := (hf_129 288 (by decide)).trans hc_117
        have hc_190 : σ_130 289 = q_an G 6724 va := (hf_129 289 (by decide)).trans hc_118
        have hc_191 : σ_130 290 = q_an G 6724 sp := (hf_129 290 (by decide)).trans hc_119
        have hc_192 : σ_130 291 = q_an G 80 lp := (hf_129 291 (by decide)).trans hc_120
        have hc_193 : σ_130 292 = q_an G 600 f := (hf_129 292 (by decide)).trans hc_121
        have hc_194 : σ_130 293 = q_an G 300 ou := (hf_129 293 (by decide)).trans hc_122
        have hc_195 : σ_130 295 = q_dn G 1 oD := (hf_129 295 (by decide)).trans hc_123
        have hc_196 : σ_130 294 = q_ln G 1 (va_up oL 0 ((q_d (0)).toInt64)) := (hf_129 294 (by decide)).trans hc_4
        have e_r : r1C = r1M := q_nI_inj (by omega) (by omega) (Chre.symm.trans Mhre)
        subst e_r
        refine A_istore hg dL_law_772 (by decide) (q_c1d rfl) ?_
        refine A_eq (ls2 := [some (.ref bS), some (.ref (q_h G + 0)), some (.ref (q_h G + 279)), some (.ref (q_h G + 294)), some (.ref (q_h G + 295)), some (.int (nI (i))), some (.int (nI (0))), some (.int (q_d (0))), none]) (st2 := []) (pc2 := 0) rfl rfl ?_
        refine A_aload_n hg dL_law_774 rfl rfl ?_
        refine A_eV (kc2 := kc + 1) (ks2 := ks + 6) (As := []) (rest := []) hg lk_RL_170 in_X11_thrown se_X11_thrown rfl dL_law_775 ⟨by decide, by decide⟩ rfl rfl (hfK 1 6 (by decide) (by decide)) hc_128 (by omega) rfl rfl (Nat.le_of_ble_eq_true rfl) (c_X11_thrown G false 296 σ_130 (upd F 7 (nI (0))) hc_128 (by omega)) ?_
        refine A_top (w := .int (nI (0))) (congrArg Value.int rfl) ?_
        refine A_iload hg dL_law_778 rfl ?_
        refine A_icmp_eqN (tgt := 785) hg dL_law_780 (by decide) (by decide) (by decide) (fun c780 => ?_) (fun c780 => False.elim (by omega))
        refine A_iload hg dL_law_785 rfl ?_
        refine A_if_neN (tgt := 802) hg dL_law_787 (by decide) (by decide) (fun c787 => absurd (by decide) c787) (fun c787 => ?_)
        refine A_aload_n hg dL_law_790 rfl rfl ?_
        refine A_iconst (v := (nI (0))) hg dL_law_791 (by decide) ?_
        refine A_lald (j := 0) hg dL_law_792 hc_196 (by omega) (by decide) (by decide) ?_
        refine A_top (w := .long ((q_d (0)).toInt64)) (congrArg Value.long iv_up0) ?_
        refine A_iload hg dL_law_793 rfl ?_
        refine A_i2l (v := (q_d (0)).toInt64) hg dL_law_795 rfl ?_
        refine A_lcmp hg dL_law_796 ?_
        refine A_top (w := .int (nI 0)) (congrArg Value.int (lc_self _)) ?_
        refine A_if_eqN (tgt := 802) hg dL_law_797 (by decide) (by decide) (fun c797 => ?_) (fun c797 => absurd (by decide) c797)
        refine A_goto (tgt := 3062) hg dL_law_802 (by decide) ?_
        refine A_drop 6 ?_
        refine A_drop 7 ?_
        refine A_eq (ls2 := [some (.ref bS), some (.ref (q_h G + 0)), some (.ref (q_h G + 279)), some (.ref (q_h G + 294)), some (.ref (q_h G + 295)), some (.int (nI (i))), none, none, none]) (st2 := []) (pc2 := 0) rfl rfl ?_
        refine A_wide (kc2 := kc + 8) (ks2 := ks + 48) (by omega) (by omega) ?_
        exact hnxt _ (iv_mk il z2 z3 f lo o g nx m ps kp sn (upd F 7 (nI (0))) wk as sh a fb nv ns mk va sp lp mc z ss ou (va_up oL 0 ((q_d (0)).toInt64)) oD hc_175 hc_176 hc_177 hc_178 hc_179 hc_180 hc_128 hc_181 hc_182 hc_183 hc_184 hc_185 hc_186 hc_187 hc_188 hc_189 hc_190 hc_191 hc_192 hc_193 hc_194 hc_196 hc_195 (x_lj_e (fun i _ _ => ((hf_129 i (by omega)).trans (hf_5 i (by omega)))) hL) (x_gm_e (fun i _ _ => ((hf_129 i (by omega)).trans (hf_5 i (by omega)))) hG) (x_mx_e (fun i _ _ => ((hf_129 i (by omega)).trans (hf_5 i (by omega)))) hM) (x_hi_e (fun i _ _ => ((hf_129 i (by omega)).trans (hf_5 i (by omega)))) hHi) (x_oj_e (fun i _ _ => ((hf_129 i (by omega)).trans (hf_5 i (by omega)))) hO) (x_pj_e (fun i _ _ => ((hf_129 i (by omega)).trans (hf_5 i (by omega)))) hT) (iv_hn (fun i _ _ => ((hf_129 i (by omega)).trans (hf_5 i (by omega)))) hH) (iv_Sn (fun i _ _ => ((hf_129 i (by omega)).trans (hf_5 i (by omega)))) hSn) (iv_Kp (fun i _ _ => ((hf_129 i (by omega)).trans (hf_5 i (by omega)))) hKp) (by omega) hfb (by omega) hou hgd hps hk1 hkss hss hsn hF5 hF6 hF12 hF16 hF21 hF22 hF23 hF33 (by omega) hmk hTI hlo)
    · skip
      rw [he_6]
      refine (?_ : AJ G K Q (kc + 1) (ks + 6) false 296 740 [some (.ref bS), some (.ref (q_h G + 0)), some (.ref (q_h G + 279)), some (.ref (q_h G + 294)), some (.ref (q_h G + 295)), some (.int (nI (i))), none, none, none] [.int (nI (1))] σ)
      refine A_istore hg dL_law_740 (by decide) (q_c1d rfl) ?_
      refine A_eq (ls2 := [some (.ref bS), some (.ref (q_h G + 0)), some (.ref (q_h G + 279)), some (.ref (q_h G + 294)), some (.ref (q_h G + 295)), some (.int (nI (i))), some (.int (nI (1))), none, none]) (st2 := []) (pc2 := 0) rfl rfl ?_
      refine A_aload_n hg dL_law_742 rfl rfl ?_
      refine A_aload_n hg dL_law_743 rfl rfl ?_
      refine A_iload hg dL_law_744 rfl ?_
      refine A_iconst (v := (nI (1))) hg dL_law_746 (by decide) ?_
      refine A_iaddN hg dL_law_747 ?_
      refine A_sld hg hX (i + 1) (by omega) dL_law_748 ?_
      refine A_aload_n hg dL_law_749 rfl rfl ?_
      refine A_iload hg dL_law_750 rfl ?_
      refine A_iconst (v := (nI (2))) hg dL_law_752 (by decide) ?_
      refine A_iaddN hg dL_law_753 ?_
      refine A_sld hg hX (i + 2) (by omega) dL_law_754 ?_
      refine A_aload_n hg dL_law_755 rfl rfl ?_
      refine A_iload hg dL_law_756 rfl ?_
      refine A_iconst (v := (nI (3))) hg dL_law_758 (by decide) ?_
      refine A_iaddN hg dL_law_759 ?_
      refine A_sld hg hX (i + 3) (by omega) dL_law_760 ?_
      refine A_if_eq (tgt := 768) hg dL_law_761 (by decide) (fun _ => ?_) (fun z9 => absurd c728 z9)
      refine A_iconst (v := (nI (0))) hg dL_law_768 (by decide) ?_
      refine A_hV (kc2 := kc + 1) (ks2 := ks + 6) (As := [.int (xs (i + 1)), .int (xs (i + 2)), .int (nI (0))]) (rest := []) hg lk_RL_189 in_X11_barred se_X11_barred rfl dL_law_769 ⟨by decide, by decide⟩ rfl rfl (hfK 1 6 (by decide) (by decide)) hv6 (by omega) rfl rfl (Nat.le_of_ble_eq_true rfl) (c_X11_barred G false 296 σ F g (xs (i + 1)) (xs (i + 2)) false hv6 hv7 (by omega) hg9) ?_
      rintro _ σ_203 (⟨rfl, Mhno, hc_197, hf_198⟩ | ⟨r1M, i1M, rfl, Mhre, Mhrl, Mhie, Mhil, hc_199, hf_200⟩ | ⟨r1M, rfl, Mhre, Mhrl, Mhni, hc_201, hf_202⟩)
      · skip
        refine (?_ : AJ G K Q (kc + 1) (ks + 6) false 296 772 [some (.ref bS), some (.ref (q_h G + 0)), some (.ref (q_h G + 279)), some (.ref (q_h G + 294)), some (.ref (q_h G + 295)), some (.int (nI (i))), some (.int (nI (1))), none, none] [.int (nI (0))] σ_203)
        have hc_197 : σ_203 279 = o11 G (upd F 7 (nI (1))) := hc_197
        have hc_204 : σ_203 0 = o10 G (nI (il)) (z2) (z3) := (hf_198 0 (by decide)).trans hv0
        have hc_205 : σ_203 1 = q_an G 600 f := (hf_198 1 (by decide)).trans hv1
        have hc_206 : σ_203 23 = o5 G (23) (nI (lo)) := (hf_198 23 (by decide)).trans hv2
        have hc_207 : σ_203 24 = q_an G 256 o := (hf_198 24 (by decide)).trans hv3
        have hc_208 : σ_203 224 = q_rn G 2 2 (fun j => some (243 + 18 * j)) := (hf_198 224 (by decide)).trans hv4
        have hc_209 : σ_203 225 = q_bn G 2 kp := (hf_198 225 (by decide)).trans hv5
        have hc_210 : σ_203 280 = q_an G 265 g := (hf_198 280 (by decide)).trans hv7
        have hc_211 : σ_203 281 = q_an G 265 wk := (hf_198 281 (by decide)).trans hv8
        have hc_212 : σ_203 282 = q_an G 265 as := (hf_198 282 (by decide)).trans hv9
        have hc_213 : σ_203 283 = q_an G 530 sh := (hf_198 283 (by decide)).trans hv10
        have hc_214 : σ_203 284 = q_an G 2120 a := (hf_198 284 (by decide)).trans hv11
        have hc_215 : σ_203 285 = q_bn G 1681 fb := (hf_198 285 (by decide)).trans hv12
        have hc_216 : σ_203 286 = q_an G 1681 nv := (hf_198 286 (by decide)).trans hv13
        have hc_217 : σ_203 287 = q_an G 1681 ns := (hf_198 287 (by decide)).trans hv14
        have hc_218 : σ_203 288 = q_an G 2000 mk := (hf_198 288 (by decide)).trans hv15
        have hc_219 : σ_203 289 = q_an G 6724 va := (hf_198 289 (by decide)).trans hv16
        have hc_220 : σ_203 290 = q_an G 6724 sp := (hf_198 290 (by decide)).trans hv17
        have hc_221 : σ_203 291 = q_an G 80 lp := (hf_198 291 (by decide)).trans hv18
        have hc_222 : σ_203 292 = q_an G 600 f := (hf_198 292 (by decide)).trans hv19
        have hc_223 : σ_203 293 = q_an G 300 ou := (hf_198 293 (by decide)).trans hv20
        have hc_224 : σ_203 294 = q_ln G 1 oL := (hf_198 294 (by decide)).trans hv21
        have hc_225 : σ_203 295 = q_dn G 1 oD := (hf_198 295 (by decide)).trans hv22
        refine A_istore hg dL_law_772 (by decide) (q_c1d rfl) ?_
        refine A_eq (ls2 := [some (.ref bS), some (.ref (q_h G + 0)), some (.ref (q_h G + 279)), some (.ref (q_h G + 294)), some (.ref (q_h G + 295)), some (.int (nI (i))), some (.int (nI (1))), some (.int (nI (0))), none]) (st2 := []) (pc2 := 0) rfl rfl ?_
        refine A_aload_n hg dL_law_774 rfl rfl ?_
        refine A_eV (kc2 := kc + 1) (ks2 := ks + 6) (As := []) (rest := []) hg lk_RL_170 in_X11_thrown se_X11_thrown rfl dL_law_775 ⟨by decide, by decide⟩ rfl rfl (hfK 1 6 (by decide) (by decide)) hc_197 (by omega) rfl rfl (Nat.le_of_ble_eq_true rfl) (c_X11_thrown G false 296 σ_203 (upd F 7 (nI (1))) hc_197 (by omega)) ?_
        refine A_top (w := .int (nI (1))) (congrArg Value.int rfl) ?_
        refine A_iload hg dL_law_778 rfl ?_
        refine A_icmp_eqN (tgt := 785) hg dL_law_780 (by decide) (by decide) (by decide) (fun c780 => ?_) (fun c780 => False.elim (by omega))
        refine A_iload hg dL_law_785 rfl ?_
        refine A_if_neN (tgt := 802) hg dL_law_787 (by decide) (by decide) (fun c787 => ?_) (fun c787 => absurd c787 (by decide))
        refine A_goto (tgt := 3062) hg dL_law_802 (by decide) ?_
        refine A_drop 6 ?_
        refine A_drop 7 ?_
        refine A_eq (ls2 := [some (.ref bS), some (.ref (q_h G + 0)), some (.ref (q_h G + 279)), some (.ref (q_h G + 294)), some (.ref (q_h G + 295)), some (.int (nI (i))), none, none, none]) (st2 := []) (pc2 := 0) rfl rfl ?_
        refine A_wide (kc2 := kc + 8) (ks2 := ks + 48) (by omega) (by omega) ?_
        exact hnxt _ (iv_mk il z2 z3 f lo o g nx m ps kp sn (upd F 7 (nI (1))) wk as sh a fb nv ns mk va sp lp mc z ss ou oL oD hc_204 hc_205 hc_206 hc_207 hc_208 hc_209 hc_197 hc_210 hc_211 hc_212 hc_213 hc_214 hc_215 hc_216 hc_217 hc_218 hc_219 hc_220 hc_221 hc_222 hc_223 hc_224 hc_225 (x_lj_e (fun i _ _ => (hf_198 i (by omega))) hL) (x_gm_e (fun i _ _ => (hf_198 i (by omega))) hG) (x_mx_e (fun i _ _ => (hf_198 i (by omega))) hM) (x_hi_e (fun i _ _ => (hf_198 i (by omega))) hHi) (x_oj_e (fun i _ _ => (hf_198 i (by omega))) hO) (x_pj_e (fun i _ _ => (hf_198 i (by omega))) hT) (iv_hn (fun i _ _ => (hf_198 i (by omega))) hH) (iv_Sn (fun i _ _ => (hf_198 i (by omega))) hSn) (iv_Kp (fun i _ _ => (hf_198 i (by omega))) hKp) (by omega) hfb (by omega) hou hgd hps hk1 hkss hss hsn hF5 hF6 hF12 hF16 hF21 hF22 hF23 hF33 (by omega) hmk hTI hlo)
      · skip
        refine (?_ : AJ G K Q (kc + 1) (ks + 6) false 296 772 [some (.ref bS), some (.ref (q_h G + 0)), some (.ref (q_h G + 279)), some (.ref (q_h G + 294)), some (.ref (q_h G + 295)), some (.int (nI (i))), some (.int (nI (1))), none, none] [.int (nI (s_rule g r1M (21 + 2 * i1M + (if false = true then 1 else 0))))] σ_203)
        have hc_199 : σ_203 279 = o11 G (upd F 7 (nI (0))) := hc_199
        have hc_226 : σ_203 0 = o10 G (nI (il)) (z2) (z3) := (hf_200 0 (by decide)).trans hv0
        have hc_227 : σ_203 1 = q_an G 600 f := (hf_200 1 (by decide)).trans hv1
        have hc_228 : σ_203 23 = o5 G (23) (nI (lo)) := (hf_200 23 (by decide)).trans hv2
        have hc_229 : σ_203 24 = q_an G 256 o := (hf_200 24 (by decide)).trans hv3
        have hc_230 : σ_203 224 = q_rn G 2 2 (fun j => some (243 + 18 * j)) := (hf_200 224 (by decide)).trans hv4
        have hc_231 : σ_203 225 = q_bn G 2 kp := (hf_200 225 (by decide)).trans hv5
        have hc_232 : σ_203 280 = q_an G 265 g := (hf_200 280 (by decide)).trans hv7
        have hc_233 : σ_203 281 = q_an G 265 wk := (hf_200 281 (by decide)).trans hv8
        have hc_234 : σ_203 282 = q_an G 265 as := (hf_200 282 (by decide)).trans hv9
        have hc_235 : σ_203 283 = q_an G 530 sh := (hf_200 283 (by decide)).trans hv10
        have hc_236 : σ_203 284 = q_an G 2120 a := (hf_200 284 (by decide)).trans hv11
        have hc_237 : σ_203 285 = q_bn G 1681 fb := (hf_200 285 (by decide)).trans hv12
        have hc_238 : σ_203 286 = q_an G 1681 nv := (hf_200 286 (by decide)).trans hv13
        have hc_239 : σ_203 287 = q_an G 1681 ns := (hf_200 287 (by decide)).trans hv14
        have hc_240 : σ_203 288 = q_an G 2000 mk := (hf_200 288 (by decide)).trans hv15
        have hc_241 : σ_203 289 = q_an G 6724 va := (hf_200 289 (by decide)).trans hv16
        have hc_242 : σ_203 290 = q_an G 6724 sp := (hf_200 290 (by decide)).trans hv17
        have hc_243 : σ_203 291 = q_an G 80 lp := (hf_200 291 (by decide)).trans hv18
        have hc_244 : σ_203 292 = q_an G 600 f := (hf_200 292 (by decide)).trans hv19
        have hc_245 : σ_203 293 = q_an G 300 ou := (hf_200 293 (by decide)).trans hv20
        have hc_246 : σ_203 294 = q_ln G 1 oL := (hf_200 294 (by decide)).trans hv21
        have hc_247 : σ_203 295 = q_dn G 1 oD := (hf_200 295 (by decide)).trans hv22
        have hub_i1M := (hg9.2.2.2.2.2.1 r1M Mhrl).2.2.2.2.1
        exact (Chxx r1M (by omega) Mhre).elim
      · skip
        refine (?_ : AJ G K Q (kc + 1) (ks + 6) false 296 772 [some (.ref bS), some (.ref (q_h G + 0)), some (.ref (q_h G + 279)), some (.ref (q_h G + 294)), some (.ref (q_h G + 295)), some (.int (nI (i))), some (.int (nI (1))), none, none] [.int (q_d (0))] σ_203)
        have hc_201 : σ_203 279 = o11 G (upd F 7 (nI (0))) := hc_201
        have hc_248 : σ_203 0 = o10 G (nI (il)) (z2) (z3) := (hf_202 0 (by decide)).trans hv0
        have hc_249 : σ_203 1 = q_an G 600 f := (hf_202 1 (by decide)).trans hv1
        have hc_250 : σ_203 23 = o5 G (23) (nI (lo)) := (hf_202 23 (by decide)).trans hv2
        have hc_251 : σ_203 24 = q_an G 256 o := (hf_202 24 (by decide)).trans hv3
        have hc_252 : σ_203 224 = q_rn G 2 2 (fun j => some (243 + 18 * j)) := (hf_202 224 (by decide)).trans hv4
        have hc_253 : σ_203 225 = q_bn G 2 kp := (hf_202 225 (by decide)).trans hv5
        have hc_254 : σ_203 280 = q_an G 265 g := (hf_202 280 (by decide)).trans hv7
        have hc_255 : σ_203 281 = q_an G 265 wk := (hf_202 281 (by decide)).trans hv8
        have hc_256 : σ_203 282 = q_an G 265 as := (hf_202 282 (by decide)).trans hv9
        have hc_257 : σ_203 283 = q_an G 530 sh := (hf_202 283 (by decide)).trans hv10
        have hc_258 : σ_203 284 = q_an G 2120 a := (hf_202 284 (by decide)).trans hv11
        have hc_259 : σ_203 285 = q_bn G 1681 fb := (hf_202 285 (by decide)).trans hv12
        have hc_260 : σ_203 286 = q_an G 1681 nv := (hf_202 286 (by decide)).trans hv13
        have hc_261 : σ_203 287 = q_an G 1681 ns := (hf_202 287 (by decide)).trans hv14
        have hc_262 : σ_203 288 = q_an G 2000 mk := (hf_202 288 (by decide)).trans hv15
        have hc_263 : σ_203 289 = q_an G 6724 va := (hf_202 289 (by decide)).trans hv16
        have hc_264 : σ_203 290 = q_an G 6724 sp := (hf_202 290 (by decide)).trans hv17
        have hc_265 : σ_203 291 = q_an G 80 lp := (hf_202 291 (by decide)).trans hv18
        have hc_266 : σ_203 292 = q_an G 600 f := (hf_202 292 (by decide)).trans hv19
        have hc_267 : σ_203 293 = q_an G 300 ou := (hf_202 293 (by decide)).trans hv20
        have hc_268 : σ_203 294 = q_ln G 1 oL := (hf_202 294 (by decide)).trans hv21
        have hc_269 : σ_203 295 = q_dn G 1 oD := (hf_202 295 (by decide)).trans hv22
        exact (Chxx r1M (by omega) Mhre).elim
  · skip
    refine A_iconst (v := (nI (1))) hg dL_law_731 (by decide) ?_
    refine A_goto (tgt := 736) hg dL_law_732 (by decide) ?_
    refine A_aload_n hg dL_law_736 rfl rfl ?_
    refine A_callSH (As := [.ref (q_h G + 0), .int (xs (i + 1)), .int (xs (i + 2)), .int (nI (1)), .ref (q_h G + 294)]) (rest := []) hg lkH_186 stH_L_barred dL_law_737 ⟨by decide, by decide⟩ (hfK 1 6 (by decide) (by decide)) rfl rfl (Nat.le_of_ble_eq_true rfl) (c_L_barred G 296 σ (nI (il)) z2 z3 g (xs (i + 1)) (xs (i + 2)) true oL hv0 hv21 (by omega) hG (by omega)) ?_
    rintro _ σ_270 (⟨r1C, i1C, rfl, Chre, Chrl, Chie, Chil, hc_271, hf_272⟩ | ⟨r1C, rfl, Chre, Chrl, Chni, hc_273, hf_274⟩ | ⟨rfl, Chxx, he_275⟩)
    · skip
      refine (?_ : AJ G K Q (kc + 1) (ks + 6) false 296 740 [some (.ref bS), some (.ref (q_h G + 0)), some (.ref (q_h G + 279)), some (.ref (q_h G + 294)), some (.ref (q_h G + 295)), some (.int (nI (i))), none, none, none] [.int (nI (0))] σ_270)
      have hc_276 : σ_270 0 = o10 G (nI (il)) (z2) (z3) := (hf_272 0 (by decide)).trans hv0
      have hc_277 : σ_270 1 = q_an G 600 f := (hf_272 1 (by decide)).trans hv1
      have hc_278 : σ_270 23 = o5 G (23) (nI (lo)) := (hf_272 23 (by decide)).trans hv2
      have hc_279 : σ_270 24 = q_an G 256 o := (hf_272 24 (by decide)).trans hv3
      have hc_280 : σ_270 224 = q_rn G 2 2 (fun j => some (243 + 18 * j)) := (hf_272 224 (by decide)).trans hv4
      have hc_281 : σ_270 225 = q_bn G 2 kp := (hf_272 225 (by decide)).trans hv5
      have hc_282 : σ_270 279 = o11 G F := (hf_272 279 (by decide)).trans hv6
      have hc_283 : σ_270 280 = q_an G 265 g := (hf_272 280 (by decide)).trans hv7
      have hc_284 : σ_270 281 = q_an G 265 wk := (hf_272 281 (by decide)).trans hv8
      have hc_285 : σ_270 282 = q_an G 265 as := (hf_272 282 (by decide)).trans hv9
      have hc_286 : σ_270 283 = q_an G 530 sh := (hf_272 283 (by decide)).trans hv10
      have hc_287 : σ_270 284 = q_an G 2120 a := (hf_272 284 (by decide)).trans hv11
      have hc_288 : σ_270 285 = q_bn G 1681 fb := (hf_272 285 (by decide)).trans hv12
      have hc_289 : σ_270 286 = q_an G 1681 nv := (hf_272 286 (by decide)).trans hv13
      have hc_290 : σ_270 287 = q_an G 1681 ns := (hf_272 287 (by decide)).trans hv14
      have hc_291 : σ_270 288 = q_an G 2000 mk := (hf_272 288 (by decide)).trans hv15
      have hc_292 : σ_270 289 = q_an G 6724 va := (hf_272 289 (by decide)).trans hv16
      have hc_293 : σ_270 290 = q_an G 6724 sp := (hf_272 290 (by decide)).trans hv17
      have hc_294 : σ_270 291 = q_an G 80 lp := (hf_272 291 (by decide)).trans hv18
      have hc_295 : σ_270 292 = q_an G 600 f := (hf_272 292 (by decide)).trans hv19
      have hc_296 : σ_270 293 = q_an G 300 ou := (hf_272 293 (by decide)).trans hv20
      have hc_297 : σ_270 295 = q_dn G 1 oD := (hf_272 295 (by decide)).trans hv22
      refine A_istore hg dL_law_740 (by decide) (q_c1d rfl) ?_
      refine A_eq (ls2 := [some (.ref bS), some (.ref (q_h G + 0)), some (.ref (q_h G + 279)), some (.ref (q_h G + 294)), some (.ref (q_h G + 295)), some (.int (nI (i))), some (.int (nI (0))), none, none]) (st2 := []) (pc2 := 0) rfl rfl ?_
      refine A_aload_n hg dL_law_742 rfl rfl ?_
      refine A_aload_n hg dL_law_743 rfl rfl ?_
      refine A_iload hg dL_law_744 rfl ?_
      refine A_iconst (v := (nI (1))) hg dL_law_746 (by decide) ?_
      refine A_iaddN hg dL_law_747 ?_
      refine A_sld hg hX (i + 1) (by omega) dL_law_748 ?_
      refine A_aload_n hg dL_law_749 rfl rfl ?_
      refine A_iload hg dL_law_750 rfl ?_
      refine A_iconst (v := (nI (2))) hg dL_law_752 (by decide) ?_
      refine A_iaddN hg dL_law_753 ?_
      refine A_sld hg hX (i + 2) (by omega) dL_law_754 ?_
      refine A_aload_n hg dL_law_755 rfl rfl ?_
      refine A_iload hg dL_law_756 rfl ?_
      refine A_iconst (v := (nI (3))) hg dL_law_758 (by decide) ?_
      refine A_iaddN hg dL_law_759 ?_
      refine A_sld hg hX (i + 3) (by omega) dL_law_760 ?_
      refine A_if_eq (tgt := 768) hg dL_law_761 (by decide) (fun z9 => absurd z9 c728) (fun _ => ?_)
      refine A_iconst (v := (nI (1))) hg dL_law_764 (by decide) ?_
      refine A_goto (tgt := 769) hg dL_law_765 (by decide) ?_
      refine A_hV (kc2 := kc + 1) (ks2 := ks + 6) (As := [.int (xs (i + 1)), .int (xs (i + 2)), .int (nI (1))]) (rest := []) hg lk_RL_189 in_X11_barred se_X11_barred rfl dL_law_769 ⟨by decide, by decide⟩ rfl rfl (hfK 1 6 (by decide) (by decide)) hc_282 (by omega) rfl rfl (Nat.le_of_ble_eq_true rfl) (c_X11_barred G false 296 σ_270 F g (xs (i + 1)) (xs (i + 2)) true hc_282 hc_283 (by omega) hg9) ?_
      rintro _ σ_304 (⟨rfl, Mhno, hc_298, hf_299⟩ | ⟨r1M, i1M, rfl, Mhre, Mhrl, Mhie, Mhil, hc_300, hf_301⟩ | ⟨r1M, rfl, Mhre, Mhrl, Mhni, hc_302, hf_303⟩)
      · skip
        refine (?_ : AJ G K Q (kc + 1) (ks + 6) false 296 772 [some (.ref bS), some (.ref (q_h G + 0)), some (.ref (q_h G + 279)), some (.ref (q_h G + 294)), some (.ref (q_h G + 295)), some (.int (nI (i))), some (.int (nI (0))), none, none] [.int (nI (0))] σ_304)
        have hc_298 : σ_304 279 = o11 G (upd F 7 (nI (1))) := hc_298
        have hc_305 : σ_304 0 = o10 G (nI (il)) (z2) (z3) := (hf_299 0 (by decide)).trans hc_276
        have hc_306 : σ_304 1 = q_an G 600 f := (hf_299 1 (by decide)).trans hc_277
        have hc_307 : σ_304 23 = o5 G (23) (nI (lo)) := (hf_299 23 (by decide)).trans hc_278
        have hc_308 : σ_304 24 = q_an G 256 o := (hf_299 24 (by decide)).trans hc_279
        have hc_309 : σ_304 224 = q_rn G 2 2 (fun j => some (243 + 18 * j)) := (hf_299 224 (by decide)).trans hc_280
        have hc_310 : σ_304 225 = q_bn G 2 kp := (hf_299 225 (by decide)).trans hc_281
        have hc_311 : σ_304 280 = q_an G 265 g := (hf_299 280 (by decide)).trans hc_283
        have hc_312 : σ_304 281 = q_an G 265 wk := (hf_299 281 (by decide)).trans hc_284
        have hc_313 : σ_304 282 = q_an G 265 as := (hf_299 282 (by decide)).trans hc_285
        have hc_314 : σ_304 283 = q_an G 530 sh := (hf_299 283 (by decide)).trans hc_286
        have hc_315 : σ_304 284 = q_an G 2120 a := (hf_299 284 (by decide)).trans hc_287
        have hc_316 : σ_304 285 = q_bn G 1681 fb := (hf_299 285 (by decide)).trans hc_288
        have hc_317 : σ_304 286 = q_an G 1681 nv := (hf_299 286 (by decide)).trans hc_289
        have hc_318 : σ_304 287 = q_an G 1681 ns := (hf_299 287 (by decide)).trans hc_290
        have hc_319 : σ_304 288 = q_an G 2000 mk := (hf_299 288 (by decide)).trans hc_291
        have hc_320 : σ_304 289 = q_an G 6724 va := (hf_299 289 (by decide)).trans hc_292
        have hc_321 : σ_304 290 = q_an G 6724 sp := (hf_299 290 (by decide)).trans hc_293
        have hc_322 : σ_304 291 = q_an G 80 lp := (hf_299 291 (by decide)).trans hc_294
        have hc_323 : σ_304 292 = q_an G 600 f := (hf_299 292 (by decide)).trans hc_295
        have hc_324 : σ_304 293 = q_an G 300 ou := (hf_299 293 (by decide)).trans hc_296
        have hc_325 : σ_304 295 = q_dn G 1 oD := (hf_299 295 (by decide)).trans hc_297
        have hc_326 : σ_304 294 = q_ln G 1 (va_up oL 0 ((nI (s_rule g r1C (21 + 2 * i1C + (if true = true then 1 else 0)))).toInt64)) := (hf_299 294 (by decide)).trans hc_271
        have hub_i1C := (hg9.2.2.2.2.2.1 r1C Chrl).2.2.2.2.1
        exact (Mhno r1C (by omega) Chre).elim
      · skip
        refine (?_ : AJ G K Q (kc + 1) (ks + 6) false 296 772 [some (.ref bS), some (.ref (q_h G + 0)), some (.ref (q_h G + 279)), some (.ref (q_h G + 294)), some (.ref (q_h G + 295)), some (.int (nI (i))), some (.int (nI (0))), none, none] [.int (nI (s_rule g r1M (21 + 2 * i1M + (if true = true then 1 else 0))))] σ_304)
        have hc_300 : σ_304 279 = o11 G (upd F 7 (nI (0))) := hc_300
        have hc_327 : σ_304 0 = o10 G (nI (il)) (z2) (z3) := (hf_301 0 (by decide)).trans hc_276
        have hc_328 : σ_304 1 = q_an G 600 f := (hf_301 1 (by decide)).trans hc_277
        have hc_329 : σ_304 23 = o5 G (23) (nI (lo)) := (hf_301 23 (by decide)).trans hc_278
        have hc_330 : σ_304 24 = q_an G 256 o := (hf_301 24 (by decide)).trans hc_279
        have hc_331 : σ_304 224 = q_rn G 2 2 (fun j => some (243 + 18 * j)) := (hf_301 224 (by decide)).trans hc_280
        have hc_332 : σ_304 225 = q_bn G 2 kp := (hf_301 225 (by decide)).trans hc_281
        have hc_333 : σ_304 280 = q_an G 265 g := (hf_301 280 (by decide)).trans hc_283
        have hc_334 : σ_304 281 = q_an G 265 wk := (hf_301 281 (by decide)).trans hc_284
        have hc_335 : σ_304 282 = q_an G 265 as := (hf_301 282 (by decide)).trans hc_285
        have hc_336 : σ_304 283 = q_an G 530 sh := (hf_301 283 (by decide)).trans hc_286
        have hc_337 : σ_304 284 = q_an G 2120 a := (hf_301 284 (by decide)).trans hc_287
        have hc_338 : σ_304 285 = q_bn G 1681 fb := (hf_301 285 (by decide)).trans hc_288
        have hc_339 : σ_304 286 = q_an G 1681 nv := (hf_301 286 (by decide)).trans hc_289
        have hc_340 : σ_304 287 = q_an G 1681 ns := (hf_301 287 (by decide)).trans hc_290
        have hc_341 : σ_304 288 = q_an G 2000 mk := (hf_301 288 (by decide)).trans hc_291
        have hc_342 : σ_304 289 = q_an G 6724 va := (hf_301 289 (by decide)).trans hc_292
        have hc_343 : σ_304 290 = q_an G 6724 sp := (hf_301 290 (by decide)).trans hc_293
        have hc_344 : σ_304 291 = q_an G 80 lp := (hf_301 291 (by decide)).trans hc_294
        have hc_345 : σ_304 292 = q_an G 600 f := (hf_301 292 (by decide)).trans hc_295
        have hc_346 : σ_304 293 = q_an G 300 ou := (hf_301 293 (by decide)).trans hc_296
        have hc_347 : σ_304 295 = q_dn G 1 oD := (hf_301 295 (by decide)).trans hc_297
        have hc_348 : σ_304 294 = q_ln G 1 (va_up oL 0 ((nI (s_rule g r1C (21 + 2 * i1C + (if true = true then 1 else 0)))).toInt64)) := (hf_301 294 (by decide)).trans hc_271
        have hub_i1C := (hg9.2.2.2.2.2.1 r1C Chrl).2.2.2.2.1
        have hub_i1M := (hg9.2.2.2.2.2.1 r1M Mhrl).2.2.2.2.1
        have e_r : r1C = r1M := q_nI_inj (by omega) (by omega) (Chre.symm.trans Mhre)
        subst e_r
        have e_x : i1C = i1M := q_nI_inj (by omega) (by omega) (Chie.symm.trans Mhie)
        subst e_x
        refine A_istore hg dL_law_772 (by decide) (q_c1d rfl) ?_
        refine A_eq (ls2 := [some (.ref bS), some (.ref (q_h G + 0)), some (.ref (q_h G + 279)), some (.ref (q_h G + 294)), some (.ref (q_h G + 295)), some (.int (nI (i))), some (.int (nI (0))), some (.int (nI (s_rule g r1C (21 + 2 * i1C + (if true = true then 1 else 0))))), none]) (st2 := []) (pc2 := 0) rfl rfl ?_
        refine A_aload_n hg dL_law_774 rfl rfl ?_
        refine A_eV (kc2 := kc + 1) (ks2 := ks + 6) (As := []) (rest := []) hg lk_RL_170 in_X11_thrown se_X11_thrown rfl dL_law_775 ⟨by decide, by decide⟩ rfl rfl (hfK 1 6 (by decide) (by decide)) hc_300 (by omega) rfl rfl (Nat.le_of_ble_eq_true rfl) (c_X11_thrown G false 296 σ_304 (upd F 7 (nI (0))) hc_300 (by omega)) ?_
        refine A_top (w := .int (nI (0))) (congrArg Value.int rfl) ?_
        refine A_iload hg dL_law_778 rfl ?_
        refine A_icmp_eqN (tgt := 785) hg dL_law_780 (by decide) (by decide) (by decide) (fun c780 => ?_) (fun c780 => False.elim (by omega))
        refine A_iload hg dL_law_785 rfl ?_
        refine A_if_neN (tgt := 802) hg dL_law_787 (by decide) (by decide) (fun c787 => absurd (by decide) c787) (fun c787 => ?_)
        refine A_aload_n hg dL_law_790 rfl rfl ?_
        refine A_iconst (v := (nI (0))) hg dL_law_791 (by decide) ?_
        refine A_lald (j := 0) hg dL_law_792 hc_348 (by omega) (by decide) (by decide) ?_
        refine A_top (w := .long ((nI (s_rule g r1C (21 + 2 * i1C + (if true = true then 1 else 0)))).toInt64)) (congrArg Value.long iv_up0) ?_
        refine A_iload hg dL_law_793 rfl ?_
        refine A_i2l (v := (nI (s_rule g r1C (21 + 2 * i1C + (if true = true then 1 else 0)))).toInt64) hg dL_law_795 rfl ?_
        refine A_lcmp hg dL_law_796 ?_
        refine A_top (w := .int (nI 0)) (congrArg Value.int (lc_self _)) ?_
        refine A_if_eqN (tgt := 802) hg dL_law_797 (by decide) (by decide) (fun c797 => ?_) (fun c797 => absurd (by decide) c797)
        refine A_goto (tgt := 3062) hg dL_law_802 (by decide) ?_
        refine A_drop 6 ?_
        refine A_drop 7 ?_
        refine A_eq (ls2 := [some (.ref bS), some (.ref (q_h G + 0)), some (.ref (q_h G + 279)), some (.ref (q_h G + 294)), some (.ref (q_h G + 295)), some (.int (nI (i))), none, none, none]) (st2 := []) (pc2 := 0) rfl rfl ?_
        refine A_wide (kc2 := kc + 8) (ks2 := ks + 48) (by omega) (by omega) ?_
        exact hnxt _ (iv_mk il z2 z3 f lo o g nx m ps kp sn (upd F 7 (nI (0))) wk as sh a fb nv ns mk va sp lp mc z ss ou (va_up oL 0 ((nI (s_rule g r1C (21 + 2 * i1C + (if true = true then 1 else 0)))).toInt64)) oD hc_327 hc_328 hc_329 hc_330 hc_331 hc_332 hc_300 hc_333 hc_334 hc_335 hc_336 hc_337 hc_338 hc_339 hc_340 hc_341 hc_342 hc_343 hc_344 hc_345 hc_346 hc_348 hc_347 (x_lj_e (fun i _ _ => ((hf_301 i (by omega)).trans (hf_272 i (by omega)))) hL) (x_gm_e (fun i _ _ => ((hf_301 i (by omega)).trans (hf_272 i (by omega)))) hG) (x_mx_e (fun i _ _ => ((hf_301 i (by omega)).trans (hf_272 i (by omega)))) hM) (x_hi_e (fun i _ _ => ((hf_301 i (by omega)).trans (hf_272 i (by omega)))) hHi) (x_oj_e (fun i _ _ => ((hf_301 i (by omega)).trans (hf_272 i (by omega)))) hO) (x_pj_e (fun i _ _ => ((hf_301 i (by omega)).trans (hf_272 i (by omega)))) hT) (iv_hn (fun i _ _ => ((hf_301 i (by omega)).trans (hf_272 i (by omega)))) hH) (iv_Sn (fun i _ _ => ((hf_301 i (by omega)).trans (hf_272 i (by omega)))) hSn) (iv_Kp (fun i _ _ => ((hf_301 i (by omega)).trans (hf_272 i (by omega)))) hKp) (by omega) hfb (by omega) hou hgd hps hk1 hkss hss hsn hF5 hF6 hF12 hF16 hF21 hF22 hF23 hF33 (by omega) hmk hTI hlo)
      · skip
        refine (?_ : AJ G K Q (kc + 1) (ks + 6) false 296 772 [some (.ref bS), some (.ref (q_h G + 0)), some (.ref (q_h G + 279)), some (.ref (q_h G + 294)), some (.ref (q_h G + 295)), some (.int (nI (i))), some (.int (nI (0))), none, none] [.int (q_d (0))] σ_304)
        have hc_302 : σ_304 279 = o11 G (upd F 7 (nI (0))) := hc_302
        have hc_349 : σ_304 0 = o10 G (nI (il)) (z2) (z3) := (hf_303 0 (by decide)).trans hc_276
        have hc_350 : σ_304 1 = q_an G 600 f := (hf_303 1 (by decide)).trans hc_277
        have hc_351 : σ_304 23 = o5 G (23) (nI (lo)) := (hf_303 23 (by decide)).trans hc_278
        have hc_352 : σ_304 24 = q_an G 256 o := (hf_303 24 (by decide)).trans hc_279
        have hc_353 : σ_304 224 = q_rn G 2 2 (fun j => some (243 + 18 * j)) := (hf_303 224 (by decide)).trans hc_280
        have hc_354 : σ_304 225 = q_bn G 2 kp := (hf_303 225 (by decide)).trans hc_281
        have hc_355 : σ_304 280 = q_an G 265 g := (hf_303 280 (by decide)).trans hc_283
        have hc_356 : σ_304 281 = q_an G 265 wk := (hf_303 281 (by decide)).trans hc_284
        have hc_357 : σ_304 282 = q_an G 265 as := (hf_303 282 (by decide)).trans hc_285
        have hc_358 : σ_304 283 = q_an G 530 sh := (hf_303 283 (by decide)).trans hc_286
        have hc_359 : σ_304 284 = q_an G 2120 a := (hf_303 284 (by decide)).trans hc_287
        have hc_360 : σ_304 285 = q_bn G 1681 fb := (hf_303 285 (by decide)).trans hc_288
        have hc_361 : σ_304 286 = q_an G 1681 nv := (hf_303 286 (by decide)).trans hc_289
        have hc_362 : σ_304 287 = q_an G 1681 ns := (hf_303 287 (by decide)).trans hc_290
        have hc_363 : σ_304 288 = q_an G 2000 mk := (hf_303 288 (by decide)).trans hc_291
        have hc_364 : σ_304 289 = q_an G 6724 va := (hf_303 289 (by decide)).trans hc_292
        have hc_365 : σ_304 290 = q_an G 6724 sp := (hf_303 290 (by decide)).trans hc_293
        have hc_366 : σ_304 291 = q_an G 80 lp := (hf_303 291 (by decide)).trans hc_294
        have hc_367 : σ_304 292 = q_an G 600 f := (hf_303 292 (by decide)).trans hc_295
        have hc_368 : σ_304 293 = q_an G 300 ou := (hf_303 293 (by decide)).trans hc_296
        have hc_369 : σ_304 295 = q_dn G 1 oD := (hf_303 295 (by decide)).trans hc_297
        have hc_370 : σ_304 294 = q_ln G 1 (va_up oL 0 ((nI (s_rule g r1C (21 + 2 * i1C + (if true = true then 1 else 0)))).toInt64)) := (hf_303 294 (by decide)).trans hc_271
        have hub_i1C := (hg9.2.2.2.2.2.1 r1C Chrl).2.2.2.2.1
        have e_r : r1C = r1M := q_nI_inj (by omega) (by omega) (Chre.symm.trans Mhre)
        subst e_r
        exact (Mhni i1C (by omega) Chie).elim
    · skip
      refine (?_ : AJ G K Q (kc + 1) (ks + 6) false 296 740 [some (.ref bS), some (.ref (q_h G + 0)), some (.ref (q_h G + 279)), some (.ref (q_h G + 294)), some (.ref (q_h G + 295)), some (.int (nI (i))), none, none, none] [.int (nI (0))] σ_270)
      have hc_371 : σ_270 0 = o10 G (nI (il)) (z2) (z3) := (hf_274 0 (by decide)).trans hv0
      have hc_372 : σ_270 1 = q_an G 600 f := (hf_274 1 (by decide)).trans hv1
      have hc_373 : σ_270 23 = o5 G (23) (nI (lo)) := (hf_274 23 (by decide)).trans hv2
      have hc_374 : σ_270 24 = q_an G 256 o := (hf_274 24 (by decide)).trans hv3
      have hc_375 : σ_270 224 = q_rn G 2 2 (fun j => some (243 + 18 * j)) := (hf_274 224 (by decide)).trans hv4
      have hc_376 : σ_270 225 = q_bn G 2 kp := (hf_274 225 (by decide)).trans hv5
      have hc_377 : σ_270 279 = o11 G F := (hf_274 279 (by decide)).trans hv6
      have hc_378 : σ_270 280 = q_an G 265 g := (hf_274 280 (by decide)).trans hv7
      have hc_379 : σ_270 281 = q_an G 265 wk := (hf_274 281 (by decide)).trans hv8
      have hc_380 : σ_270 282 = q_an G 265 as := (hf_274 282 (by decide)).trans hv9
      have hc_381 : σ_270 283 = q_an G 530 sh := (hf_274 283 (by decide)).trans hv10
      have hc_382 : σ_270 284 = q_an G 2120 a := (hf_274 284 (by decide)).trans hv11
      have hc_383 : σ_270 285 = q_bn G 1681 fb := (hf_274 285 (by decide)).trans hv12
      have hc_384 : σ_270 286 = q_an G 1681 nv := (hf_274 286 (by decide)).trans hv13
      have hc_385 : σ_270 287 = q_an G 1681 ns := (hf_274 287 (by decide)).trans hv14
      have hc_386 : σ_270 288 = q_an G 2000 mk := (hf_274 288 (by decide)).trans hv15
      have hc_387 : σ_270 289 = q_an G 6724 va := (hf_274 289 (by decide)).trans hv16
      have hc_388 : σ_270 290 = q_an G 6724 sp := (hf_274 290 (by decide)).trans hv17
      have hc_389 : σ_270 291 = q_an G 80 lp := (hf_274 291 (by decide)).trans hv18
      have hc_390 : σ_270 292 = q_an G 600 f := (hf_274 292 (by decide)).trans hv19
      have hc_391 : σ_270 293 = q_an G 300 ou := (hf_274 293 (by decide)).trans hv20
      have hc_392 : σ_270 295 = q_dn G 1 oD := (hf_274 295 (by decide)).trans hv22
      refine A_istore hg dL_law_740 (by decide) (q_c1d rfl) ?_
      refine A_eq (ls2 := [some (.ref bS), some (.ref (q_h G + 0)), some (.ref (q_h G + 279)), some (.ref (q_h G + 294)), some (.ref (q_h G + 295)), some (.int (nI (i))), some (.int (nI (0))), none, none]) (st2 := []) (pc2 := 0) rfl rfl ?_
      refine A_aload_n hg dL_law_742 rfl rfl ?_
      refine A_aload_n hg dL_law_743 rfl rfl ?_
      refine A_iload hg dL_law_744 rfl ?_
      refine A_iconst (v := (nI (1))) hg dL_law_746 (by decide) ?_
      refine A_iaddN hg dL_law_747 ?_
      refine A_sld hg hX (i + 1) (by omega) dL_law_748 ?_
      refine A_aload_n hg dL_law_749 rfl rfl ?_
      refine A_iload hg dL_law_750 rfl ?_
      refine A_iconst (v := (nI (2))) hg dL_law_752 (by decide) ?_
      refine A_iaddN hg dL_law_753 ?_
      refine A_sld hg hX (i + 2) (by omega) dL_law_754 ?_
      refine A_aload_n hg dL_law_755 rfl rfl ?_
      refine A_iload hg dL_law_756 rfl ?_
      refine A_iconst (v := (nI (3))) hg dL_law_758 (by decide) ?_
      refine A_iaddN hg dL_law_759 ?_
      refine A_sld hg hX (i + 3) (by omega) dL_law_760 ?_
      refine A_if_eq (tgt := 768) hg dL_law_761 (by decide) (fun z9 => absurd z9 c728) (fun _ => ?_)
      refine A_iconst (v := (nI (1))) hg dL_law_764 (by decide) ?_
      refine A_goto (tgt := 769) hg dL_law_765 (by decide) ?_
      refine A_hV (kc2 := kc + 1) (ks2 := ks + 6) (As := [.int (xs (i + 1)), .int (xs (i + 2)), .int (nI (1))]) (rest := []) hg lk_RL_189 in_X11_barred se_X11_barred rfl dL_law_769 ⟨by decide, by decide⟩ rfl rfl (hfK 1 6 (by decide) (by decide)) hc_377 (by omega) rfl rfl (Nat.le_of_ble_eq_true rfl) (c_X11_barred G false 296 σ_270 F g (xs (i + 1)) (xs (i + 2)) true hc_377 hc_378 (by omega) hg9) ?_
      rintro _ σ_399 (⟨rfl, Mhno, hc_393, hf_394⟩ | ⟨r1M, i1M, rfl, Mhre, Mhrl, Mhie, Mhil, hc_395, hf_396⟩ | ⟨r1M, rfl, Mhre, Mhrl, Mhni, hc_397, hf_398⟩)
      · skip
        refine (?_ : AJ G K Q (kc + 1) (ks + 6) false 296 772 [some (.ref bS), some (.ref (q_h G + 0)), some (.ref (q_h G + 279)), some (.ref (q_h G + 294)), some (.ref (q_h G + 295)), some (.int (nI (i))), some (.int (nI (0))), none, none] [.int (nI (0))] σ_399)
        have hc_393 : σ_399 279 = o11 G (upd F 7 (nI (1))) := hc_393
        have hc_400 : σ_399 0 = o10 G (nI (il)) (z2) (z3) := (hf_394 0 (by decide)).trans hc_371
        have hc_401 : σ_399 1 = q_an G 600 f := (hf_394 1 (by decide)).trans hc_372
        have hc_402 : σ_399 23 = o5 G (23) (nI (lo)) := (hf_394 23 (by decide)).trans hc_373
        have hc_403 : σ_399 24 = q_an G 256 o := (hf_394 24 (by decide)).trans hc_374
        have hc_404 : σ_399 224 = q_rn G 2 2 (fun j => some (243 + 18 * j)) := (hf_394 224 (by decide)).trans hc_375
        have hc_405 : σ_399 225 = q_bn G 2 kp := (hf_394 225 (by decide)).trans hc_376
        have hc_406 : σ_399 280 = q_an G 265 g := (hf_394 280 (by decide)).trans hc_378
        have hc_407 : σ_399 281 = q_an G 265 wk := (hf_394 281 (by decide)).trans hc_379
        have hc_408 : σ_399 282 = q_an G 265 as := (hf_394 282 (by decide)).trans hc_380
        have hc_409 : σ_399 283 = q_an G 530 sh := (hf_394 283 (by decide)).trans hc_381
        have hc_410 : σ_399 284 = q_an G 2120 a := (hf_394 284 (by decide)).trans hc_382
        have hc_411 : σ_399 285 = q_bn G 1681 fb := (hf_394 285 (by decide)).trans hc_383
        have hc_412 : σ_399 286 = q_an G 1681 nv := (hf_394 286 (by decide)).trans hc_384
        have hc_413 : σ_399 287 = q_an G 1681 ns := (hf_394 287 (by decide)).trans hc_385
        have hc_414 : σ_399 288 = q_an G 2000 mk := (hf_394 288 (by decide)).trans hc_386
        have hc_415 : σ_399 289 = q_an G 6724 va := (hf_394 289 (by decide)).trans hc_387
        have hc_416 : σ_399 290 = q_an G 6724 sp := (hf_394 290 (by decide)).trans hc_388
        have hc_417 : σ_399 291 = q_an G 80 lp := (hf_394 291 (by decide)).trans hc_389
        have hc_418 : σ_399 292 = q_an G 600 f := (hf_394 292 (by decide)).trans hc_390
        have hc_419 : σ_399 293 = q_an G 300 ou := (hf_394 293 (by decide)).trans hc_391
        have hc_420 : σ_399 295 = q_dn G 1 oD := (hf_394 295 (by decide)).trans hc_392
        have hc_421 : σ_399 294 = q_ln G 1 (va_up oL 0 ((q_d (0)).toInt64)) := (hf_394 294 (by decide)).trans hc_273
        exact (Mhno r1C (by omega) Chre).elim
      · skip
        refine (?_ : AJ G K Q (kc + 1) (ks + 6) false 296 772 [some (.ref bS), some (.ref (q_h G + 0)), some (.ref (q_h G + 279)), some (.ref (q_h G + 294)), some (.ref (q_h G + 295)), some (.int (nI (i))), some (.int (nI (0))), none, none] [.int (nI (s_rule g r1M (21 + 2 * i1M + (if true = true then 1 else 0))))] σ_399)
        have hc_395 : σ_399 279 = o11 G (upd F 7 (nI (0))) := hc_395
        have hc_422 : σ_399 0 = o10 G (nI (il)) (z2) (z3) := (hf_396 0 (by decide)).trans hc_371
        have hc_423 : σ_399 1 = q_an G 600 f := (hf_396 1 (by decide)).trans hc_372
        have hc_424 : σ_399 23 = o5 G (23) (nI (lo)) := (hf_396 23 (by decide)).trans hc_373
        have hc_425 : σ_399 24 = q_an G 256 o := (hf_396 24 (by decide)).trans hc_374
        have hc_426 : σ_399 224 = q_rn G 2 2 (fun j => some (243 + 18 * j)) := (hf_396 224 (by decide)).trans hc_375
        have hc_427 : σ_399 225 = q_bn G 2 kp := (hf_396 225 (by decide)).trans hc_376
        have hc_428 : σ_399 280 = q_an G 265 g := (hf_396 280 (by decide)).trans hc_378
        have hc_429 : σ_399 281 = q_an G 265 wk := (hf_396 281 (by decide)).trans hc_379
        have hc_430 : σ_399 282 = q_an G 265 as := (hf_396 282 (by decide)).trans hc_380
        have hc_431 : σ_399 283 = q_an G 530 sh := (hf_396 283 (by decide)).trans hc_381
        have hc_432 : σ_399 284 = q_an G 2120 a := (hf_396 284 (by decide)).trans hc_382
        have hc_433 : σ_399 285 = q_bn G 1681 fb := (hf_396 285 (by decide)).trans hc_383
        have hc_434 : σ_399 286 = q_an G 1681 nv := (hf_396 286 (by decide)).trans hc_384
        have hc_435 : σ_399 287 = q_an G 1681 ns := (hf_396 287 (by decide)).trans hc_385
        have hc_436 : σ_399 288 = q_an G 2000 mk := (hf_396 288 (by decide)).trans hc_386
        have hc_437 : σ_399 289 = q_an G 6724 va := (hf_396 289 (by decide)).trans hc_387
        have hc_438 : σ_399 290 = q_an G 6724 sp := (hf_396 290 (by decide)).trans hc_388
        have hc_439 : σ_399 291 = q_an G 80 lp := (hf_396 291 (by decide)).trans hc_389
        have hc_440 : σ_399 292 = q_an G 600 f := (hf_396 292 (by decide)).trans hc_390
        have hc_441 : σ_399 293 = q_an G 300 ou := (hf_396 293 (by decide)).trans hc_391
        have hc_442 : σ_399 295 = q_dn G 1 oD := (hf_396 295 (by decide)).trans hc_392
        have hc_443 : σ_399 294 = q_ln G 1 (va_up oL 0 ((q_d (0)).toInt64)) := (hf_396 294 (by decide)).trans hc_273
        have hub_i1M := (hg9.2.2.2.2.2.1 r1M Mhrl).2.2.2.2.1
        have e_r : r1C = r1M := q_nI_inj (by omega) (by omega) (Chre.symm.trans Mhre)
        subst e_r
        exact (Chni i1M (by omega) Mhie).elim
      · skip
        refine (?_ : AJ G K Q (kc + 1) (ks + 6) false 296 772 [some (.ref bS), some (.ref (q_h G + 0)), some (.ref (q_h G + 279)), some (.ref (q_h G + 294)), some (.ref (q_h G + 295)), some (.int (nI (i))), some (.int (nI (0))), none, none] [.int (q_d (0))] σ_399)
        have hc_397 : σ_399 279 = o11 G (upd F 7 (nI (0))) := hc_397
        have hc_444 : σ_399 0 = o10 G (nI (il)) (z2) (z3) := (hf_398 0 (by decide)).trans hc_371
        have hc_445 : σ_399 1 = q_an G 600 f := (hf_398 1 (by decide)).trans hc_372
        have hc_446 : σ_399 23 = o5 G (23) (nI (lo)) := (hf_398 23 (by decide)).trans hc_373
        have hc_447 : σ_399 24 = q_an G 256 o := (hf_398 24 (by decide)).trans hc_374
        have hc_448 : σ_399 224 = q_rn G 2 2 (fun j => some (243 + 18 * j)) := (hf_398 224 (by decide)).trans hc_375
        have hc_449 : σ_399 225 = q_bn G 2 kp := (hf_398 225 (by decide)).trans hc_376
        have hc_450 : σ_399 280 = q_an G 265 g := (hf_398 280 (by decide)).trans hc_378
        have hc_451 : σ_399 281 = q_an G 265 wk := (hf_398 281 (by decide)).trans hc_379
        have hc_452 : σ_399 282 = q_an G 265 as := (hf_398 282 (by decide)).trans hc_380
        have hc_453 : σ_399 283 = q_an G 530 sh := (hf_398 283 (by decide)).trans hc_381
        have hc_454 : σ_399 284 = q_an G 2120 a := (hf_398 284 (by decide)).trans hc_382
        have hc_455 : σ_399 285 = q_bn G 1681 fb := (hf_398 285 (by decide)).trans hc_383
        have hc_456 : σ_399 286 = q_an G 1681 nv := (hf_398 286 (by decide)).trans hc_384
        have hc_457 : σ_399 287 = q_an G 1681 ns := (hf_398 287 (by decide)).trans hc_385
        have hc_458 : σ_399 288 = q_an G 2000 mk := (hf_398 288 (by decide)).trans hc_386
        have hc_459 : σ_399 289 = q_an G 6724 va := (hf_398 289 (by decide)).trans hc_387
        have hc_460 : σ_399 290 = q_an G 6724 sp := (hf_398 290 (by decide)).trans hc_388
        have hc_461 : σ_399 291 = q_an G 80 lp := (hf_398 291 (by decide)).trans hc_389
        have hc_462 : σ_399 292 = q_an G 600 f := (hf_398 292 (by decide)).trans hc_390
        have hc_463 : σ_399 293 = q_an G 300 ou := (hf_398 293 (by decide)).trans hc_391
        have hc_464 : σ_399 295 = q_dn G 1 oD := (hf_398 295 (by decide)).trans hc_392
        have hc_465 : σ_399 294 = q_ln G 1 (va_up oL 0 ((q_d (0)).toInt64)) := (hf_398 294 (by decide)).trans hc_273
        have e_r : r1C = r1M := q_nI_inj (by omega) (by omega) (Chre.symm.trans Mhre)
        subst e_r
        refine A_istore hg dL_law_772 (by decide) (q_c1d rfl) ?_
        refine A_eq (ls2 := [some (.ref bS), some (.ref (q_h G + 0)), some (.ref (q_h G + 279)), some (.ref (q_h G + 294)), some (.ref (q_h G + 295)), some (.int (nI (i))), some (.int (nI (0))), some (.int (q_d (0))), none]) (st2 := []) (pc2 := 0) rfl rfl ?_
        refine A_aload_n hg dL_law_774 rfl rfl ?_
        refine A_eV (kc2 := kc + 1) (ks2 := ks + 6) (As := []) (rest := []) hg lk_RL_170 in_X11_thrown se_X11_thrown rfl dL_law_775 ⟨by decide, by decide⟩ rfl rfl (hfK 1 6 (by decide) (by decide)) hc_397 (by omega) rfl rfl (Nat.le_of_ble_eq_true rfl) (c_X11_thrown G false 296 σ_399 (upd F 7 (nI (0))) hc_397 (by omega)) ?_
        refine A_top (w := .int (nI (0))) (congrArg Value.int rfl) ?_
        refine A_iload hg dL_law_778 rfl ?_
        refine A_icmp_eqN (tgt := 785) hg dL_law_780 (by decide) (by decide) (by decide) (fun c780 => ?_) (fun c780 => False.elim (by omega))
        refine A_iload hg dL_law_785 rfl ?_
        refine A_if_neN (tgt := 802) hg dL_law_787 (by decide) (by decide) (fun c787 => absurd (by decide) c787) (fun c787 => ?_)
        refine A_aload_n hg dL_law_790 rfl rfl ?_
        refine A_iconst (v := (nI (0))) hg dL_law_791 (by decide) ?_
        refine A_lald (j := 0) hg dL_law_792 hc_465 (by omega) (by decide) (by decide) ?_
        refine A_top (w := .long ((q_d (0)).toInt64)) (congrArg Value.long iv_up0) ?_
        refine A_iload hg dL_law_793 rfl ?_
        refine A_i2l (v := (q_d (0)).toInt64) hg dL_law_795 rfl ?_
        refine A_lcmp hg dL_law_796 ?_
        refine A_top (w := .int (nI 0)) (congrArg Value.int (lc_self _)) ?_
        refine A_if_eqN (tgt := 802) hg dL_law_797 (by decide) (by decide) (fun c797 => ?_) (fun c797 => absurd (by decide) c797)
        refine A_goto (tgt := 3062) hg dL_law_802 (by decide) ?_
        refine A_drop 6 ?_
        refine A_drop 7 ?_
        refine A_eq (ls2 := [some (.ref bS), some (.ref (q_h G + 0)), some (.ref (q_h G + 279)), some (.ref (q_h G + 294)), some (.ref (q_h G + 295)), some (.int (nI (i))), none, none, none]) (st2 := []) (pc2 := 0) rfl rfl ?_
        refine A_wide (kc2 := kc + 8) (ks2 := ks + 48) (by omega) (by omega) ?_
        exact hnxt _ (iv_mk il z2 z3 f lo o g nx m ps kp sn (upd F 7 (nI (0))) wk as sh a fb nv ns mk va sp lp mc z ss ou (va_up oL 0 ((q_d (0)).toInt64)) oD hc_444 hc_445 hc_446 hc_447 hc_448 hc_449 hc_397 hc_450 hc_451 hc_452 hc_453 hc_454 hc_455 hc_456 hc_457 hc_458 hc_459 hc_460 hc_461 hc_462 hc_463 hc_465 hc_464 (x_lj_e (fun i _ _ => ((hf_398 i (by omega)).trans (hf_274 i (by omega)))) hL) (x_gm_e (fun i _ _ => ((hf_398 i (by omega)).trans (hf_274 i (by omega)))) hG) (x_mx_e (fun i _ _ => ((hf_398 i (by omega)).trans (hf_274 i (by omega)))) hM) (x_hi_e (fun i _ _ => ((hf_398 i (by omega)).trans (hf_274 i (by omega)))) hHi) (x_oj_e (fun i _ _ => ((hf_398 i (by omega)).trans (hf_274 i (by omega)))) hO) (x_pj_e (fun i _ _ => ((hf_398 i (by omega)).trans (hf_274 i (by omega)))) hT) (iv_hn (fun i _ _ => ((hf_398 i (by omega)).trans (hf_274 i (by omega)))) hH) (iv_Sn (fun i _ _ => ((hf_398 i (by omega)).trans (hf_274 i (by omega)))) hSn) (iv_Kp (fun i _ _ => ((hf_398 i (by omega)).trans (hf_274 i (by omega)))) hKp) (by omega) hfb (by omega) hou hgd hps hk1 hkss hss hsn hF5 hF6 hF12 hF16 hF21 hF22 hF23 hF33 (by omega) hmk hTI hlo)
    · skip
      rw [he_275]
      refine (?_ : AJ G K Q (kc + 1) (ks + 6) false 296 740 [some (.ref bS), some (.ref (q_h G + 0)), some (.ref (q_h G + 279)), some (.ref (q_h G + 294)), some (.ref (q_h G + 295)), some (.int (nI (i))), none, none, none] [.int (nI (1))] σ)
      refine A_istore hg dL_law_740 (by decide) (q_c1d rfl) ?_
      refine A_eq (ls2 := [some (.ref bS), some (.ref (q_h G + 0)), some (.ref (q_h G + 279)), some (.ref (q_h G + 294)), some (.ref (q_h G + 295)), some (.int (nI (i))), some (.int (nI (1))), none, none]) (st2 := []) (pc2 := 0) rfl rfl ?_
      refine A_aload_n hg dL_law_742 rfl rfl ?_
      refine A_aload_n hg dL_law_743 rfl rfl ?_
      refine A_iload hg dL_law_744 rfl ?_
      refine A_iconst (v := (nI (1))) hg dL_law_746 (by decide) ?_
      refine A_iaddN hg dL_law_747 ?_
      refine A_sld hg hX (i + 1) (by omega) dL_law_748 ?_
      refine A_aload_n hg dL_law_749 rfl rfl ?_
      refine A_iload hg dL_law_750 rfl ?_
      refine A_iconst (v := (nI (2))) hg dL_law_752 (by decide) ?_
      refine A_iaddN hg dL_law_753 ?_
      refine A_sld hg hX (i + 2) (by omega) dL_law_754 ?_
      refine A_aload_n hg dL_law_755 rfl rfl ?_
      refine A_iload hg dL_law_756 rfl ?_
      refine A_iconst (v := (nI (3))) hg dL_law_758 (by decide) ?_
      refine A_iaddN hg dL_law_759 ?_
      refine A_sld hg hX (i + 3) (by omega) dL_law_760 ?_
      refine A_if_eq (tgt := 768) hg dL_law_761 (by decide) (fun z9 => absurd z9 c728) (fun _ => ?_)
      refine A_iconst (v := (nI (1))) hg dL_law_764 (by decide) ?_
      refine A_goto (tgt := 769) hg dL_law_765 (by decide) ?_
      refine A_hV (kc2 := kc + 1) (ks2 := ks + 6) (As := [.int (xs (i + 1)), .int (xs (i + 2)), .int (nI (1))]) (rest := []) hg lk_RL_189 in_X11_barred se_X11_barred rfl dL_law_769 ⟨by decide, by decide⟩ rfl rfl (hfK 1 6 (by decide) (by decide)) hv6 (by omega) rfl rfl (Nat.le_of_ble_eq_true rfl) (c_X11_barred G false 296 σ F g (xs (i + 1)) (xs (i + 2)) true hv6 hv7 (by omega) hg9) ?_
      rintro _ σ_472 (⟨rfl, Mhno, hc_466, hf_467⟩ | ⟨r1M, i1M, rfl, Mhre, Mhrl, Mhie, Mhil, hc_468, hf_469⟩ | ⟨r1M, rfl, Mhre, Mhrl, Mhni, hc_470, hf_471⟩)
      · skip
        refine (?_ : AJ G K Q (kc + 1) (ks + 6) false 296 772 [some (.ref bS), some (.ref (q_h G + 0)), some (.ref (q_h G + 279)), some (.ref (q_h G + 294)), some (.ref (q_h G + 295)), some (.int (nI (i))), some (.int (nI (1))), none, none] [.int (nI (0))] σ_472)
        have hc_466 : σ_472 279 = o11 G (upd F 7 (nI (1))) := hc_466
        have hc_473 : σ_472 0 = o10 G (nI (il)) (z2) (z3) := (hf_467 0 (by decide)).trans hv0
        have hc_474 : σ_472 1 = q_an G 600 f := (hf_467 1 (by decide)).trans hv1
        have hc_475 : σ_472 23 = o5 G (23) (nI (lo)) := (hf_467 23 (by decide)).trans hv2
        have hc_476 : σ_472 24 = q_an G 256 o := (hf_467 24 (by decide)).trans hv3
        have hc_477 : σ_472 224 = q_rn G 2 2 (fun j => some (243 + 18 * j)) := (hf_467 224 (by decide)).trans hv4
        have hc_478 : σ_472 225 = q_bn G 2 kp := (hf_467 225 (by decide)).trans hv5
        have hc_479 : σ_472 280 = q_an G 265 g := (hf_467 280 (by decide)).trans hv7
        have hc_480 : σ_472 281 = q_an G 265 wk := (hf_467 281 (by decide)).trans hv8
        have hc_481 : σ_472 282 = q_an G 265 as := (hf_467 282 (by decide)).trans hv9
        have hc_482 : σ_472 283 = q_an G 530 sh := (hf_467 283 (by decide)).trans hv10
        have hc_483 : σ_472 284 = q_an G 2120 a := (hf_467 284 (by decide)).trans hv11
        have hc_484 : σ_472 285 = q_bn G 1681 fb := (hf_467 285 (by decide)).trans hv12
        have hc_485 : σ_472 286 = q_an G 1681 nv := (hf_467 286 (by decide)).trans hv13
        have hc_486 : σ_472 287 = q_an G 1681 ns := (hf_467 287 (by decide)).trans hv14
        have hc_487 : σ_472 288 = q_an G 2000 mk := (hf_467 288 (by decide)).trans hv15
        have hc_488 : σ_472 289 = q_an G 6724 va := (hf_467 289 (by decide)).trans hv16
        have hc_489 : σ_472 290 = q_an G 6724 sp := (hf_467 290 (by decide)).trans hv17
        have hc_490 : σ_472 291 = q_an G 80 lp := (hf_467 291 (by decide)).trans hv18
        have hc_491 : σ_472 292 = q_an G 600 f := (hf_467 292 (by decide)).trans hv19
        have hc_492 : σ_472 293 = q_an G 300 ou := (hf_467 293 (by decide)).trans hv20
        have hc_493 : σ_472 294 = q_ln G 1 oL := (hf_467 294 (by decide)).trans hv21
        have hc_494 : σ_472 295 = q_dn G 1 oD := (hf_467 295 (by decide)).trans hv22
        refine A_istore hg dL_law_772 (by decide) (q_c1d rfl) ?_
        refine A_eq (ls2 := [some (.ref bS), some (.ref (q_h G + 0)), some (.ref (q_h G + 279)), some (.ref (q_h G + 294)), some (.ref (q_h G + 295)), some (.int (nI (i))), some (.int (nI (1))), some (.int (nI (0))), none]) (st2 := []) (pc2 := 0) rfl rfl ?_
        refine A_aload_n hg dL_law_774 rfl rfl ?_
        refine A_eV (kc2 := kc + 1) (ks2 := ks + 6) (As := []) (rest := []) hg lk_RL_170 in_X11_thrown se_X11_thrown rfl dL_law_775 ⟨by decide, by decide⟩ rfl rfl (hfK 1 6 (by decide) (by decide)) hc_466 (by omega) rfl rfl (Nat.le_of_ble_eq_true rfl) (c_X11_thrown G false 296 σ_472 (upd F 7 (nI (1))) hc_466 (by omega)) ?_
        refine A_top (w := .int (nI (1))) (congrArg Value.int rfl) ?_
        refine A_iload hg dL_law_778 rfl ?_
        refine A_icmp_eqN (tgt := 785) hg dL_law_780 (by decide) (by decide) (by decide) (fun c780 => ?_) (fun c780 => False.elim (by omega))
        refine A_iload hg dL_law_785 rfl ?_
        refine A_if_neN (tgt := 802) hg dL_law_787 (by decide) (by decide) (fun c787 => ?_) (fun c787 => absurd c787 (by decide))
        refine A_goto (tgt := 3062) hg dL_law_802 (by decide) ?_
        refine A_drop 6 ?_
        refine A_drop 7 ?_
        refine A_eq (ls2 := [some (.ref bS), some (.ref (q_h G + 0)), some (.ref (q_h G + 279)), some (.ref (q_h G + 294)), some (.ref (q_h G + 295)), some (.int (nI (i))), none, none, none]) (st2 := []) (pc2 := 0) rfl rfl ?_
        refine A_wide (kc2 := kc + 8) (ks2 := ks + 48) (by omega) (by omega) ?_
        exact hnxt _ (iv_mk il z2 z3 f lo o g nx m ps kp sn (upd F 7 (nI (1))) wk as sh a fb nv ns mk va sp lp mc z ss ou oL oD hc_473 hc_474 hc_475 hc_476 hc_477 hc_478 hc_466 hc_479 hc_480 hc_481 hc_482 hc_483 hc_484 hc_485 hc_486 hc_487 hc_488 hc_489 hc_490 hc_491 hc_492 hc_493 hc_494 (x_lj_e (fun i _ _ => (hf_467 i (by omega))) hL) (x_gm_e (fun i _ _ => (hf_467 i (by omega))) hG) (x_mx_e (fun i _ _ => (hf_467 i (by omega))) hM) (x_hi_e (fun i _ _ => (hf_467 i (by omega))) hHi) (x_oj_e (fun i _ _ => (hf_467 i (by omega))) hO) (x_pj_e (fun i _ _ => (hf_467 i (by omega))) hT) (iv_hn (fun i _ _ => (hf_467 i (by omega))) hH) (iv_Sn (fun i _ _ => (hf_467 i (by omega))) hSn) (iv_Kp (fun i _ _ => (hf_467 i (by omega))) hKp) (by omega) hfb (by omega) hou hgd hps hk1 hkss hss hsn hF5 hF6 hF12 hF16 hF21 hF22 hF23 hF33 (by omega) hmk hTI hlo)
      · skip
        refine (?_ : AJ G K Q (kc + 1) (ks + 6) false 296 772 [some (.ref bS), some (.ref (q_h G + 0)), some (.ref (q_h G + 279)), some (.ref (q_h G + 294)), some (.ref (q_h G + 295)), some (.int (nI (i))), some (.int (nI (1))), none, none] [.int (nI (s_rule g r1M (21 + 2 * i1M + (if true = true then 1 else 0))))] σ_472)
        have hc_468 : σ_472 279 = o11 G (upd F 7 (nI (0))) := hc_468
        have hc_495 : σ_472 0 = o10 G (nI (il)) (z2) (z3) := (hf_469 0 (by decide)).trans hv0
        have hc_496 : σ_472 1 = q_an G 600 f := (hf_469 1 (by decide)).trans hv1
        have hc_497 : σ_472 23 = o5 G (23) (nI (lo)) := (hf_469 23 (by decide)).trans hv2
        have hc_498 : σ_472 24 = q_an G 256 o := (hf_469 24 (by decide)).trans hv3
        have hc_499 : σ_472 224 = q_rn G 2 2 (fun j => some (243 + 18 * j)) := (hf_469 224 (by decide)).trans hv4
        have hc_500 : σ_472 225 = q_bn G 2 kp := (hf_469 225 (by decide)).trans hv5
        have hc_501 : σ_472 280 = q_an G 265 g := (hf_469 280 (by decide)).trans hv7
        have hc_502 : σ_472 281 = q_an G 265 wk := (hf_469 281 (by decide)).trans hv8
        have hc_503 : σ_472 282 = q_an G 265 as := (hf_469 282 (by decide)).trans hv9
        have hc_504 : σ_472 283 = q_an G 530 sh := (hf_469 283 (by decide)).trans hv10
        have hc_505 : σ_472 284 = q_an G 2120 a := (hf_469 284 (by decide)).trans hv11
        have hc_506 : σ_472 285 = q_bn G 1681 fb := (hf_469 285 (by decide)).trans hv12
        have hc_507 : σ_472 286 = q_an G 1681 nv := (hf_469 286 (by decide)).trans hv13
        have hc_508 : σ_472 287 = q_an G 1681 ns := (hf_469 287 (by decide)).trans hv14
        have hc_509 : σ_472 288 = q_an G 2000 mk := (hf_469 288 (by decide)).trans hv15
        have hc_510 : σ_472 289 = q_an G 6724 va := (hf_469 289 (by decide)).trans hv16
        have hc_511 : σ_472 290 = q_an G 6724 sp := (hf_469 290 (by decide)).trans hv17
        have hc_512 : σ_472 291 = q_an G 80 lp := (hf_469 291 (by decide)).trans hv18
        have hc_513 : σ_472 292 = q_an G 600 f := (hf_469 292 (by decide)).trans hv19
        have hc_514 : σ_472 293 = q_an G 300 ou := (hf_469 293 (by decide)).trans hv20
        have hc_515 : σ_472 294 = q_ln G 1 oL := (hf_469 294 (by decide)).trans hv21
        have hc_516 : σ_472 295 = q_dn G 1 oD := (hf_469 295 (by decide)).trans hv22
        have hub_i1M := (hg9.2.2.2.2.2.1 r1M Mhrl).2.2.2.2.1
        exact (Chxx r1M (by omega) Mhre).elim
      · skip
        refine (?_ : AJ G K Q (kc + 1) (ks + 6) false 296 772 [some (.ref bS), some (.ref (q_h G + 0)), some (.ref (q_h G + 279)), some (.ref (q_h G + 294)), some (.ref (q_h G + 295)), some (.int (nI (i))), some (.int (nI (1))), none, none] [.int (q_d (0))] σ_472)
        have hc_470 : σ_472 279 = o11 G (upd F 7 (nI (0))) := hc_470
        have hc_517 : σ_472 0 = o10 G (nI (il)) (z2) (z3) := (hf_471 0 (by decide)).trans hv0
        have hc_518 : σ_472 1 = q_an G 600 f := (hf_471 1 (by decide)).trans hv1
        have hc_519 : σ_472 23 = o5 G (23) (nI (lo)) := (hf_471 23 (by decide)).trans hv2
        have hc_520 : σ_472 24 = q_an G 256 o := (hf_471 24 (by decide)).trans hv3
        have hc_521 : σ_472 224 = q_rn G 2 2 (fun j => some (243 + 18 * j)) := (hf_471 224 (by decide)).trans hv4
        have hc_522 : σ_472 225 = q_bn G 2 kp := (hf_471 225 (by decide)).trans hv5
        have hc_523 : σ_472 280 = q_an G 265 g := (hf_471 280 (by decide)).trans hv7
        have hc_524 : σ_472 281 = q_an G 265 wk := (hf_471 281 (by decide)).trans hv8
        have hc_525 : σ_472 282 = q_an G 265 as := (hf_471 282 (by decide)).trans hv9
        have hc_526 : σ_472 283 = q_an G 530 sh := (hf_471 283 (by decide)).trans hv10
        have hc_527 : σ_472 284 = q_an G 2120 a := (hf_471 284 (by decide)).trans hv11
        have hc_528 : σ_472 285 = q_bn G 1681 fb := (hf_471 285 (by decide)).trans hv12
        have hc_529 : σ_472 286 = q_an G 1681 nv := (hf_471 286 (by decide)).trans hv13
        have hc_530 : σ_472 287 = q_an G 1681 ns := (hf_471 287 (by decide)).trans hv14
        have hc_531 : σ_472 288 = q_an G 2000 mk := (hf_471 288 (by decide)).trans hv15
        have hc_532 : σ_472 289 = q_an G 6724 va := (hf_471 289 (by decide)).trans hv16
        have hc_533 : σ_472 290 = q_an G 6724 sp := (hf_471 290 (by decide)).trans hv17
        have hc_534 : σ_472 291 = q_an G 80 lp := (hf_471 291 (by decide)).trans hv18
        have hc_535 : σ_472 292 = q_an G 600 f := (hf_471 292 (by decide)).trans hv19
        have hc_536 : σ_472 293 = q_an G 300 ou := (hf_471 293 (by decide)).trans hv20
        have hc_537 : σ_472 294 = q_ln G 1 oL := (hf_471 294 (by decide)).trans hv21
        have hc_538 : σ_472 295 = q_dn G 1 oD := (hf_471 295 (by decide)).trans hv22
        exact (Chxx r1M (by omega) Mhre).elim
set_option maxRecDepth 100000 in
set_option maxHeartbeats 4000000 in
theorem law_c11 (G : GL) (K : KC) (Q : State → Prop) (hh : List (Nat × Nat × Nat × Nat)) (hg : Gd G K RL code 9 ret room_1 hh) (bS L : Nat) (xs : Nat → Int32) (hX : q_scr G K bS L xs) (i kc ks J : Nat) (hi : i + 5 < L) (hL31 : L < 2 ^ 31) (hkc : kc + 8 ≤ 601024) (hks : ks + 48 ≤ 7293034) (σ : Nat → va_E) (hI : iv G σ J) (hJ : J < 512) (hfd : q_fdn) (hdd : q_ddn) (hf2 : q_f2n) (hds : q_dcs) (hnxt : ∀ σ9 : Nat → va_E, iv G σ9 (J + 1) → AJ G K Q (kc + 8) (ks + 48) false 296 3062 [some (.ref bS), some (.ref (q_h G + 0)), some (.ref (q_h G + 279)), some (.ref (q_h G + 294)), some (.ref (q_h G + 295)), some (.int (nI (i))), none, none, none] [] σ9) : AJ G K Q kc ks false 296 805 [some (.ref bS), some (.ref (q_h G + 0)), some (.ref (q_h G + 279)), some (.ref (q_h G + 294)), some (.ref (q_h G + 295)), some (.int (nI (i))), none, none, none] [] σ := by
  refine iv_el hI ?_
  intro il z2 z3 f lo o g nx m ps kp sn F wk as sh a fb nv ns mk va sp lp mc z ss ou oL oD
  intro hv0 hv1 hv2 hv3 hv4 hv5 hv6 hv7 hv8 hv9 hv10 hv11 hv12 hv13 hv14 hv15 hv16 hv17 hv18 hv19 hv20 hv21 hv22
  intro hL hG hM hHi hO hT hH hSn hKp
  intro hil hfb hlo2 hou hgd hps hk1 hkss hss hsn hF5 hF6 hF12 hF16 hF21 hF22 hF23 hF33 hmc hmk hTI hlo
  have hfK : ∀ a b : Nat, a ≤ 8 → b ≤ 48 → kc + a ≤ room_1.cells ∧ ks + b ≤ room_1.slots := fun a b h1 h2 => ⟨by show kc + a ≤ 601024; omega, by show ks + b ≤ 7293034; omega⟩
  have hg9 := iv_g hG
  obtain ⟨hnx8, hm8, hc78⟩ := iv_hi hHi
  have hbb := iv_byte (m := il) hfb
  have hg90 := hg9.1
  have hg96 := hg9.2.2.2.2.1
  have hnp8 := s_np_le hg9
  refine A_aload_n hg dL_law_805 rfl rfl ?_
  refine A_aload_n hg dL_law_806 rfl rfl ?_
  refine A_iload hg dL_law_807 rfl ?_
  refine A_iconst (v := (nI (1))) hg dL_law_809 (by decide) ?_
  refine A_iaddN hg dL_law_810 ?_
  refine A_sld hg hX (i + 1) (by omega) dL_law_811 ?_
  refine A_aload_n hg dL_law_812 rfl rfl ?_
  refine A_iload hg dL_law_813 rfl ?_
  refine A_iconst (v := (nI (2))) hg dL_law_815 (by decide) ?_
  refine A_iaddN hg dL_law_816 ?_
  refine A_sld hg hX (i + 2) (by omega) dL_law_817 ?_
  refine A_aload_n hg dL_law_818 rfl rfl ?_
  refine A_callSH (As := [.ref (q_h G + 0), .int (xs (i + 1)), .int (xs (i + 2)), .ref (q_h G + 294)]) (rest := []) hg lkH_190 stH_L_ruleLetter dL_law_819 ⟨by decide, by decide⟩ (hfK 1 6 (by decide) (by decide)) rfl rfl (Nat.le_of_ble_eq_true rfl) (c_L_ruleLetter G 296 σ (nI (il)) z2 z3 g (xs (i + 1)) (xs (i + 2)) oL hv0 hv21 (by omega) hG (by omega)) ?_
  rintro _ σ_1 (⟨r1C, i1C, rfl, Chre, Chrl, Chie, Chil, hc_2, hf_3⟩ | ⟨r1C, rfl, Chre, Chrl, Chni, hc_4, hf_5⟩ | ⟨rfl, Chxx, he_6⟩)
  · skip
    refine (?_ : AJ G K Q (kc + 1) (ks + 6) false 296 822 [some (.ref bS), some (.ref (q_h G + 0)), some (.ref (q_h G + 279)), some (.ref (q_h G + 294)), some (.ref (q_h G + 295)), some (.int (nI (i))), none, none, none] [.int (nI (0))] σ_1)
    have hc_7 : σ_1 0 = o10 G (nI (il)) (z2) (z3) := (hf_3 0 (by decide)).trans hv0
    have hc_8 : σ_1 1 = q_an G 600 f := (hf_3 1 (by decide)).trans hv1
    have hc_9 : σ_1 23 = o5 G (23) (nI (lo)) := (hf_3 23 (by decide)).trans hv2
    have hc_10 : σ_1 24 = q_an G 256 o := (hf_3 24 (by decide)).trans hv3
    have hc_11 : σ_1 224 = q_rn G 2 2 (fun j => some (243 + 18 * j)) := (hf_3 224 (by decide)).trans hv4
    have hc_12 : σ_1 225 = q_bn G 2 kp := (hf_3 225 (by decide)).trans hv5
    have hc_13 : σ_1 279 = o11 G F := (hf_3 279 (by decide)).trans hv6
    have hc_14 : σ_1 280 = q_an G 265 g := (hf_3 280 (by decide)).trans hv7
    have hc_15 : σ_1 281 = q_an G 265 wk := (hf_3 281 (by decide)).trans hv8
    have hc_16 : σ_1 282 = q_an G 265 as := (hf_3 282 (by decide)).trans hv9
    have hc_17 : σ_1 283 = q_an G 530 sh := (hf_3 283 (by decide)).trans hv10
    have hc_18 : σ_1 284 = q_an G 2120 a := (hf_3 284 (by decide)).trans hv11
    have hc_19 : σ_1 285 = q_bn G 1681 fb := (hf_3 285 (by decide)).trans hv12
    have hc_20 : σ_1 286 = q_an G 1681 nv := (hf_3 286 (by decide)).trans hv13
    have hc_21 : σ_1 287 = q_an G 1681 ns := (hf_3 287 (by decide)).trans hv14
    have hc_22 : σ_1 288 = q_an G 2000 mk := (hf_3 288 (by decide)).trans hv15
    have hc_23 : σ_1 289 = q_an G 6724 va := (hf_3 289 (by decide)).trans hv16
    have hc_24 : σ_1 290 = q_an G 6724 sp := (hf_3 290 (by decide)).trans hv17
    have hc_25 : σ_1 291 = q_an G 80 lp := (hf_3 291 (by decide)).trans hv18
    have hc_26 : σ_1 292 = q_an G 600 f := (hf_3 292 (by decide)).trans hv19
    have hc_27 : σ_1 293 = q_an G 300 ou := (hf_3 293 (by decide)).trans hv20
    have hc_28 : σ_1 295 = q_dn G 1 oD := (hf_3 295 (by decide)).trans hv22
    refine A_istore hg dL_law_822 (by decide) (q_c1d rfl) ?_
    refine A_eq (ls2 := [some (.ref bS), some (.ref (q_h G + 0)), some (.ref (q_h G + 279)), some (.ref (q_h G + 294)), some (.ref (q_h G + 295)), some (.int (nI (i))), some (.int (nI (0))), none, none]) (st2 := []) (pc2 := 0) rfl rfl ?_
    refine A_aload_n hg dL_law_824 rfl rfl ?_
    refine A_aload_n hg dL_law_825 rfl rfl ?_
    refine A_iload hg dL_law_826 rfl ?_
    refine A_iconst (v := (nI (1))) hg dL_law_828 (by decide) ?_
    refine A_iaddN hg dL_law_829 ?_
    refine A_sld hg hX (i + 1) (by omega) dL_law_830 ?_
    refine A_aload_n hg dL_law_831 rfl rfl ?_
    refine A_iload hg dL_law_832 rfl ?_
    refine A_iconst (v := (nI (2))) hg dL_law_834 (by decide) ?_
    refine A_iaddN hg dL_law_835 ?_
    refine A_sld hg hX (i + 2) (by omega) dL_law_836 ?_
    refine A_hV (kc2 := kc + 1) (ks2 := ks + 6) (As := [.int (xs (i + 1)), .int (xs (i + 2))]) (rest := []) hg lk_RL_192 in_X11_ruleLetter se_X11_ruleLetter rfl dL_law_837 ⟨by decide, by decide⟩ rfl rfl (hfK 1 6 (by decide) (by decide)) hc_13 (by omega) rfl rfl (Nat.le_of_ble_eq_true rfl) (c_X11_ruleLetter G false 296 σ_1 F g (xs (i + 1)) (xs (i + 2)) hc_13 hc_14 (by omega) hg9) ?_
    rintro _ σ_35 (⟨rfl, Mhno, hc_29, hf_30⟩ | ⟨r1M, i1M, rfl, Mhre, Mhrl, Mhie, Mhil, hc_31, hf_32⟩ | ⟨r1M, rfl, Mhre, Mhrl, Mhni, hc_33, hf_34⟩)
    · skip
      refine (?_ : AJ G K Q (kc + 1) (ks + 6) false 296 840 [some (.ref bS), some (.ref (q_h G + 0)), some (.ref (q_h G + 279)), some (.ref (q_h G + 294)), some (.ref (q_h G + 295)), some (.int (nI (i))), some (.int (nI (0))), none, none] [.int (nI (0))] σ_35)
      have hc_29 : σ_35 279 = o11 G (upd F 7 (nI (1))) := hc_29
      have hc_36 : σ_35 0 = o10 G (nI (il)) (z2) (z3) := (hf_30 0 (by decide)).trans hc_7
      have hc_37 : σ_35 1 = q_an G 600 f := (hf_30 1 (by decide)).trans hc_8
      have hc_38 : σ_35 23 = o5 G (23) (nI (lo)) := (hf_30 23 (by decide)).trans hc_9
      have hc_39 : σ_35 24 = q_an G 256 o := (hf_30 24 (by decide)).trans hc_10
      have hc_40 : σ_35 224 = q_rn G 2 2 (fun j => some (243 + 18 * j)) := (hf_30 224 (by decide)).trans hc_11
      have hc_41 : σ_35 225 = q_bn G 2 kp := (hf_30 225 (by decide)).trans hc_12
      have hc_42 : σ_35 280 = q_an G 265 g := (hf_30 280 (by decide)).trans hc_14
      have hc_43 : σ_35 281 = q_an G 265 wk := (hf_30 281 (by decide)).trans hc_15
      have hc_44 : σ_35 282 = q_an G 265 as := (hf_30 282 (by decide)).trans hc_16
      have hc_45 : σ_35 283 = q_an G 530 sh := (hf_30 283 (by decide)).trans hc_17
      have hc_46 : σ_35 284 = q_an G 2120 a := (hf_30 284 (by decide)).trans hc_18
      have hc_47 : σ_35 285 = q_bn G 1681 fb := (hf_30 285 (by decide)).trans hc_19
      have hc_48 : σ_35 286 = q_an G 1681 nv := (hf_30 286 (by decide)).trans hc_20
      have hc_49 : σ_35 287 = q_an G 1681 ns := (hf_30 287 (by decide)).trans hc_21
      have hc_50 : σ_35 288 = q_an G 2000 mk := (hf_30 288 (by decide)).trans hc_22
      have hc_51 : σ_35 289 = q_an G 6724 va := (hf_30 289 (by decide)).trans hc_23
      have hc_52 : σ_35 290 = q_an G 6724 sp := (hf_30 290 (by decide)).trans hc_24
      have hc_53 : σ_35 291 = q_an G 80 lp := (hf_30 291 (by decide)).trans hc_25
      have hc_54 : σ_35 292 = q_an G 600 f := (hf_30 292 (by decide)).trans hc_26
      have hc_55 : σ_35 293 = q_an G 300 ou := (hf_30 293 (by decide)).trans hc_27
      have hc_56 : σ_35 295 = q_dn G 1 oD := (hf_30 295 (by decide)).trans hc_28
      have hc_57 : σ_35 294 = q_ln G 1 (va_up oL 0 ((nI (s_rule g r1C (1 + i1C))).toInt64)) := (hf_30 294 (by decide)).trans hc_2
      have hub_i1C := (hg9.2.2.2.2.2.1 r1C Chrl).1
      exact (Mhno r1C (by omega) Chre).elim
    · skip
      refine (?_ : AJ G K Q (kc + 1) (ks + 6) false 296 840 [some (.ref bS), some (.ref (q_h G + 0)), some (.ref (q_h G + 279)), some (.ref (q_h G + 294)), some (.ref (q_h G + 295)), some (.int (nI (i))), some (.int (nI (0))), none, none] [.int (nI (s_rule g r1M (1 + i1M)))] σ_35)
      have hc_31 : σ_35 279 = o11 G (upd F 7 (nI (0))) := hc_31
      have hc_58 : σ_35 0 = o10 G (nI (il)) (z2) (z3) := (hf_32 0 (by decide)).trans hc_7
      have hc_59 : σ_35 1 = q_an G 600 f := (hf_32 1 (by decide)).trans hc_8
      have hc_60 : σ_35 23 = o5 G (23) (nI (lo)) := (hf_32 23 (by decide)).trans hc_9
      have hc_61 : σ_35 24 = q_an G 256 o := (hf_32 24 (by decide)).trans hc_10
      have hc_62 : σ_35 224 = q_rn G 2 2 (fun j => some (243 + 18 * j)) := (hf_32 224 (by decide)).trans hc_11
      have hc_63 : σ_35 225 = q_bn G 2 kp := (hf_32 225 (by decide)).trans hc_12
      have hc_64 : σ_35 280 = q_an G 265 g := (hf_32 280 (by decide)).trans hc_14
      have hc_65 : σ_35 281 = q_an G 265 wk := (hf_32 281 (by decide)).trans hc_15
      have hc_66 : σ_35 282 = q_an G 265 as := (hf_32 282 (by decide)).trans hc_16
      have hc_67 : σ_35 283 = q_an G 530 sh := (hf_32 283 (by decide)).trans hc_17
      have hc_68 : σ_35 284 = q_an G 2120 a := (hf_32 284 (by decide)).trans hc_18
      have hc_69 : σ_35 285 = q_bn G 1681 fb := (hf_32 285 (by decide)).trans hc_19
      have hc_70 : σ_35 286 = q_an G 1681 nv := (hf_32 286 (by decide)).trans hc_20
      have hc_71 : σ_35 287 = q_an G 1681 ns := (hf_32 287 (by decide)).trans hc_21
      have hc_72 : σ_35 288 = q_an G 2000 mk := (hf_32 288 (by decide)).trans hc_22
      have hc_73 : σ_35 289 = q_an G 6724 va := (hf_32 289 (by decide)).trans hc_23
      have hc_74 : σ_35 290 = q_an G 6724 sp := (hf_32 290 (by decide)).trans hc_24
      have hc_75 : σ_35 291 = q_an G 80 lp := (hf_32 291 (by decide)).trans hc_25
      have hc_76 : σ_35 292 = q_an G 600 f := (hf_32 292 (by decide)).trans hc_26
      have hc_77 : σ_35 293 = q_an G 300 ou := (hf_32 293 (by decide)).trans hc_27
      have hc_78 : σ_35 295 = q_dn G 1 oD := (hf_32 295 (by decide)).trans hc_28
      have hc_79 : σ_35 294 = q_ln G 1 (va_up oL 0 ((nI (s_rule g r1C (1 + i1C))).toInt64)) := (hf_32 294 (by decide)).trans hc_2
      have hub_i1C := (hg9.2.2.2.2.2.1 r1C Chrl).1
      have hub_i1M := (hg9.2.2.2.2.2.1 r1M Mhrl).1
      have e_r : r1C = r1M := q_nI_inj (by omega) (by omega) (Chre.symm.trans Mhre)
      subst e_r
      have e_x : i1C = i1M := q_nI_inj (by omega) (by omega) (Chie.symm.trans Mhie)
      subst e_x
      refine A_istore hg dL_law_840 (by decide) (q_c1d rfl) ?_
      refine A_eq (ls2 := [some (.ref bS), some (.ref (q_h G + 0)), some (.ref (q_h G + 279)), some (.ref (q_h G + 294)), some (.ref (q_h G + 295)), some (.int (nI (i))), some (.int (nI (0))), some (.int (nI (s_rule g r1C (1 + i1C)))), none]) (st2 := []) (pc2 := 0) rfl rfl ?_
      refine A_aload_n hg dL_law_842 rfl rfl ?_
      refine A_eV (kc2 := kc + 1) (ks2 := ks + 6) (As := []) (rest := []) hg lk_RL_170 in_X11_thrown se_X11_thrown rfl dL_law_843 ⟨by decide, by decide⟩ rfl rfl (hfK 1 6 (by decide) (by decide)) hc_31 (by omega) rfl rfl (Nat.le_of_ble_eq_true rfl) (c_X11_thrown G false 296 σ_35 (upd F 7 (nI (0))) hc_31 (by omega)) ?_
      refine A_top (w := .int (nI (0))) (congrArg Value.int rfl) ?_
      refine A_iload hg dL_law_846 rfl ?_
      refine A_icmp_eqN (tgt := 853) hg dL_law_848 (by decide) (by decide) (by decide) (fun c848 => ?_) (fun c848 => False.elim (by omega))
      refine A_iload hg dL_law_853 rfl ?_
      refine A_if_neN (tgt := 870) hg dL_law_855 (by decide) (by decide) (fun c855 => absurd (by decide) c855) (fun c855 => ?_)
      refine A_aload_n hg dL_law_858 rfl rfl ?_
      refine A_iconst (v := (nI (0))) hg dL_law_859 (by decide) ?_
      refine A_lald (j := 0) hg dL_law_860 hc_79 (by omega) (by decide) (by decide) ?_
      refine A_top (w := .long ((nI (s_rule g r1C (1 + i1C))).toInt64)) (congrArg Value.long iv_up0) ?_
      refine A_iload hg dL_law_861 rfl ?_
      refine A_i2l (v := (nI (s_rule g r1C (1 + i1C))).toInt64) hg dL_law_863 rfl ?_
      refine A_lcmp hg dL_law_864 ?_
      refine A_top (w := .int (nI 0)) (congrArg Value.int (lc_self _)) ?_
      refine A_if_eqN (tgt := 870) hg dL_law_865 (by decide) (by decide) (fun c865 => ?_) (fun c865 => absurd (by decide) c865)
      refine A_goto (tgt := 3062) hg dL_law_870 (by decide) ?_
      refine A_drop 6 ?_
      refine A_drop 7 ?_
      refine A_eq (ls2 := [some (.ref bS), some (.ref (q_h G + 0)), some (.ref (q_h G + 279)), some (.ref (q_h G + 294)), some (.ref (q_h G + 295)), some (.int (nI (i))), none, none, none]) (st2 := []) (pc2 := 0) rfl rfl ?_
      refine A_wide (kc2 := kc + 8) (ks2 := ks + 48) (by omega) (by omega) ?_
      exact hnxt _ (iv_mk il z2 z3 f lo o g nx m ps kp sn (upd F 7 (nI (0))) wk as sh a fb nv ns mk va sp lp mc z ss ou (va_up oL 0 ((nI (s_rule g r1C (1 + i1C))).toInt64)) oD hc_58 hc_59 hc_60 hc_61 hc_62 hc_63 hc_31 hc_64 hc_65 hc_66 hc_67 hc_68 hc_69 hc_70 hc_71 hc_72 hc_73 hc_74 hc_75 hc_76 hc_77 hc_79 hc_78 (x_lj_e (fun i _ _ => ((hf_32 i (by omega)).trans (hf_3 i (by omega)))) hL) (x_gm_e (fun i _ _ => ((hf_32 i (by omega)).trans (hf_3 i (by omega)))) hG) (x_mx_e (fun i _ _ => ((hf_32 i (by omega)).trans (hf_3 i (by omega)))) hM) (x_hi_e (fun i _ _ => ((hf_32 i (by omega)).trans (hf_3 i (by omega)))) hHi) (x_oj_e (fun i _ _ => ((hf_32 i (by omega)).trans (hf_3 i (by omega)))) hO) (x_pj_e (fun i _ _ => ((hf_32 i (by omega)).trans (hf_3 i (by omega)))) hT) (iv_hn (fun i _ _ => ((hf_32 i (by omega)).trans (hf_3 i (by omega)))) hH) (iv_Sn (fun i _ _ => ((hf_32 i (by omega)).trans (hf_3 i (by omega)))) hSn) (iv_Kp (fun i _ _ => ((hf_32 i (by omega)).trans (hf_3 i (by omega)))) hKp) (by omega) hfb (by omega) hou hgd hps hk1 hkss hss hsn hF5 hF6 hF12 hF16 hF21 hF22 hF23 hF33 (by omega) hmk hTI hlo)
    · skip
      refine (?_ : AJ G K Q (kc + 1) (ks + 6) false 296 840 [some (.ref bS), some (.ref (q_h G + 0)), some (.ref (q_h G + 279)), some (.ref (q_h G + 294)), some (.ref (q_h G + 295)), some (.int (nI (i))), some (.int (nI (0))), none, none] [.int (nI (0))] σ_35)
      have hc_33 : σ_35 279 = o11 G (upd F 7 (nI (0))) := hc_33
      have hc_80 : σ_35 0 = o10 G (nI (il)) (z2) (z3) := (hf_34 0 (by decide)).trans hc_7
      have hc_81 : σ_35 1 = q_an G 600 f := (hf_34 1 (by decide)).trans hc_8
      have hc_82 : σ_35 23 = o5 G (23) (nI (lo)) := (hf_34 23 (by decide)).trans hc_9
      have hc_83 : σ_35 24 = q_an G 256 o := (hf_34 24 (by decide)).trans hc_10
      have hc_84 : σ_35 224 = q_rn G 2 2 (fun j => some (243 + 18 * j)) := (hf_34 224 (by decide)).trans hc_11
      have hc_85 : σ_35 225 = q_bn G 2 kp := (hf_34 225 (by decide)).trans hc_12
      have hc_86 : σ_35 280 = q_an G 265 g := (hf_34 280 (by decide)).trans hc_14
      have hc_87 : σ_35 281 = q_an G 265 wk := (hf_34 281 (by decide)).trans hc_15
      have hc_88 : σ_35 282 = q_an G 265 as := (hf_34 282 (by decide)).trans hc_16
      have hc_89 : σ_35 283 = q_an G 530 sh := (hf_34 283 (by decide)).trans hc_17
      have hc_90 : σ_35 284 = q_an G 2120 a := (hf_34 284 (by decide)).trans hc_18
      have hc_91 : σ_35 285 = q_bn G 1681 fb := (hf_34 285 (by decide)).trans hc_19
      have hc_92 : σ_35 286 = q_an G 1681 nv := (hf_34 286 (by decide)).trans hc_20
      have hc_93 : σ_35 287 = q_an G 1681 ns := (hf_34 287 (by decide)).trans hc_21
      have hc_94 : σ_35 288 = q_an G 2000 mk := (hf_34 288 (by decide)).trans hc_22
      have hc_95 : σ_35 289 = q_an G 6724 va := (hf_34 289 (by decide)).trans hc_23
      have hc_96 : σ_35 290 = q_an G 6724 sp := (hf_34 290 (by decide)).trans hc_24
      have hc_97 : σ_35 291 = q_an G 80 lp := (hf_34 291 (by decide)).trans hc_25
      have hc_98 : σ_35 292 = q_an G 600 f := (hf_34 292 (by decide)).trans hc_26
      have hc_99 : σ_35 293 = q_an G 300 ou := (hf_34 293 (by decide)).trans hc_27
      have hc_100 : σ_35 295 = q_dn G 1 oD := (hf_34 295 (by decide)).trans hc_28
      have hc_101 : σ_35 294 = q_ln G 1 (va_up oL 0 ((nI (s_rule g r1C (1 + i1C))).toInt64)) := (hf_34 294 (by decide)).trans hc_2
      have hub_i1C := (hg9.2.2.2.2.2.1 r1C Chrl).1
      have e_r : r1C = r1M := q_nI_inj (by omega) (by omega) (Chre.symm.trans Mhre)
      subst e_r
      exact (Mhni i1C (by omega) Chie).elim
  · skip
    refine (?_ : AJ G K Q (kc + 1) (ks + 6) false 296 822 [some (.ref bS), some (.ref (q_h G + 0)), some (.ref (q_h G + 279)), some (.ref (q_h G + 294)), some (.ref (q_h G + 295)), some (.int (nI (i))), none, none, none] [.int (nI (0))] σ_1)
    have hc_102 : σ_1 0 = o10 G (nI (il)) (z2) (z3) := (hf_5 0 (by decide)).trans hv0
    have hc_103 : σ_1 1 = q_an G 600 f := (hf_5 1 (by decide)).trans hv1
    have hc_104 : σ_1 23 = o5 G (23) (nI (lo)) := (hf_5 23 (by decide)).trans hv2
    have hc_105 : σ_1 24 = q_an G 256 o := (hf_5 24 (by decide)).trans hv3
    have hc_106 : σ_1 224 = q_rn G 2 2 (fun j => some (243 + 18 * j)) := (hf_5 224 (by decide)).trans hv4
    have hc_107 : σ_1 225 = q_bn G 2 kp := (hf_5 225 (by decide)).trans hv5
    have hc_108 : σ_1 279 = o11 G F := (hf_5 279 (by decide)).trans hv6
    have hc_109 : σ_1 280 = q_an G 265 g := (hf_5 280 (by decide)).trans hv7
    have hc_110 : σ_1 281 = q_an G 265 wk := (hf_5 281 (by decide)).trans hv8
    have hc_111 : σ_1 282 = q_an G 265 as := (hf_5 282 (by decide)).trans hv9
    have hc_112 : σ_1 283 = q_an G 530 sh := (hf_5 283 (by decide)).trans hv10
    have hc_113 : σ_1 284 = q_an G 2120 a := (hf_5 284 (by decide)).trans hv11
    have hc_114 : σ_1 285 = q_bn G 1681 fb := (hf_5 285 (by decide)).trans hv12
    have hc_115 : σ_1 286 = q_an G 1681 nv := (hf_5 286 (by decide)).trans hv13
    have hc_116 : σ_1 287 = q_an G 1681 ns := (hf_5 287 (by decide)).trans hv14
    have hc_117 : σ_1 288 = q_an G 2000 mk := (hf_5 288 (by decide)).trans hv15
    have hc_118 : σ_1 289 = q_an G 6724 va := (hf_5 289 (by decide)).trans hv16
    have hc_119 : σ_1 290 = q_an G 6724 sp := (hf_5 290 (by decide)).trans hv17
    have hc_120 : σ_1 291 = q_an G 80 lp := (hf_5 291 (by decide)).trans hv18
    have hc_121 : σ_1 292 = q_an G 600 f := (hf_5 292 (by decide)).trans hv19
    have hc_122 : σ_1 293 = q_an G 300 ou := (hf_5 293 (by decide)).trans hv20
    have hc_123 : σ_1 295 = q_dn G 1 oD := (hf_5 295 (by decide)).trans hv22
    refine A_istore hg dL_law_822 (by decide) (q_c1d rfl) ?_
    refine A_eq (ls2 := [some (.ref bS), some (.ref (q_h G + 0)), some (.ref (q_h G + 279)), some (.ref (q_h G + 294)), some (.ref (q_h G + 295)), some (.int (nI (i))), some (.int (nI (0))), none, none]) (st2 := []) (pc2 := 0) rfl rfl ?_
    refine A_aload_n hg dL_law_824 rfl rfl ?_
    refine A_aload_n hg dL_law_825 rfl rfl ?_
    refine A_iload hg dL_law_826 rfl ?_
    refine A_iconst (v := (nI (1))) hg dL_law_828 (by decide) ?_
    refine A_iaddN hg dL_law_829 ?_
    refine A_sld hg hX (i + 1) (by omega) dL_law_830 ?_
    refine A_aload_n hg dL_law_831 rfl rfl ?_
    refine A_iload hg dL_law_832 rfl ?_
    refine A_iconst (v := (nI (2))) hg dL_law_834 (by decide) ?_
    refine A_iaddN hg dL_law_835 ?_
    refine A_sld hg hX (i + 2) (by omega) dL_law_836 ?_
    refine A_hV (kc2 := kc + 1) (ks2 := ks + 6) (As := [.int (xs (i + 1)), .int (xs (i + 2))]) (rest := []) hg lk_RL_192 in_X11_ruleLetter se_X11_ruleLetter rfl dL_law_837 ⟨by decide, by decide⟩ rfl rfl (hfK 1 6 (by decide) (by decide)) hc_108 (by omega) rfl rfl (Nat.le_of_ble_eq_true rfl) (c_X11_ruleLetter G false 296 σ_1 F g (xs (i + 1)) (xs (i + 2)) hc_108 hc_109 (by omega) hg9) ?_
    rintro _ σ_130 (⟨rfl, Mhno, hc_124, hf_125⟩ | ⟨r1M, i1M, rfl, Mhre, Mhrl, Mhie, Mhil, hc_126, hf_127⟩ | ⟨r1M, rfl, Mhre, Mhrl, Mhni, hc_128, hf_129⟩)
    · skip
      refine (?_ : AJ G K Q (kc + 1) (ks + 6) false 296 840 [some (.ref bS), some (.ref (q_h G + 0)), some (.ref (q_h G + 279)), some (.ref (q_h G + 294)), some (.ref (q_h G + 295)), some (.int (nI (i))), some (.int (nI (0))), none, none] [.int (nI (0))] σ_130)
      have hc_124 : σ_130 279 = o11 G (upd F 7 (nI (1))) := hc_124
      have hc_131 : σ_130 0 = o10 G (nI (il)) (z2) (z3) := (hf_125 0 (by decide)).trans hc_102
      have hc_132 : σ_130 1 = q_an G 600 f := (hf_125 1 (by decide)).trans hc_103
      have hc_133 : σ_130 23 = o5 G (23) (nI (lo)) := (hf_125 23 (by decide)).trans hc_104
      have hc_134 : σ_130 24 = q_an G 256 o := (hf_125 24 (by decide)).trans hc_105
      have hc_135 : σ_130 224 = q_rn G 2 2 (fun j => some (243 + 18 * j)) := (hf_125 224 (by decide)).trans hc_106
      have hc_136 : σ_130 225 = q_bn G 2 kp := (hf_125 225 (by decide)).trans hc_107
      have hc_137 : σ_130 280 = q_an G 265 g := (hf_125 280 (by decide)).trans hc_109
      have hc_138 : σ_130 281 = q_an G 265 wk := (hf_125 281 (by decide)).trans hc_110
      have hc_139 : σ_130 282 = q_an G 265 as := (hf_125 282 (by decide)).trans hc_111
      have hc_140 : σ_130 283 = q_an G 530 sh := (hf_125 283 (by decide)).trans hc_112
      have hc_141 : σ_130 284 = q_an G 2120 a := (hf_125 284 (by decide)).trans hc_113
      have hc_142 : σ_130 285 = q_bn G 1681 fb := (hf_125 285 (by decide)).trans hc_114
      have hc_143 : σ_130 286 = q_an G 1681 nv := (hf_125 286 (by decide)).trans hc_115
      have hc_144 : σ_130 287 = q_an G 1681 ns := (hf_125 287 (by decide)).trans hc_116
      have hc_145 : σ_130 288 = q_an G 2000 mk := (hf_125 288 (by decide)).trans hc_117
      have hc_146 : σ_130 289 = q_an G 6724 va := (hf_125 289 (by decide)).trans hc_118
      have hc_147 : σ_130 290 = q_an G 6724 sp := (hf_125 290 (by decide)).trans hc_119
      have hc_148 : σ_130 291 = q_an G 80 lp := (hf_125 291 (by decide)).trans hc_120
      have hc_149 : σ_130 292 = q_an G 600 f := (hf_125 292 (by decide)).trans hc_121
      have hc_150 : σ_130 293 = q_an G 300 ou := (hf_125 293 (by decide)).trans hc_122
      have hc_151 : σ_130 295 = q_dn G 1 oD := (hf_125 295 (by decide)).trans hc_123
      have hc_152 : σ_130 294 = q_ln G 1 (va_up oL 0 ((nI (0)).toInt64)) := (hf_125 294 (by decide)).trans hc_4
      exact (Mhno r1C (by omega) Chre).elim
    · skip
      refine (?_ : AJ G K Q (kc + 1) (ks + 6) false 296 840 [some (.ref bS), some (.ref (q_h G + 0)), some (.ref (q_h G + 279)), some (.ref (q_h G + 294)), some (.ref (q_h G + 295)), some (.int (nI (i))), some (.int (nI (0))), none, none] [.int (nI (s_rule g r1M (1 + i1M)))] σ_130)
      have hc_126 : σ_130 279 = o11 G (upd F 7 (nI (0))) := hc_126
      have hc_153 : σ_130 0 = o10 G (nI (il)) (z2) (z3) := (hf_127 0 (by decide)).trans hc_102
      have hc_154 : σ_130 1 = q_an G 600 f := (hf_127 1 (by decide)).trans hc_103
      have hc_155 : σ_130 23 = o5 G (23) (nI (lo)) := (hf_127 23 (by decide)).trans hc_104
      have hc_156 : σ_130 24 = q_an G 256 o := (hf_127 24 (by decide)).trans hc_105
      have hc_157 : σ_130 224 = q_rn G 2 2 (fun j => some (243 + 18 * j)) := (hf_127 224 (by decide)).trans hc_106
      have hc_158 : σ_130 225 = q_bn G 2 kp := (hf_127 225 (by decide)).trans hc_107
      have hc_159 : σ_130 280 = q_an G 265 g := (hf_127 280 (by decide)).trans hc_109
      have hc_160 : σ_130 281 = q_an G 265 wk := (hf_127 281 (by decide)).trans hc_110
      have hc_161 : σ_130 282 = q_an G 265 as := (hf_127 282 (by decide)).trans hc_111
      have hc_162 : σ_130 283 = q_an G 530 sh := (hf_127 283 (by decide)).trans hc_112
      have hc_163 : σ_130 284 = q_an G 2120 a := (hf_127 284 (by decide)).trans hc_113
      have hc_164 : σ_130 285 = q_bn G 1681 fb := (hf_127 285 (by decide)).trans hc_114
      have hc_165 : σ_130 286 = q_an G 1681 nv := (hf_127 286 (by decide)).trans hc_115
      have hc_166 : σ_130 287 = q_an G 1681 ns := (hf_127 287 (by decide)).trans hc_116
      have hc_167 : σ_130 288 = q_an G 2000 mk := (hf_127 288 (by decide)).trans hc_117
      have hc_168 : σ_130 289 = q_an G 6724 va := (hf_127 289 (by decide)).trans hc_118
      have hc_169 : σ_130 290 = q_an G 6724 sp := (hf_127 290 (by decide)).trans hc_119
      have hc_170 : σ_130 291 = q_an G 80 lp := (hf_127 291 (by decide)).trans hc_120
      have hc_171 : σ_130 292 = q_an G 600 f := (hf_127 292 (by decide)).trans hc_121
      have hc_172 : σ_130 293 = q_an G 300 ou := (hf_127 293 (by decide)).trans hc_122
      have hc_173 : σ_130 295 = q_dn G 1 oD := (hf_127 295 (by decide)).trans hc_123
      have hc_174 : σ_130 294 = q_ln G 1 (va_up oL 0 ((nI (0)).toInt64)) := (hf_127 294 (by decide)).trans hc_4
      have hub_i1M := (hg9.2.2.2.2.2.1 r1M Mhrl).1
      have e_r : r1C = r1M := q_nI_inj (by omega) (by omega) (Chre.symm.trans Mhre)
      subst e_r
      exact (Chni i1M (by omega) Mhie).elim
    · skip
      refine (?_ : AJ G K Q (kc + 1) (ks + 6) false 296 840 [some (.ref bS), some (.ref (q_h G + 0)), some (.ref (q_h G + 279)), some (.ref (q_h G + 294)), some (.ref (q_h G + 295)), some (.int (nI (i))), some (.int (nI (0))), none, none] [.int (nI (0))] σ_130)
      have hc_128 : σ_130 279 = o11 G (upd F 7 (nI (0))) := hc_128
      have hc_175 : σ_130 0 = o10 G (nI (il)) (z2) (z3) := (hf_129 0 (by decide)).trans hc_102
      have hc_176 : σ_130 1 = q_an G 600 f := (hf_129 1 (by decide)).trans hc_103
      have hc_177 : σ_130 23 = o5 G (23) (nI (lo)) := (hf_129 23 (by decide)).trans hc_104
      have hc_178 : σ_130 24 = q_an G 256 o := (hf_129 24 (by decide)).trans hc_105
      have hc_179 : σ_130 224 = q_rn G 2 2 (fun j => some (243 + 18 * j)) := (hf_129 224 (by decide)).trans hc_106
      have hc_180 : σ_130 225 = q_bn G 2 kp := (hf_129 225 (by decide)).trans hc_107
      have hc_181 : σ_130 280 = q_an G 265 g := (hf_129 280 (by decide)).trans hc_109
      have hc_182 : σ_130 281 = q_an G 265 wk := (hf_129 281 (by decide)).trans hc_110
      have hc_183 : σ_130 282 = q_an G 265 as := (hf_129 282 (by decide)).trans hc_111
      have hc_184 : σ_130 283 = q_an G 530 sh := (hf_129 283 (by decide)).trans hc_112
      have hc_185 : σ_130 284 = q_an G 2120 a := (hf_129 284 (by decide)).trans hc_113
      have hc_186 : σ_130 285 = q_bn G 1681 fb := (hf_129 285 (by decide)).trans hc_114
      have hc_187 : σ_130 286 = q_an G 1681 nv := (hf_129 286 (by decide)).trans hc_115
      have hc_188 : σ_130 287 = q_an G 1681 ns := (hf_129 287 (by decide)).trans hc_116
      have hc_189 : σ_130 288 = q_an G 2000 mk := (hf_129 288 (by decide)).trans hc_117
      have hc_190 : σ_130 289 = q_an G 6724 va := (hf_129 289 (by decide)).trans hc_118
      have hc_191 : σ_130 290 = q_an G 6724 sp := (hf_129 290 (by decide)).trans hc_119
      have hc_192 : σ_130 291 = q_an G 80 lp := (hf_129 291 (by decide)).trans hc_120
      have hc_193 : σ_130 292 = q_an G 600 f := (hf_129 292 (by decide)).trans hc_121
      have hc_194 : σ_130 293 = q_an G 300 ou := (hf_129 293 (by decide)).trans hc_122
      have hc_195 : σ_130 295 = q_dn G 1 oD := (hf_129 295 (by decide)).trans hc_123
      have hc_196 : σ_130 294 = q_ln G 1 (va_up oL 0 ((nI (0)).toInt64)) := (hf_129 294 (by decide)).trans hc_4
      have e_r : r1C = r1M := q_nI_inj (by omega) (by omega) (Chre.symm.trans Mhre)
      subst e_r
      refine A_istore hg dL_law_840 (by decide) (q_c1d rfl) ?_
      refine A_eq (ls2 := [some (.ref bS), some (.ref (q_h G + 0)), some (.ref (q_h G + 279)), some (.ref (q_h G + 294)), some (.ref (q_h G + 295)), some (.int (nI (i))), some (.int (nI (0))), some (.int (nI (0))), none]) (st2 := []) (pc2 := 0) rfl rfl ?_
      refine A_aload_n hg dL_law_842 rfl rfl ?_
      refine A_eV (kc2 := kc + 1) (ks2 := ks + 6) (As := []) (rest := []) hg lk_RL_170 in_X11_thrown se_X11_thrown rfl dL_law_843 ⟨by decide, by decide⟩ rfl rfl (hfK 1 6 (by decide) (by decide)) hc_128 (by omega) rfl rfl (Nat.le_of_ble_eq_true rfl) (c_X11_thrown G false 296 σ_130 (upd F 7 (nI (0))) hc_128 (by omega)) ?_
      refine A_top (w := .int (nI (0))) (congrArg Value.int rfl) ?_
      refine A_iload hg dL_law_846 rfl ?_
      refine A_icmp_eqN (tgt := 853) hg dL_law_848 (by decide) (by decide) (by decide) (fun c848 => ?_) (fun c848 => False.elim (by omega))
      refine A_iload hg dL_law_853 rfl ?_
      refine A_if_neN (tgt := 870) hg dL_law_855 (by decide) (by decide) (fun c855 => absurd (by decide) c855) (fun c855 => ?_)
      refine A_aload_n hg dL_law_858 rfl rfl ?_
      refine A_iconst (v := (nI (0))) hg dL_law_859 (by decide) ?_
      refine A_lald (j := 0) hg dL_law_860 hc_196 (by omega) (by decide) (by decide) ?_
      refine A_top (w := .long ((nI (0)).toInt64)) (congrArg Value.long iv_up0) ?_
      refine A_iload hg dL_law_861 rfl ?_
      refine A_i2l (v := (nI (0)).toInt64) hg dL_law_863 rfl ?_
      refine A_lcmp hg dL_law_864 ?_
      refine A_top (w := .int (nI 0)) (congrArg Value.int (lc_self _)) ?_
      refine A_if_eqN (tgt := 870) hg dL_law_865 (by decide) (by decide) (fun c865 => ?_) (fun c865 => absurd (by decide) c865)
      refine A_goto (tgt := 3062) hg dL_law_870 (by decide) ?_
      refine A_drop 6 ?_
      refine A_drop 7 ?_
      refine A_eq (ls2 := [some (.ref bS), some (.ref (q_h G + 0)), some (.ref (q_h G + 279)), some (.ref (q_h G + 294)), some (.ref (q_h G + 295)), some (.int (nI (i))), none, none, none]) (st2 := []) (pc2 := 0) rfl rfl ?_
      refine A_wide (kc2 := kc + 8) (ks2 := ks + 48) (by omega) (by omega) ?_
      exact hnxt _ (iv_mk il z2 z3 f lo o g nx m ps kp sn (upd F 7 (nI (0))) wk as sh a fb nv ns mk va sp lp mc z ss ou (va_up oL 0 ((nI (0)).toInt64)) oD hc_175 hc_176 hc_177 hc_178 hc_179 hc_180 hc_128 hc_181 hc_182 hc_183 hc_184 hc_185 hc_186 hc_187 hc_188 hc_189 hc_190 hc_191 hc_192 hc_193 hc_194 hc_196 hc_195 (x_lj_e (fun i _ _ => ((hf_129 i (by omega)).trans (hf_5 i (by omega)))) hL) (x_gm_e (fun i _ _ => ((hf_129 i (by omega)).trans (hf_5 i (by omega)))) hG) (x_mx_e (fun i _ _ => ((hf_129 i (by omega)).trans (hf_5 i (by omega)))) hM) (x_hi_e (fun i _ _ => ((hf_129 i (by omega)).trans (hf_5 i (by omega)))) hHi) (x_oj_e (fun i _ _ => ((hf_129 i (by omega)).trans (hf_5 i (by omega)))) hO) (x_pj_e (fun i _ _ => ((hf_129 i (by omega)).trans (hf_5 i (by omega)))) hT) (iv_hn (fun i _ _ => ((hf_129 i (by omega)).trans (hf_5 i (by omega)))) hH) (iv_Sn (fun i _ _ => ((hf_129 i (by omega)).trans (hf_5 i (by omega)))) hSn) (iv_Kp (fun i _ _ => ((hf_129 i (by omega)).trans (hf_5 i (by omega)))) hKp) (by omega) hfb (by omega) hou hgd hps hk1 hkss hss hsn hF5 hF6 hF12 hF16 hF21 hF22 hF23 hF33 (by omega) hmk hTI hlo)
  · skip
    rw [he_6]
    refine (?_ : AJ G K Q (kc + 1) (ks + 6) false 296 822 [some (.ref bS), some (.ref (q_h G + 0)), some (.ref (q_h G + 279)), some (.ref (q_h G + 294)), some (.ref (q_h G + 295)), some (.int (nI (i))), none, none, none] [.int (nI (1))] σ)
    refine A_istore hg dL_law_822 (by decide) (q_c1d rfl) ?_
    refine A_eq (ls2 := [some (.ref bS), some (.ref (q_h G + 0)), some (.ref (q_h G + 279)), some (.ref (q_h G + 294)), some (.ref (q_h G + 295)), some (.int (nI (i))), some (.int (nI (1))), none, none]) (st2 := []) (pc2 := 0) rfl rfl ?_
    refine A_aload_n hg dL_law_824 rfl rfl ?_
    refine A_aload_n hg dL_law_825 rfl rfl ?_
    refine A_iload hg dL_law_826 rfl ?_
    refine A_iconst (v := (nI (1))) hg dL_law_828 (by decide) ?_
    refine A_iaddN hg dL_law_829 ?_
    refine A_sld hg hX (i + 1) (by omega) dL_law_830 ?_
    refine A_aload_n hg dL_law_831 rfl rfl ?_
    refine A_iload hg dL_law_832 rfl ?_
    refine A_iconst (v := (nI (2))) hg dL_law_834 (by decide) ?_
    refine A_iaddN hg dL_law_835 ?_
    refine A_sld hg hX (i + 2) (by omega) dL_law_836 ?_
    refine A_hV (kc2 := kc + 1) (ks2 := ks + 6) (As := [.int (xs (i + 1)), .int (xs (i + 2))]) (rest := []) hg lk_RL_192 in_X11_ruleLetter se_X11_ruleLetter rfl dL_law_837 ⟨by decide, by decide⟩ rfl rfl (hfK 1 6 (by decide) (by decide)) hv6 (by omega) rfl rfl (Nat.le_of_ble_eq_true rfl) (c_X11_ruleLetter G false 296 σ F g (xs (i + 1)) (xs (i + 2)) hv6 hv7 (by omega) hg9) ?_
    rintro _ σ_203 (⟨rfl, Mhno, hc_197, hf_198⟩ | ⟨r1M, i1M, rfl, Mhre, Mhrl, Mhie, Mhil, hc_199, hf_200⟩ | ⟨r1M, rfl, Mhre, Mhrl, Mhni, hc_201, hf_202⟩)
    · skip
      refine (?_ : AJ G K Q (kc + 1) (ks + 6) false 296 840 [some (.ref bS), some (.ref (q_h G + 0)), some (.ref (q_h G + 279)), some (.ref (q_h G + 294)), some (.ref (q_h G + 295)), some (.int (nI (i))), some (.int (nI (1))), none, none] [.int (nI (0))] σ_203)
      have hc_197 : σ_203 279 = o11 G (upd F 7 (nI (1))) := hc_197
      have hc_204 : σ_203 0 = o10 G (nI (il)) (z2) (z3) := (hf_198 0 (by decide)).trans hv0
      have hc_205 : σ_203 1 = q_an G 600 f := (hf_198 1 (by decide)).trans hv1
      have hc_206 : σ_203 23 = o5 G (23) (nI (lo)) := (hf_198 23 (by decide)).trans hv2
      have hc_207 : σ_203 24 = q_an G 256 o := (hf_198 24 (by decide)).trans hv3
      have hc_208 : σ_203 224 = q_rn G 2 2 (fun j => some (243 + 18 * j)) := (hf_198 224 (by decide)).trans hv4
      have hc_209 : σ_203 225 = q_bn G 2 kp := (hf_198 225 (by decide)).trans hv5
      have hc_210 : σ_203 280 = q_an G 265 g := (hf_198 280 (by decide)).trans hv7
      have hc_211 : σ_203 281 = q_an G 265 wk := (hf_198 281 (by decide)).trans hv8
      have hc_212 : σ_203 282 = q_an G 265 as := (hf_198 282 (by decide)).trans hv9
      have hc_213 : σ_203 283 = q_an G 530 sh := (hf_198 283 (by decide)).trans hv10
      have hc_214 : σ_203 284 = q_an G 2120 a := (hf_198 284 (by decide)).trans hv11
      have hc_215 : σ_203 285 = q_bn G 1681 fb := (hf_198 285 (by decide)).trans hv12
      have hc_216 : σ_203 286 = q_an G 1681 nv := (hf_198 286 (by decide)).trans hv13
      have hc_217 : σ_203 287 = q_an G 1681 ns := (hf_198 287 (by decide)).trans hv14
      have hc_218 : σ_203 288 = q_an G 2000 mk := (hf_198 288 (by decide)).trans hv15
      have hc_219 : σ_203 289 = q_an G 6724 va := (hf_198 289 (by decide)).trans hv16
      have hc_220 : σ_203 290 = q_an G 6724 sp := (hf_198 290 (by decide)).trans hv17
      have hc_221 : σ_203 291 = q_an G 80 lp := (hf_198 291 (by decide)).trans hv18
      have hc_222 : σ_203 292 = q_an G 600 f := (hf_198 292 (by decide)).trans hv19
      have hc_223 : σ_203 293 = q_an G 300 ou := (hf_198 293 (by decide)).trans hv20
      have hc_224 : σ_203 294 = q_ln G 1 oL := (hf_198 294 (by decide)).trans hv21
      have hc_225 : σ_203 295 = q_dn G 1 oD := (hf_198 295 (by decide)).trans hv22
      refine A_istore hg dL_law_840 (by decide) (q_c1d rfl) ?_
      refine A_eq (ls2 := [some (.ref bS), some (.ref (q_h G + 0)), some (.ref (q_h G + 279)), some (.ref (q_h G + 294)), some (.ref (q_h G + 295)), some (.int (nI (i))), some (.int (nI (1))), some (.int (nI (0))), none]) (st2 := []) (pc2 := 0) rfl rfl ?_
      refine A_aload_n hg dL_law_842 rfl rfl ?_
      refine A_eV (kc2 := kc + 1) (ks2 := ks + 6) (As := []) (rest := []) hg lk_RL_170 in_X11_thrown se_X11_thrown rfl dL_law_843 ⟨by decide, by decide⟩ rfl rfl (hfK 1 6 (by decide) (by decide)) hc_197 (by omega) rfl rfl (Nat.le_of_ble_eq_true rfl) (c_X11_thrown G false 296 σ_203 (upd F 7 (nI (1))) hc_197 (by omega)) ?_
      refine A_top (w := .int (nI (1))) (congrArg Value.int rfl) ?_
      refine A_iload hg dL_law_846 rfl ?_
      refine A_icmp_eqN (tgt := 853) hg dL_law_848 (by decide) (by decide) (by decide) (fun c848 => ?_) (fun c848 => False.elim (by omega))
      refine A_iload hg dL_law_853 rfl ?_
      refine A_if_neN (tgt := 870) hg dL_law_855 (by decide) (by decide) (fun c855 => ?_) (fun c855 => absurd c855 (by decide))
      refine A_goto (tgt := 3062) hg dL_law_870 (by decide) ?_
      refine A_drop 6 ?_
      refine A_drop 7 ?_
      refine A_eq (ls2 := [some (.ref bS), some (.ref (q_h G + 0)), some (.ref (q_h G + 279)), some (.ref (q_h G + 294)), some (.ref (q_h G + 295)), some (.int (nI (i))), none, none, none]) (st2 := []) (pc2 := 0) rfl rfl ?_
      refine A_wide (kc2 := kc + 8) (ks2 := ks + 48) (by omega) (by omega) ?_
      exact hnxt _ (iv_mk il z2 z3 f lo o g nx m ps kp sn (upd F 7 (nI (1))) wk as sh a fb nv ns mk va sp lp mc z ss ou oL oD hc_204 hc_205 hc_206 hc_207 hc_208 hc_209 hc_197 hc_210 hc_211 hc_212 hc_213 hc_214 hc_215 hc_216 hc_217 hc_218 hc_219 hc_220 hc_221 hc_222 hc_223 hc_224 hc_225 (x_lj_e (fun i _ _ => (hf_198 i (by omega))) hL) (x_gm_e (fun i _ _ => (hf_198 i (by omega))) hG) (x_mx_e (fun i _ _ => (hf_198 i (by omega))) hM) (x_hi_e (fun i _ _ => (hf_198 i (by omega))) hHi) (x_oj_e (fun i _ _ => (hf_198 i (by omega))) hO) (x_pj_e (fun i _ _ => (hf_198 i (by omega))) hT) (iv_hn (fun i _ _ => (hf_198 i (by omega))) hH) (iv_Sn (fun i _ _ => (hf_198 i (by omega))) hSn) (iv_Kp (fun i _ _ => (hf_198 i (by omega))) hKp) (by omega) hfb (by omega) hou hgd hps hk1 hkss hss hsn hF5 hF6 hF12 hF16 hF21 hF22 hF23 hF33 (by omega) hmk hTI hlo)
    · skip
      refine (?_ : AJ G K Q (kc + 1) (ks + 6) false 296 840 [some (.ref bS), some (.ref (q_h G + 0)), some (.ref (q_h G + 279)), some (.ref (q_h G + 294)), some (.ref (q_h G + 295)), some (.int (nI (i))), some (.int (nI (1))), none, none] [.int (nI (s_rule g r1M (1 + i1M)))] σ_203)
      have hc_199 : σ_203 279 = o11 G (upd F 7 (nI (0))) := hc_199
      have hc_226 : σ_203 0 = o10 G (nI (il)) (z2) (z3) := (hf_200 0 (by decide)).trans hv0
      have hc_227 : σ_203 1 = q_an G 600 f := (hf_200 1 (by decide)).trans hv1
      have hc_228 : σ_203 23 = o5 G (23) (nI (lo)) := (hf_200 23 (by decide)).trans hv2
      have hc_229 : σ_203 24 = q_an G 256 o := (hf_200 24 (by decide)).trans hv3
      have hc_230 : σ_203 224 = q_rn G 2 2 (fun j => some (243 + 18 * j)) := (hf_200 224 (by decide)).trans hv4
      have hc_231 : σ_203 225 = q_bn G 2 kp := (hf_200 225 (by decide)).trans hv5
      have hc_232 : σ_203 280 = q_an G 265 g := (hf_200 280 (by decide)).trans hv7
      have hc_233 : σ_203 281 = q_an G 265 wk := (hf_200 281 (by decide)).trans hv8
      have hc_234 : σ_203 282 = q_an G 265 as := (hf_200 282 (by decide)).trans hv9
      have hc_235 : σ_203 283 = q_an G 530 sh := (hf_200 283 (by decide)).trans hv10
      have hc_236 : σ_203 284 = q_an G 2120 a := (hf_200 284 (by decide)).trans hv11
      have hc_237 : σ_203 285 = q_bn G 1681 fb := (hf_200 285 (by decide)).trans hv12
      have hc_238 : σ_203 286 = q_an G 1681 nv := (hf_200 286 (by decide)).trans hv13
      have hc_239 : σ_203 287 = q_an G 1681 ns := (hf_200 287 (by decide)).trans hv14
      have hc_240 : σ_203 288 = q_an G 2000 mk := (hf_200 288 (by decide)).trans hv15
      have hc_241 : σ_203 289 = q_an G 6724 va := (hf_200 289 (by decide)).trans hv16
      have hc_242 : σ_203 290 = q_an G 6724 sp := (hf_200 290 (by decide)).trans hv17
      have hc_243 : σ_203 291 = q_an G 80 lp := (hf_200 291 (by decide)).trans hv18
      have hc_244 : σ_203 292 = q_an G 600 f := (hf_200 292 (by decide)).trans hv19
      have hc_245 : σ_203 293 = q_an G 300 ou := (hf_200 293 (by decide)).trans hv20
      have hc_246 : σ_203 294 = q_ln G 1 oL := (hf_200 294 (by decide)).trans hv21
      have hc_247 : σ_203 295 = q_dn G 1 oD := (hf_200 295 (by decide)).trans hv22
      have hub_i1M := (hg9.2.2.2.2.2.1 r1M Mhrl).1
      exact (Chxx r1M (by omega) Mhre).elim
    · skip
      refine (?_ : AJ G K Q (kc + 1) (ks + 6) false 296 840 [some (.ref bS), some (.ref (q_h G + 0)), some (.ref (q_h G + 279)), some (.ref (q_h G + 294)), some (.ref (q_h G + 295)), some (.int (nI (i))), some (.int (nI (1))), none, none] [.int (nI (0))] σ_203)
      have hc_201 : σ_203 279 = o11 G (upd F 7 (nI (0))) := hc_201
      have hc_248 : σ_203 0 = o10 G (nI (il)) (z2) (z3) := (hf_202 0 (by decide)).trans hv0
      have hc_249 : σ_203 1 = q_an G 600 f := (hf_202 1 (by decide)).trans hv1
      have hc_250 : σ_203 23 = o5 G (23) (nI (lo)) := (hf_202 23 (by decide)).trans hv2
      have hc_251 : σ_203 24 = q_an G 256 o := (hf_202 24 (by decide)).trans hv3
      have hc_252 : σ_203 224 = q_rn G 2 2 (fun j => some (243 + 18 * j)) := (hf_202 224 (by decide)).trans hv4
      have hc_253 : σ_203 225 = q_bn G 2 kp := (hf_202 225 (by decide)).trans hv5
      have hc_254 : σ_203 280 = q_an G 265 g := (hf_202 280 (by decide)).trans hv7
      have hc_255 : σ_203 281 = q_an G 265 wk := (hf_202 281 (by decide)).trans hv8
      have hc_256 : σ_203 282 = q_an G 265 as := (hf_202 282 (by decide)).trans hv9
      have hc_257 : σ_203 283 = q_an G 530 sh := (hf_202 283 (by decide)).trans hv10
      have hc_258 : σ_203 284 = q_an G 2120 a := (hf_202 284 (by decide)).trans hv11
      have hc_259 : σ_203 285 = q_bn G 1681 fb := (hf_202 285 (by decide)).trans hv12
      have hc_260 : σ_203 286 = q_an G 1681 nv := (hf_202 286 (by decide)).trans hv13
      have hc_261 : σ_203 287 = q_an G 1681 ns := (hf_202 287 (by decide)).trans hv14
      have hc_262 : σ_203 288 = q_an G 2000 mk := (hf_202 288 (by decide)).trans hv15
      have hc_263 : σ_203 289 = q_an G 6724 va := (hf_202 289 (by decide)).trans hv16
      have hc_264 : σ_203 290 = q_an G 6724 sp := (hf_202 290 (by decide)).trans hv17
      have hc_265 : σ_203 291 = q_an G 80 lp := (hf_202 291 (by decide)).trans hv18
      have hc_266 : σ_203 292 = q_an G 600 f := (hf_202 292 (by decide)).trans hv19
      have hc_267 : σ_203 293 = q_an G 300 ou := (hf_202 293 (by decide)).trans hv20
      have hc_268 : σ_203 294 = q_ln G 1 oL := (hf_202 294 (by decide)).trans hv21
      have hc_269 : σ_203 295 = q_dn G 1 oD := (hf_202 295 (by decide)).trans hv22
      exact (Chxx r1M (by omega) Mhre).elim
end
