section
set_option maxRecDepth 100000 in
set_option maxHeartbeats 4000000 in
theorem law_c36 (G : GL) (K : KC) (Q : State → Prop) (hh : List (Nat × Nat × Nat × Nat)) (hg : Gd G K RL code 9 ret room_1 hh) (bS L : Nat) (xs : Nat → Int32) (hX : q_scr G K bS L xs) (i kc ks J : Nat) (hi : i + 5 < L) (hL31 : L < 2 ^ 31) (hkc : kc + 8 ≤ 601024) (hks : ks + 48 ≤ 7293034) (σ : Nat → va_E) (hI : iv G σ J) (hJ : J < 512) (hfd : q_fdn) (hdd : q_ddn) (hf2 : q_f2n) (hds : q_dcs) (hnxt : ∀ σ9 : Nat → va_E, iv G σ9 (J + 1) → AJ G K Q (kc + 8) (ks + 48) false 296 3062 [some (.ref bS), some (.ref (q_h G + 0)), some (.ref (q_h G + 279)), some (.ref (q_h G + 294)), some (.ref (q_h G + 295)), some (.int (nI (i))), none, none, none] [] σ9) : AJ G K Q kc ks false 296 2512 [some (.ref bS), some (.ref (q_h G + 0)), some (.ref (q_h G + 279)), some (.ref (q_h G + 294)), some (.ref (q_h G + 295)), some (.int (nI (i))), none, none, none] [] σ := by
  refine iv_el hI ?_
  intro il z2 z3 f lo o g nx m ps kp sn F wk as sh a fb nv ns mk va sp lp mc z ss ou oL oD
  intro hv0 hv1 hv2 hv3 hv4 hv5 hv6 hv7 hv8 hv9 hv10 hv11 hv12 hv13 hv14 hv15 hv16 hv17 hv18 hv19 hv20 hv21 hv22
  intro hL hG hM hHi hO hT hH hSn hKp
  intro hil hfb hlo2 hou hgd hps hk1 hkss hss hsn hF5 hF6 hF12 hF16 hF21 hF22 hF23 hF33 hmc hmk hTI hlo
  have hfK : ∀ a b : Nat, a ≤ 8 → b ≤ 48 → kc + a ≤ room_1.cells ∧ ks + b ≤ room_1.slots := fun a b h1 h2 => ⟨by show kc + a ≤ 601024; omega, by show ks + b ≤ 7293034; omega⟩
  have hg9 := iv_g hG
  obtain ⟨hnx8, hm8, hc78⟩ := iv_hi hHi
  have hbb := iv_byte (m := il) hfb
  have hg90 := hg9.1
  have hg96 := hg9.2.2.2.2.1
  have hnp8 := s_np_le hg9
  refine A_aload_n hg dL_law_2512 rfl rfl ?_
  refine A_aload_n hg dL_law_2513 rfl rfl ?_
  refine A_iload hg dL_law_2514 rfl ?_
  refine A_iconst (v := (nI (1))) hg dL_law_2516 (by decide) ?_
  refine A_iaddN hg dL_law_2517 ?_
  refine A_sld hg hX (i + 1) (by omega) dL_law_2518 ?_
  refine A_aload_n hg dL_law_2519 rfl rfl ?_
  refine A_iload hg dL_law_2520 rfl ?_
  refine A_iconst (v := (nI (2))) hg dL_law_2522 (by decide) ?_
  refine A_iaddN hg dL_law_2523 ?_
  refine A_sld hg hX (i + 2) (by omega) dL_law_2524 ?_
  refine A_aload_n hg dL_law_2525 rfl rfl ?_
  refine A_iload hg dL_law_2526 rfl ?_
  refine A_iconst (v := (nI (3))) hg dL_law_2528 (by decide) ?_
  refine A_iaddN hg dL_law_2529 ?_
  refine A_sld hg hX (i + 3) (by omega) dL_law_2530 ?_
  refine A_aload_n hg dL_law_2531 rfl rfl ?_
  refine A_iload hg dL_law_2532 rfl ?_
  refine A_iconst (v := (nI (4))) hg dL_law_2534 (by decide) ?_
  refine A_iaddN hg dL_law_2535 ?_
  refine A_sld hg hX (i + 4) (by omega) dL_law_2536 ?_
  refine A_if_eq (tgt := 2544) hg dL_law_2537 (by decide) (fun c2537 => ?_) (fun c2537 => ?_)
  · skip
    refine A_iconst (v := (nI (0))) hg dL_law_2544 (by decide) ?_
    refine A_aload_n hg dL_law_2545 rfl rfl ?_
    refine A_callSH (As := [.ref (q_h G + 0), .int (xs (i + 1)), .int (xs (i + 2)), .int (xs (i + 3)), .int (nI (0)), .ref (q_h G + 294)]) (rest := []) hg lkH_269 stH_L_bar dL_law_2546 ⟨by decide, by decide⟩ (hfK 5 30 (by decide) (by decide)) rfl rfl (Nat.le_of_ble_eq_true rfl) (c_L_bar G 296 σ (nI (il)) z2 z3 g nx m ps (xs (i + 1)) (xs (i + 2)) (xs (i + 3)) false oL hv0 hv21 (by omega) hG hHi (by omega)) ?_
    rintro _ σ_1 (⟨r1C, a1C, b1C, rfl, Chre, Chrl, Chke, Chle, Chkl, Chll, Chkp, ChG2, ChHi2, hc_2, hf_3⟩ | ⟨rfl, Chxx, he_4⟩ | ⟨rfl, Chxx, he_5⟩ | ⟨rfl, Chxx, he_6⟩)
    · skip
      refine (?_ : AJ G K Q (kc + 5) (ks + 30) false 296 2549 [some (.ref bS), some (.ref (q_h G + 0)), some (.ref (q_h G + 279)), some (.ref (q_h G + 294)), some (.ref (q_h G + 295)), some (.int (nI (i))), none, none, none] [.int (nI (0))] σ_1)
      have hc_7 : σ_1 0 = o10 G (nI (il)) (z2) (z3) := (hf_3 0 (by decide)).trans hv0
      have hc_8 : σ_1 1 = q_an G 600 f := (hf_3 1 (by decide)).trans hv1
      have hc_9 : σ_1 23 = o5 G (23) (nI (lo)) := (hf_3 23 (by decide)).trans hv2
      have hc_10 : σ_1 24 = q_an G 256 o := (hf_3 24 (by decide)).trans hv3
      have hc_11 : σ_1 224 = q_rn G 2 2 (fun j => some (243 + 18 * j)) := (hf_3 224 (by decide)).trans hv4
      have hc_12 : σ_1 225 = q_bn G 2 kp := (hf_3 225 (by decide)).trans hv5
      have hc_13 : σ_1 279 = o11 G F := (hf_3 279 (by decide)).trans hv6
      have hc_14 : σ_1 280 = q_an G 265 g := (hf_3 280 (by decide)).trans hv7
      have hc_15 : σ_1 281 = q_an G 265 wk := (hf_3 281 (by decide)).trans hv8
      have hc_16 : σ_1 282 = q_an G 265 as := (hf_3 282 (by decide)).trans hv9
      have hc_17 : σ_1 283 = q_an G 530 sh := (hf_3 283 (by decide)).trans hv10
      have hc_18 : σ_1 284 = q_an G 2120 a := (hf_3 284 (by decide)).trans hv11
      have hc_19 : σ_1 285 = q_bn G 1681 fb := (hf_3 285 (by decide)).trans hv12
      have hc_20 : σ_1 286 = q_an G 1681 nv := (hf_3 286 (by decide)).trans hv13
      have hc_21 : σ_1 287 = q_an G 1681 ns := (hf_3 287 (by decide)).trans hv14
      have hc_22 : σ_1 288 = q_an G 2000 mk := (hf_3 288 (by decide)).trans hv15
      have hc_23 : σ_1 289 = q_an G 6724 va := (hf_3 289 (by decide)).trans hv16
      have hc_24 : σ_1 290 = q_an G 6724 sp := (hf_3 290 (by decide)).trans hv17
      have hc_25 : σ_1 291 = q_an G 80 lp := (hf_3 291 (by decide)).trans hv18
      have hc_26 : σ_1 292 = q_an G 600 f := (hf_3 292 (by decide)).trans hv19
      have hc_27 : σ_1 293 = q_an G 300 ou := (hf_3 293 (by decide)).trans hv20
      have hc_28 : σ_1 295 = q_dn G 1 oD := (hf_3 295 (by decide)).trans hv22
      refine A_istore hg dL_law_2549 (by decide) (q_c1d rfl) ?_
      refine A_eq (ls2 := [some (.ref bS), some (.ref (q_h G + 0)), some (.ref (q_h G + 279)), some (.ref (q_h G + 294)), some (.ref (q_h G + 295)), some (.int (nI (i))), some (.int (nI (0))), none, none]) (st2 := []) (pc2 := 0) rfl rfl ?_
      refine A_aload_n hg dL_law_2551 rfl rfl ?_
      refine A_aload_n hg dL_law_2552 rfl rfl ?_
      refine A_iload hg dL_law_2553 rfl ?_
      refine A_iconst (v := (nI (1))) hg dL_law_2555 (by decide) ?_
      refine A_iaddN hg dL_law_2556 ?_
      refine A_sld hg hX (i + 1) (by omega) dL_law_2557 ?_
      refine A_aload_n hg dL_law_2558 rfl rfl ?_
      refine A_iload hg dL_law_2559 rfl ?_
      refine A_iconst (v := (nI (2))) hg dL_law_2561 (by decide) ?_
      refine A_iaddN hg dL_law_2562 ?_
      refine A_sld hg hX (i + 2) (by omega) dL_law_2563 ?_
      refine A_aload_n hg dL_law_2564 rfl rfl ?_
      refine A_iload hg dL_law_2565 rfl ?_
      refine A_iconst (v := (nI (3))) hg dL_law_2567 (by decide) ?_
      refine A_iaddN hg dL_law_2568 ?_
      refine A_sld hg hX (i + 3) (by omega) dL_law_2569 ?_
      refine A_aload_n hg dL_law_2570 rfl rfl ?_
      refine A_iload hg dL_law_2571 rfl ?_
      refine A_iconst (v := (nI (4))) hg dL_law_2573 (by decide) ?_
      refine A_iaddN hg dL_law_2574 ?_
      refine A_sld hg hX (i + 4) (by omega) dL_law_2575 ?_
      refine A_if_eq (tgt := 2583) hg dL_law_2576 (by decide) (fun _ => ?_) (fun z9 => absurd c2537 z9)
      refine A_iconst (v := (nI (0))) hg dL_law_2583 (by decide) ?_
      refine A_hV (kc2 := kc + 5) (ks2 := ks + 30) (As := [.int (xs (i + 1)), .int (xs (i + 2)), .int (xs (i + 3)), .int (nI (0))]) (rest := []) hg lk_RL_272 in_X11_bar se_X11_bar rfl dL_law_2584 ⟨by decide, by decide⟩ rfl rfl (hfK 5 30 (by decide) (by decide)) hc_13 (by omega) rfl rfl (Nat.le_of_ble_eq_true rfl) (c_X11_barB G false 296 σ_1 F g a m (xs (i + 1)) (xs (i + 2)) (xs (i + 3)) false hc_13 hc_14 hc_18 (by omega) hg9 hF5 (by omega)) ?_
      rintro _ σ_39 (⟨rfl, Mhno, hc_29, hf_30⟩ | ⟨r1M, rfl, Mhre, Mhrl, Mhnp, hc_31, hf_32⟩ | ⟨r1M, a1M, b1M, rfl, Mhre, Mhrl, Mhke, Mhle, Mhkl, Mhll, Mhkp, Mhst, Mhsb, Mhs4, hc_33, hf_34⟩ | ⟨r1M, a1M, b1M, aqM, rfl, Mhre, Mhrl, Mhke, Mhle, Mhkl, Mhll, Mhkp, Mhnew, Mhold, Mhb4, hc_35, hc_36, hc_37, hf_38⟩)
      · skip
        refine (?_ : AJ G K Q (kc + 5) (ks + 30) false 296 2587 [some (.ref bS), some (.ref (q_h G + 0)), some (.ref (q_h G + 279)), some (.ref (q_h G + 294)), some (.ref (q_h G + 295)), some (.int (nI (i))), some (.int (nI (0))), none, none] [.int (nI (0))] σ_39)
        have hc_29 : σ_39 279 = o11 G (upd F 7 (nI (1))) := hc_29
        have hc_40 : σ_39 0 = o10 G (nI (il)) (z2) (z3) := (hf_30 0 (by decide)).trans hc_7
        have hc_41 : σ_39 1 = q_an G 600 f := (hf_30 1 (by decide)).trans hc_8
        have hc_42 : σ_39 23 = o5 G (23) (nI (lo)) := (hf_30 23 (by decide)).trans hc_9
        have hc_43 : σ_39 24 = q_an G 256 o := (hf_30 24 (by decide)).trans hc_10
        have hc_44 : σ_39 224 = q_rn G 2 2 (fun j => some (243 + 18 * j)) := (hf_30 224 (by decide)).trans hc_11
        have hc_45 : σ_39 225 = q_bn G 2 kp := (hf_30 225 (by decide)).trans hc_12
        have hc_46 : σ_39 280 = q_an G 265 g := (hf_30 280 (by decide)).trans hc_14
        have hc_47 : σ_39 281 = q_an G 265 wk := (hf_30 281 (by decide)).trans hc_15
        have hc_48 : σ_39 282 = q_an G 265 as := (hf_30 282 (by decide)).trans hc_16
        have hc_49 : σ_39 283 = q_an G 530 sh := (hf_30 283 (by decide)).trans hc_17
        have hc_50 : σ_39 284 = q_an G 2120 a := (hf_30 284 (by decide)).trans hc_18
        have hc_51 : σ_39 285 = q_bn G 1681 fb := (hf_30 285 (by decide)).trans hc_19
        have hc_52 : σ_39 286 = q_an G 1681 nv := (hf_30 286 (by decide)).trans hc_20
        have hc_53 : σ_39 287 = q_an G 1681 ns := (hf_30 287 (by decide)).trans hc_21
        have hc_54 : σ_39 288 = q_an G 2000 mk := (hf_30 288 (by decide)).trans hc_22
        have hc_55 : σ_39 289 = q_an G 6724 va := (hf_30 289 (by decide)).trans hc_23
        have hc_56 : σ_39 290 = q_an G 6724 sp := (hf_30 290 (by decide)).trans hc_24
        have hc_57 : σ_39 291 = q_an G 80 lp := (hf_30 291 (by decide)).trans hc_25
        have hc_58 : σ_39 292 = q_an G 600 f := (hf_30 292 (by decide)).trans hc_26
        have hc_59 : σ_39 293 = q_an G 300 ou := (hf_30 293 (by decide)).trans hc_27
        have hc_60 : σ_39 295 = q_dn G 1 oD := (hf_30 295 (by decide)).trans hc_28
        have hc_61 : σ_39 294 = q_ln G 1 (va_up oL 0 ((nI (s_rule (s_barG g r1C false a1C b1C) r1C 20)).toInt64)) := (hf_30 294 (by decide)).trans hc_2
        exact (Mhno r1C (by omega) Chre).elim
      · skip
        refine (?_ : AJ G K Q (kc + 5) (ks + 30) false 296 2587 [some (.ref bS), some (.ref (q_h G + 0)), some (.ref (q_h G + 279)), some (.ref (q_h G + 294)), some (.ref (q_h G + 295)), some (.int (nI (i))), some (.int (nI (0))), none, none] [.int (nI (0))] σ_39)
        have hc_31 : σ_39 279 = o11 G (upd F 7 (nI (2))) := hc_31
        have hc_62 : σ_39 0 = o10 G (nI (il)) (z2) (z3) := (hf_32 0 (by decide)).trans hc_7
        have hc_63 : σ_39 1 = q_an G 600 f := (hf_32 1 (by decide)).trans hc_8
        have hc_64 : σ_39 23 = o5 G (23) (nI (lo)) := (hf_32 23 (by decide)).trans hc_9
        have hc_65 : σ_39 24 = q_an G 256 o := (hf_32 24 (by decide)).trans hc_10
        have hc_66 : σ_39 224 = q_rn G 2 2 (fun j => some (243 + 18 * j)) := (hf_32 224 (by decide)).trans hc_11
        have hc_67 : σ_39 225 = q_bn G 2 kp := (hf_32 225 (by decide)).trans hc_12
        have hc_68 : σ_39 280 = q_an G 265 g := (hf_32 280 (by decide)).trans hc_14
        have hc_69 : σ_39 281 = q_an G 265 wk := (hf_32 281 (by decide)).trans hc_15
        have hc_70 : σ_39 282 = q_an G 265 as := (hf_32 282 (by decide)).trans hc_16
        have hc_71 : σ_39 283 = q_an G 530 sh := (hf_32 283 (by decide)).trans hc_17
        have hc_72 : σ_39 284 = q_an G 2120 a := (hf_32 284 (by decide)).trans hc_18
        have hc_73 : σ_39 285 = q_bn G 1681 fb := (hf_32 285 (by decide)).trans hc_19
        have hc_74 : σ_39 286 = q_an G 1681 nv := (hf_32 286 (by decide)).trans hc_20
        have hc_75 : σ_39 287 = q_an G 1681 ns := (hf_32 287 (by decide)).trans hc_21
        have hc_76 : σ_39 288 = q_an G 2000 mk := (hf_32 288 (by decide)).trans hc_22
        have hc_77 : σ_39 289 = q_an G 6724 va := (hf_32 289 (by decide)).trans hc_23
        have hc_78 : σ_39 290 = q_an G 6724 sp := (hf_32 290 (by decide)).trans hc_24
        have hc_79 : σ_39 291 = q_an G 80 lp := (hf_32 291 (by decide)).trans hc_25
        have hc_80 : σ_39 292 = q_an G 600 f := (hf_32 292 (by decide)).trans hc_26
        have hc_81 : σ_39 293 = q_an G 300 ou := (hf_32 293 (by decide)).trans hc_27
        have hc_82 : σ_39 295 = q_dn G 1 oD := (hf_32 295 (by decide)).trans hc_28
        have hc_83 : σ_39 294 = q_ln G 1 (va_up oL 0 ((nI (s_rule (s_barG g r1C false a1C b1C) r1C 20)).toInt64)) := (hf_32 294 (by decide)).trans hc_2
        have e_r : r1C = r1M := q_nI_inj (by omega) (by omega) (Chre.symm.trans Mhre)
        subst e_r
        exact (Mhnp a1C b1C (by omega) (by omega) (by omega) Chke Chle).elim
      · skip
        refine (?_ : AJ G K Q (kc + 5) (ks + 30) false 296 2587 [some (.ref bS), some (.ref (q_h G + 0)), some (.ref (q_h G + 279)), some (.ref (q_h G + 294)), some (.ref (q_h G + 295)), some (.int (nI (i))), some (.int (nI (0))), none, none] [.int (nI (0))] σ_39)
        have hc_33 : σ_39 279 = o11 G (upd F 7 (nI (3))) := hc_33
        have hc_84 : σ_39 0 = o10 G (nI (il)) (z2) (z3) := (hf_34 0 (by decide)).trans hc_7
        have hc_85 : σ_39 1 = q_an G 600 f := (hf_34 1 (by decide)).trans hc_8
        have hc_86 : σ_39 23 = o5 G (23) (nI (lo)) := (hf_34 23 (by decide)).trans hc_9
        have hc_87 : σ_39 24 = q_an G 256 o := (hf_34 24 (by decide)).trans hc_10
        have hc_88 : σ_39 224 = q_rn G 2 2 (fun j => some (243 + 18 * j)) := (hf_34 224 (by decide)).trans hc_11
        have hc_89 : σ_39 225 = q_bn G 2 kp := (hf_34 225 (by decide)).trans hc_12
        have hc_90 : σ_39 280 = q_an G 265 g := (hf_34 280 (by decide)).trans hc_14
        have hc_91 : σ_39 281 = q_an G 265 wk := (hf_34 281 (by decide)).trans hc_15
        have hc_92 : σ_39 282 = q_an G 265 as := (hf_34 282 (by decide)).trans hc_16
        have hc_93 : σ_39 283 = q_an G 530 sh := (hf_34 283 (by decide)).trans hc_17
        have hc_94 : σ_39 284 = q_an G 2120 a := (hf_34 284 (by decide)).trans hc_18
        have hc_95 : σ_39 285 = q_bn G 1681 fb := (hf_34 285 (by decide)).trans hc_19
        have hc_96 : σ_39 286 = q_an G 1681 nv := (hf_34 286 (by decide)).trans hc_20
        have hc_97 : σ_39 287 = q_an G 1681 ns := (hf_34 287 (by decide)).trans hc_21
        have hc_98 : σ_39 288 = q_an G 2000 mk := (hf_34 288 (by decide)).trans hc_22
        have hc_99 : σ_39 289 = q_an G 6724 va := (hf_34 289 (by decide)).trans hc_23
        have hc_100 : σ_39 290 = q_an G 6724 sp := (hf_34 290 (by decide)).trans hc_24
        have hc_101 : σ_39 291 = q_an G 80 lp := (hf_34 291 (by decide)).trans hc_25
        have hc_102 : σ_39 292 = q_an G 600 f := (hf_34 292 (by decide)).trans hc_26
        have hc_103 : σ_39 293 = q_an G 300 ou := (hf_34 293 (by decide)).trans hc_27
        have hc_104 : σ_39 295 = q_dn G 1 oD := (hf_34 295 (by decide)).trans hc_28
        have hc_105 : σ_39 294 = q_ln G 1 (va_up oL 0 ((nI (s_rule (s_barG g r1C false a1C b1C) r1C 20)).toInt64)) := (hf_34 294 (by decide)).trans hc_2
        have e_r : r1C = r1M := q_nI_inj (by omega) (by omega) (Chre.symm.trans Mhre)
        subst e_r
        have e_k : a1C = a1M := q_nI_inj (by omega) (by omega) (Chke.symm.trans Mhke)
        subst e_k
        have e_l : b1C = b1M := q_nI_inj (by omega) (by omega) (Chle.symm.trans Mhle)
        subst e_l
        have hz9 := iv_bar hg9 Chrl (iv_g ChG2) Mhst Mhsb
        omega
      · skip
        refine (?_ : AJ G K Q (kc + 5) (ks + 30) false 296 2587 [some (.ref bS), some (.ref (q_h G + 0)), some (.ref (q_h G + 279)), some (.ref (q_h G + 294)), some (.ref (q_h G + 295)), some (.int (nI (i))), some (.int (nI (0))), none, none] [.int (nI (s_rule (s_barG g r1M false a1M b1M) r1M 20))] σ_39)
        have hc_35 : σ_39 279 = o11 G (upd (upd F 5 (nI (s_pmany m + 1))) 7 (nI (0))) := hc_35
        have hc_106 : σ_39 0 = o10 G (nI (il)) (z2) (z3) := (hf_38 0 (by decide)).trans hc_7
        have hc_107 : σ_39 1 = q_an G 600 f := (hf_38 1 (by decide)).trans hc_8
        have hc_108 : σ_39 23 = o5 G (23) (nI (lo)) := (hf_38 23 (by decide)).trans hc_9
        have hc_109 : σ_39 24 = q_an G 256 o := (hf_38 24 (by decide)).trans hc_10
        have hc_110 : σ_39 224 = q_rn G 2 2 (fun j => some (243 + 18 * j)) := (hf_38 224 (by decide)).trans hc_11
        have hc_111 : σ_39 225 = q_bn G 2 kp := (hf_38 225 (by decide)).trans hc_12
        have hc_112 : σ_39 281 = q_an G 265 wk := (hf_38 281 (by decide)).trans hc_15
        have hc_113 : σ_39 282 = q_an G 265 as := (hf_38 282 (by decide)).trans hc_16
        have hc_114 : σ_39 283 = q_an G 530 sh := (hf_38 283 (by decide)).trans hc_17
        have hc_115 : σ_39 285 = q_bn G 1681 fb := (hf_38 285 (by decide)).trans hc_19
        have hc_116 : σ_39 286 = q_an G 1681 nv := (hf_38 286 (by decide)).trans hc_20
        have hc_117 : σ_39 287 = q_an G 1681 ns := (hf_38 287 (by decide)).trans hc_21
        have hc_118 : σ_39 288 = q_an G 2000 mk := (hf_38 288 (by decide)).trans hc_22
        have hc_119 : σ_39 289 = q_an G 6724 va := (hf_38 289 (by decide)).trans hc_23
        have hc_120 : σ_39 290 = q_an G 6724 sp := (hf_38 290 (by decide)).trans hc_24
        have hc_121 : σ_39 291 = q_an G 80 lp := (hf_38 291 (by decide)).trans hc_25
        have hc_122 : σ_39 292 = q_an G 600 f := (hf_38 292 (by decide)).trans hc_26
        have hc_123 : σ_39 293 = q_an G 300 ou := (hf_38 293 (by decide)).trans hc_27
        have hc_124 : σ_39 295 = q_dn G 1 oD := (hf_38 295 (by decide)).trans hc_28
        have hc_125 : σ_39 294 = q_ln G 1 (va_up oL 0 ((nI (s_rule (s_barG g r1C false a1C b1C) r1C 20)).toInt64)) := (hf_38 294 (by decide)).trans hc_2
        have e_r : r1C = r1M := q_nI_inj (by omega) (by omega) (Chre.symm.trans Mhre)
        subst e_r
        have e_k : a1C = a1M := q_nI_inj (by omega) (by omega) (Chke.symm.trans Mhke)
        subst e_k
        have e_l : b1C = b1M := q_nI_inj (by omega) (by omega) (Chle.symm.trans Mhle)
        subst e_l
        refine A_istore hg dL_law_2587 (by decide) (q_c1d rfl) ?_
        refine A_eq (ls2 := [some (.ref bS), some (.ref (q_h G + 0)), some (.ref (q_h G + 279)), some (.ref (q_h G + 294)), some (.ref (q_h G + 295)), some (.int (nI (i))), some (.int (nI (0))), some (.int (nI (s_rule (s_barG g r1C false a1C b1C) r1C 20))), none]) (st2 := []) (pc2 := 0) rfl rfl ?_
        refine A_aload_n hg dL_law_2589 rfl rfl ?_
        refine A_eV (kc2 := kc + 5) (ks2 := ks + 30) (As := []) (rest := []) hg lk_RL_170 in_X11_thrown se_X11_thrown rfl dL_law_2590 ⟨by decide, by decide⟩ rfl rfl (hfK 5 30 (by decide) (by decide)) hc_35 (by omega) rfl rfl (Nat.le_of_ble_eq_true rfl) (c_X11_thrown G false 296 σ_39 (upd (upd F 5 (nI (s_pmany m + 1))) 7 (nI (0))) hc_35 (by omega)) ?_
        refine A_top (w := .int (nI (0))) (congrArg Value.int rfl) ?_
        refine A_iload hg dL_law_2593 rfl ?_
        refine A_icmp_eqN (tgt := 2600) hg dL_law_2595 (by decide) (by decide) (by decide) (fun c2595 => ?_) (fun c2595 => False.elim (by omega))
        refine A_iload hg dL_law_2600 rfl ?_
        refine A_if_neN (tgt := 2617) hg dL_law_2602 (by decide) (by decide) (fun c2602 => absurd (by decide) c2602) (fun c2602 => ?_)
        refine A_aload_n hg dL_law_2605 rfl rfl ?_
        refine A_iconst (v := (nI (0))) hg dL_law_2606 (by decide) ?_
        refine A_lald (j := 0) hg dL_law_2607 hc_125 (by omega) (by decide) (by decide) ?_
        refine A_top (w := .long ((nI (s_rule (s_barG g r1C false a1C b1C) r1C 20)).toInt64)) (congrArg Value.long iv_up0) ?_
        refine A_iload hg dL_law_2608 rfl ?_
        refine A_i2l (v := (nI (s_rule (s_barG g r1C false a1C b1C) r1C 20)).toInt64) hg dL_law_2610 rfl ?_
        refine A_lcmp hg dL_law_2611 ?_
        refine A_top (w := .int (nI 0)) (congrArg Value.int (lc_self _)) ?_
        refine A_if_eqN (tgt := 2617) hg dL_law_2612 (by decide) (by decide) (fun c2612 => ?_) (fun c2612 => absurd (by decide) c2612)
        refine A_goto (tgt := 3062) hg dL_law_2617 (by decide) ?_
        refine A_drop 6 ?_
        refine A_drop 7 ?_
        refine A_eq (ls2 := [some (.ref bS), some (.ref (q_h G + 0)), some (.ref (q_h G + 279)), some (.ref (q_h G + 294)), some (.ref (q_h G + 295)), some (.int (nI (i))), none, none, none]) (st2 := []) (pc2 := 0) rfl rfl ?_
        refine A_wide (kc2 := kc + 8) (ks2 := ks + 48) (by omega) (by omega) ?_
        exact hnxt _ (iv_mk il z2 z3 f lo o (s_barG g r1C false a1C b1C) ((nx + 1) % 8) (min (m + 1) 8) (x_psh m ps g) kp sn (upd (upd F 5 (nI (s_pmany m + 1))) 7 (nI (0))) wk as sh aqM fb nv ns mk va sp lp mc z ss ou (va_up oL 0 ((nI (s_rule (s_barG g r1C false a1C b1C) r1C 20)).toInt64)) oD hc_106 hc_107 hc_108 hc_109 hc_110 hc_111 hc_35 hc_36 hc_112 hc_113 hc_114 hc_37 hc_115 hc_116 hc_117 hc_118 hc_119 hc_120 hc_121 hc_122 hc_123 hc_125 hc_124 (x_lj_e (fun i _ _ => ((hf_38 i (by omega)).trans (hf_3 i (by omega)))) hL) (x_gm_e (fun i _ _ => (hf_38 i (by omega))) ChG2) (x_mx_e (fun i _ _ => ((hf_38 i (by omega)).trans (hf_3 i (by omega)))) hM) (x_hi_e (fun i _ _ => (hf_38 i (by omega))) ChHi2) (x_oj_e (fun i _ _ => ((hf_38 i (by omega)).trans (hf_3 i (by omega)))) hO) (x_pj_e (fun i _ _ => ((hf_38 i (by omega)).trans (hf_3 i (by omega)))) hT) (iv_hn (fun i _ _ => ((hf_38 i (by omega)).trans (hf_3 i (by omega)))) hH) (iv_Sn (fun i _ _ => ((hf_38 i (by omega)).trans (hf_3 i (by omega)))) hSn) (iv_Kp (fun i _ _ => ((hf_38 i (by omega)).trans (hf_3 i (by omega)))) hKp) (by omega) hfb (by omega) hou (x_gbd_bar hg9 Chrl (iv_bar hg9 Chrl (iv_g ChG2)) hgd) (iv_push hm8 hgd hps Mhnew Mhold) hk1 hkss hss hsn (congrArg nI (iv_pm hm8)) hF6 hF12 hF16 hF21 hF22 hF23 hF33 (by omega) hmk hTI hlo)
    · skip
      rw [he_4]
      refine (?_ : AJ G K Q (kc + 5) (ks + 30) false 296 2549 [some (.ref bS), some (.ref (q_h G + 0)), some (.ref (q_h G + 279)), some (.ref (q_h G + 294)), some (.ref (q_h G + 295)), some (.int (nI (i))), none, none, none] [.int (nI (1))] σ)
      refine A_istore hg dL_law_2549 (by decide) (q_c1d rfl) ?_
      refine A_eq (ls2 := [some (.ref bS), some (.ref (q_h G + 0)), some (.ref (q_h G + 279)), some (.ref (q_h G + 294)), some (.ref (q_h G + 295)), some (.int (nI (i))), some (.int (nI (1))), none, none]) (st2 := []) (pc2 := 0) rfl rfl ?_
      refine A_aload_n hg dL_law_2551 rfl rfl ?_
      refine A_aload_n hg dL_law_2552 rfl rfl ?_
      refine A_iload hg dL_law_2553 rfl ?_
      refine A_iconst (v := (nI (1))) hg dL_law_2555 (by decide) ?_
      refine A_iaddN hg dL_law_2556 ?_
      refine A_sld hg hX (i + 1) (by omega) dL_law_2557 ?_
      refine A_aload_n hg dL_law_2558 rfl rfl ?_
      refine A_iload hg dL_law_2559 rfl ?_
      refine A_iconst (v := (nI (2))) hg dL_law_2561 (by decide) ?_
      refine A_iaddN hg dL_law_2562 ?_
      refine A_sld hg hX (i + 2) (by omega) dL_law_2563 ?_
      refine A_aload_n hg dL_law_2564 rfl rfl ?_
      refine A_iload hg dL_law_2565 rfl ?_
      refine A_iconst (v := (nI (3))) hg dL_law_2567 (by decide) ?_
      refine A_iaddN hg dL_law_2568 ?_
      refine A_sld hg hX (i + 3) (by omega) dL_law_2569 ?_
      refine A_aload_n hg dL_law_2570 rfl rfl ?_
      refine A_iload hg dL_law_2571 rfl ?_
      refine A_iconst (v := (nI (4))) hg dL_law_2573 (by decide) ?_
      refine A_iaddN hg dL_law_2574 ?_
      refine A_sld hg hX (i + 4) (by omega) dL_law_2575 ?_
      refine A_if_eq (tgt := 2583) hg dL_law_2576 (by decide) (fun _ => ?_) (fun z9 => absurd c2537 z9)
      refine A_iconst (v := (nI (0))) hg dL_law_2583 (by decide) ?_
      refine A_hV (kc2 := kc + 5) (ks2 := ks + 30) (As := [.int (xs (i + 1)), .int (xs (i + 2)), .int (xs (i + 3)), .int (nI (0))]) (rest := []) hg lk_RL_272 in_X11_bar se_X11_bar rfl dL_law_2584 ⟨by decide, by decide⟩ rfl rfl (hfK 5 30 (by decide) (by decide)) hv6 (by omega) rfl rfl (Nat.le_of_ble_eq_true rfl) (c_X11_barB G false 296 σ F g a m (xs (i + 1)) (xs (i + 2)) (xs (i + 3)) false hv6 hv7 hv11 (by omega) hg9 hF5 (by omega)) ?_
      rintro _ σ_136 (⟨rfl, Mhno, hc_126, hf_127⟩ | ⟨r1M, rfl, Mhre, Mhrl, Mhnp, hc_128, hf_129⟩ | ⟨r1M, a1M, b1M, rfl, Mhre, Mhrl, Mhke, Mhle, Mhkl, Mhll, Mhkp, Mhst, Mhsb, Mhs4, hc_130, hf_131⟩ | ⟨r1M, a1M, b1M, aqM, rfl, Mhre, Mhrl, Mhke, Mhle, Mhkl, Mhll, Mhkp, Mhnew, Mhold, Mhb4, hc_132, hc_133, hc_134, hf_135⟩)
      · skip
        refine (?_ : AJ G K Q (kc + 5) (ks + 30) false 296 2587 [some (.ref bS), some (.ref (q_h G + 0)), some (.ref (q_h G + 279)), some (.ref (q_h G + 294)), some (.ref (q_h G + 295)), some (.int (nI (i))), some (.int (nI (1))), none, none] [.int (nI (0))] σ_136)
        have hc_126 : σ_136 279 = o11 G (upd F 7 (nI (1))) := hc_126
        have hc_137 : σ_136 0 = o10 G (nI (il)) (z2) (z3) := (hf_127 0 (by decide)).trans hv0
        have hc_138 : σ_136 1 = q_an G 600 f := (hf_127 1 (by decide)).trans hv1
        have hc_139 : σ_136 23 = o5 G (23) (nI (lo)) := (hf_127 23 (by decide)).trans hv2
        have hc_140 : σ_136 24 = q_an G 256 o := (hf_127 24 (by decide)).trans hv3
        have hc_141 : σ_136 224 = q_rn G 2 2 (fun j => some (243 + 18 * j)) := (hf_127 224 (by decide)).trans hv4
        have hc_142 : σ_136 225 = q_bn G 2 kp := (hf_127 225 (by decide)).trans hv5
        have hc_143 : σ_136 280 = q_an G 265 g := (hf_127 280 (by decide)).trans hv7
        have hc_144 : σ_136 281 = q_an G 265 wk := (hf_127 281 (by decide)).trans hv8
        have hc_145 : σ_136 282 = q_an G 265 as := (hf_127 282 (by decide)).trans hv9
        have hc_146 : σ_136 283 = q_an G 530 sh := (hf_127 283 (by decide)).trans hv10
        have hc_147 : σ_136 284 = q_an G 2120 a := (hf_127 284 (by decide)).trans hv11
        have hc_148 : σ_136 285 = q_bn G 1681 fb := (hf_127 285 (by decide)).trans hv12
        have hc_149 : σ_136 286 = q_an G 1681 nv := (hf_127 286 (by decide)).trans hv13
        have hc_150 : σ_136 287 = q_an G 1681 ns := (hf_127 287 (by decide)).trans hv14
        have hc_151 : σ_136 288 = q_an G 2000 mk := (hf_127 288 (by decide)).trans hv15
        have hc_152 : σ_136 289 = q_an G 6724 va := (hf_127 289 (by decide)).trans hv16
        have hc_153 : σ_136 290 = q_an G 6724 sp := (hf_127 290 (by decide)).trans hv17
        have hc_154 : σ_136 291 = q_an G 80 lp := (hf_127 291 (by decide)).trans hv18
        have hc_155 : σ_136 292 = q_an G 600 f := (hf_127 292 (by decide)).trans hv19
        have hc_156 : σ_136 293 = q_an G 300 ou := (hf_127 293 (by decide)).trans hv20
        have hc_157 : σ_136 294 = q_ln G 1 oL := (hf_127 294 (by decide)).trans hv21
        have hc_158 : σ_136 295 = q_dn G 1 oD := (hf_127 295 (by decide)).trans hv22
        refine A_istore hg dL_law_2587 (by decide) (q_c1d rfl) ?_
        refine A_eq (ls2 := [some (.ref bS), some (.ref (q_h G + 0)), some (.ref (q_h G + 279)), some (.ref (q_h G + 294)), some (.ref (q_h G + 295)), some (.int (nI (i))), some (.int (nI (1))), some (.int (nI (0))), none]) (st2 := []) (pc2 := 0) rfl rfl ?_
        refine A_aload_n hg dL_law_2589 rfl rfl ?_
        refine A_eV (kc2 := kc + 5) (ks2 := ks + 30) (As := []) (rest := []) hg lk_RL_170 in_X11_thrown se_X11_thrown rfl dL_law_2590 ⟨by decide, by decide⟩ rfl rfl (hfK 5 30 (by decide) (by decide)) hc_126 (by omega) rfl rfl (Nat.le_of_ble_eq_true rfl) (c_X11_thrown G false 296 σ_136 (upd F 7 (nI (1))) hc_126 (by omega)) ?_
        refine A_top (w := .int (nI (1))) (congrArg Value.int rfl) ?_
        refine A_iload hg dL_law_2593 rfl ?_
        refine A_icmp_eqN (tgt := 2600) hg dL_law_2595 (by decide) (by decide) (by decide) (fun c2595 => ?_) (fun c2595 => False.elim (by omega))
        refine A_iload hg dL_law_2600 rfl ?_
        refine A_if_neN (tgt := 2617) hg dL_law_2602 (by decide) (by decide) (fun c2602 => ?_) (fun c2602 => absurd c2602 (by decide))
        refine A_goto (tgt := 3062) hg dL_law_2617 (by decide) ?_
        refine A_drop 6 ?_
        refine A_drop 7 ?_
        refine A_eq (ls2 := [some (.ref bS), some (.ref (q_h G + 0)), some (.ref (q_h G + 279)), some (.ref (q_h G + 294)), some (.ref (q_h G + 295)), some (.int (nI (i))), none, none, none]) (st2 := []) (pc2 := 0) rfl rfl ?_
        refine A_wide (kc2 := kc + 8) (ks2 := ks + 48) (by omega) (by omega) ?_
        exact hnxt _ (iv_mk il z2 z3 f lo o g nx m ps kp sn (upd F 7 (nI (1))) wk as sh a fb nv ns mk va sp lp mc z ss ou oL oD hc_137 hc_138 hc_139 hc_140 hc_141 hc_142 hc_126 hc_143 hc_144 hc_145 hc_146 hc_147 hc_148 hc_149 hc_150 hc_151 hc_152 hc_153 hc_154 hc_155 hc_156 hc_157 hc_158 (x_lj_e (fun i _ _ => (hf_127 i (by omega))) hL) (x_gm_e (fun i _ _ => (hf_127 i (by omega))) hG) (x_mx_e (fun i _ _ => (hf_127 i (by omega))) hM) (x_hi_e (fun i _ _ => (hf_127 i (by omega))) hHi) (x_oj_e (fun i _ _ => (hf_127 i (by omega))) hO) (x_pj_e (fun i _ _ => (hf_127 i (by omega))) hT) (iv_hn (fun i _ _ => (hf_127 i (by omega))) hH) (iv_Sn (fun i _ _ => (hf_127 i (by omega))) hSn) (iv_Kp (fun i _ _ => (hf_127 i (by omega))) hKp) (by omega) hfb (by omega) hou hgd hps hk1 hkss hss hsn hF5 hF6 hF12 hF16 hF21 hF22 hF23 hF33 (by omega) hmk hTI hlo)
      · skip
        refine (?_ : AJ G K Q (kc + 5) (ks + 30) false 296 2587 [some (.ref bS), some (.ref (q_h G + 0)), some (.ref (q_h G + 279)), some (.ref (q_h G + 294)), some (.ref (q_h G + 295)), some (.int (nI (i))), some (.int (nI (1))), none, none] [.int (nI (0))] σ_136)
        have hc_128 : σ_136 279 = o11 G (upd F 7 (nI (2))) := hc_128
        have hc_159 : σ_136 0 = o10 G (nI (il)) (z2) (z3) := (hf_129 0 (by decide)).trans hv0
        have hc_160 : σ_136 1 = q_an G 600 f := (hf_129 1 (by decide)).trans hv1
        have hc_161 : σ_136 23 = o5 G (23) (nI (lo)) := (hf_129 23 (by decide)).trans hv2
        have hc_162 : σ_136 24 = q_an G 256 o := (hf_129 24 (by decide)).trans hv3
        have hc_163 : σ_136 224 = q_rn G 2 2 (fun j => some (243 + 18 * j)) := (hf_129 224 (by decide)).trans hv4
        have hc_164 : σ_136 225 = q_bn G 2 kp := (hf_129 225 (by decide)).trans hv5
        have hc_165 : σ_136 280 = q_an G 265 g := (hf_129 280 (by decide)).trans hv7
        have hc_166 : σ_136 281 = q_an G 265 wk := (hf_129 281 (by decide)).trans hv8
        have hc_167 : σ_136 282 = q_an G 265 as := (hf_129 282 (by decide)).trans hv9
        have hc_168 : σ_136 283 = q_an G 530 sh := (hf_129 283 (by decide)).trans hv10
        have hc_169 : σ_136 284 = q_an G 2120 a := (hf_129 284 (by decide)).trans hv11
        have hc_170 : σ_136 285 = q_bn G 1681 fb := (hf_129 285 (by decide)).trans hv12
        have hc_171 : σ_136 286 = q_an G 1681 nv := (hf_129 286 (by decide)).trans hv13
        have hc_172 : σ_136 287 = q_an G 1681 ns := (hf_129 287 (by decide)).trans hv14
        have hc_173 : σ_136 288 = q_an G 2000 mk := (hf_129 288 (by decide)).trans hv15
        have hc_174 : σ_136 289 = q_an G 6724 va := (hf_129 289 (by decide)).trans hv16
        have hc_175 : σ_136 290 = q_an G 6724 sp := (hf_129 290 (by decide)).trans hv17
        have hc_176 : σ_136 291 = q_an G 80 lp := (hf_129 291 (by decide)).trans hv18
        have hc_177 : σ_136 292 = q_an G 600 f := (hf_129 292 (by decide)).trans hv19
        have hc_178 : σ_136 293 = q_an G 300 ou := (hf_129 293 (by decide)).trans hv20
        have hc_179 : σ_136 294 = q_ln G 1 oL := (hf_129 294 (by decide)).trans hv21
        have hc_180 : σ_136 295 = q_dn G 1 oD := (hf_129 295 (by decide)).trans hv22
        exact (Chxx r1M (by omega) Mhre).elim
      · skip
        refine (?_ : AJ G K Q (kc + 5) (ks + 30) false 296 2587 [some (.ref bS), some (.ref (q_h G + 0)), some (.ref (q_h G + 279)), some (.ref (q_h G + 294)), some (.ref (q_h G + 295)), some (.int (nI (i))), some (.int (nI (1))), none, none] [.int (nI (0))] σ_136)
        have hc_130 : σ_136 279 = o11 G (upd F 7 (nI (3))) := hc_130
        have hc_181 : σ_136 0 = o10 G (nI (il)) (z2) (z3) := (hf_131 0 (by decide)).trans hv0
        have hc_182 : σ_136 1 = q_an G 600 f := (hf_131 1 (by decide)).trans hv1
        have hc_183 : σ_136 23 = o5 G (23) (nI (lo)) := (hf_131 23 (by decide)).trans hv2
        have hc_184 : σ_136 24 = q_an G 256 o := (hf_131 24 (by decide)).trans hv3
        have hc_185 : σ_136 224 = q_rn G 2 2 (fun j => some (243 + 18 * j)) := (hf_131 224 (by decide)).trans hv4
        have hc_186 : σ_136 225 = q_bn G 2 kp := (hf_131 225 (by decide)).trans hv5
        have hc_187 : σ_136 280 = q_an G 265 g := (hf_131 280 (by decide)).trans hv7
        have hc_188 : σ_136 281 = q_an G 265 wk := (hf_131 281 (by decide)).trans hv8
        have hc_189 : σ_136 282 = q_an G 265 as := (hf_131 282 (by decide)).trans hv9
        have hc_190 : σ_136 283 = q_an G 530 sh := (hf_131 283 (by decide)).trans hv10
        have hc_191 : σ_136 284 = q_an G 2120 a := (hf_131 284 (by decide)).trans hv11
        have hc_192 : σ_136 285 = q_bn G 1681 fb := (hf_131 285 (by decide)).trans hv12
        have hc_193 : σ_136 286 = q_an G 1681 nv := (hf_131 286 (by decide)).trans hv13
        have hc_194 : σ_136 287 = q_an G 1681 ns := (hf_131 287 (by decide)).trans hv14
        have hc_195 : σ_136 288 = q_an G 2000 mk := (hf_131 288 (by decide)).trans hv15
        have hc_196 : σ_136 289 = q_an G 6724 va := (hf_131 289 (by decide)).trans hv16
        have hc_197 : σ_136 290 = q_an G 6724 sp := (hf_131 290 (by decide)).trans hv17
        have hc_198 : σ_136 291 = q_an G 80 lp := (hf_131 291 (by decide)).trans hv18
        have hc_199 : σ_136 292 = q_an G 600 f := (hf_131 292 (by decide)).trans hv19
        have hc_200 : σ_136 293 = q_an G 300 ou := (hf_131 293 (by decide)).trans hv20
        have hc_201 : σ_136 294 = q_ln G 1 oL := (hf_131 294 (by decide)).trans hv21
        have hc_202 : σ_136 295 = q_dn G 1 oD := (hf_131 295 (by decide)).trans hv22
        exact (Chxx r1M (by omega) Mhre).elim
      · skip
        refine (?_ : AJ G K Q (kc + 5) (ks + 30) false 296 2587 [some (.ref bS), some (.ref (q_h G + 0)), some (.ref (q_h G + 279)), some (.ref (q_h G + 294)), some (.ref (q_h G + 295)), some (.int (nI (i))), some (.int (nI (1))), none, none] [.int (nI (s_rule (s_barG g r1M false a1M b1M) r1M 20))] σ_136)
        have hc_132 : σ_136 279 = o11 G (upd (upd F 5 (nI (s_pmany m + 1))) 7 (nI (0))) := hc_132
        have hc_203 : σ_136 0 = o10 G (nI (il)) (z2) (z3) := (hf_135 0 (by decide)).trans hv0
        have hc_204 : σ_136 1 = q_an G 600 f := (hf_135 1 (by decide)).trans hv1
        have hc_205 : σ_136 23 = o5 G (23) (nI (lo)) := (hf_135 23 (by decide)).trans hv2
        have hc_206 : σ_136 24 = q_an G 256 o := (hf_135 24 (by decide)).trans hv3
        have hc_207 : σ_136 224 = q_rn G 2 2 (fun j => some (243 + 18 * j)) := (hf_135 224 (by decide)).trans hv4
        have hc_208 : σ_136 225 = q_bn G 2 kp := (hf_135 225 (by decide)).trans hv5
        have hc_209 : σ_136 281 = q_an G 265 wk := (hf_135 281 (by decide)).trans hv8
        have hc_210 : σ_136 282 = q_an G 265 as := (hf_135 282 (by decide)).trans hv9
        have hc_211 : σ_136 283 = q_an G 530 sh := (hf_135 283 (by decide)).trans hv10
        have hc_212 : σ_136 285 = q_bn G 1681 fb := (hf_135 285 (by decide)).trans hv12
        have hc_213 : σ_136 286 = q_an G 1681 nv := (hf_135 286 (by decide)).trans hv13
        have hc_214 : σ_136 287 = q_an G 1681 ns := (hf_135 287 (by decide)).trans hv14
        have hc_215 : σ_136 288 = q_an G 2000 mk := (hf_135 288 (by decide)).trans hv15
        have hc_216 : σ_136 289 = q_an G 6724 va := (hf_135 289 (by decide)).trans hv16
        have hc_217 : σ_136 290 = q_an G 6724 sp := (hf_135 290 (by decide)).trans hv17
        have hc_218 : σ_136 291 = q_an G 80 lp := (hf_135 291 (by decide)).trans hv18
        have hc_219 : σ_136 292 = q_an G 600 f := (hf_135 292 (by decide)).trans hv19
        have hc_220 : σ_136 293 = q_an G 300 ou := (hf_135 293 (by decide)).trans hv20
        have hc_221 : σ_136 294 = q_ln G 1 oL := (hf_135 294 (by decide)).trans hv21
        have hc_222 : σ_136 295 = q_dn G 1 oD := (hf_135 295 (by decide)).trans hv22
        exact (Chxx r1M (by omega) Mhre).elim
    · skip
      rw [he_5]
      refine (?_ : AJ G K Q (kc + 5) (ks + 30) false 296 2549 [some (.ref bS), some (.ref (q_h G + 0)), some (.ref (q_h G + 279)), some (.ref (q_h G + 294)), some (.ref (q_h G + 295)), some (.int (nI (i))), none, none, none] [.int (nI (2))] σ)
      obtain ⟨r1C, Chx0, Chx1, Chx2⟩ := Chxx
      refine A_istore hg dL_law_2549 (by decide) (q_c1d rfl) ?_
      refine A_eq (ls2 := [some (.ref bS), some (.ref (q_h G + 0)), some (.ref (q_h G + 279)), some (.ref (q_h G + 294)), some (.ref (q_h G + 295)), some (.int (nI (i))), some (.int (nI (2))), none, none]) (st2 := []) (pc2 := 0) rfl rfl ?_
      refine A_aload_n hg dL_law_2551 rfl rfl ?_
      refine A_aload_n hg dL_law_2552 rfl rfl ?_
      refine A_iload hg dL_law_2553 rfl ?_
      refine A_iconst (v := (nI (1))) hg dL_law_2555 (by decide) ?_
      refine A_iaddN hg dL_law_2556 ?_
      refine A_sld hg hX (i + 1) (by omega) dL_law_2557 ?_
      refine A_aload_n hg dL_law_2558 rfl rfl ?_
      refine A_iload hg dL_law_2559 rfl ?_
      refine A_iconst (v := (nI (2))) hg dL_law_2561 (by decide) ?_
      refine A_iaddN hg dL_law_2562 ?_
      refine A_sld hg hX (i + 2) (by omega) dL_law_2563 ?_
      refine A_aload_n hg dL_law_2564 rfl rfl ?_
      refine A_iload hg dL_law_2565 rfl ?_
      refine A_iconst (v := (nI (3))) hg dL_law_2567 (by decide) ?_
      refine A_iaddN hg dL_law_2568 ?_
      refine A_sld hg hX (i + 3) (by omega) dL_law_2569 ?_
      refine A_aload_n hg dL_law_2570 rfl rfl ?_
      refine A_iload hg dL_law_2571 rfl ?_
      refine A_iconst (v := (nI (4))) hg dL_law_2573 (by decide) ?_
      refine A_iaddN hg dL_law_2574 ?_
      refine A_sld hg hX (i + 4) (by omega) dL_law_2575 ?_
      refine A_if_eq (tgt := 2583) hg dL_law_2576 (by decide) (fun _ => ?_) (fun z9 => absurd c2537 z9)
      refine A_iconst (v := (nI (0))) hg dL_law_2583 (by decide) ?_
      refine A_hV (kc2 := kc + 5) (ks2 := ks + 30) (As := [.int (xs (i + 1)), .int (xs (i + 2)), .int (xs (i + 3)), .int (nI (0))]) (rest := []) hg lk_RL_272 in_X11_bar se_X11_bar rfl dL_law_2584 ⟨by decide, by decide⟩ rfl rfl (hfK 5 30 (by decide) (by decide)) hv6 (by omega) rfl rfl (Nat.le_of_ble_eq_true rfl) (c_X11_barB G false 296 σ F g a m (xs (i + 1)) (xs (i + 2)) (xs (i + 3)) false hv6 hv7 hv11 (by omega) hg9 hF5 (by omega)) ?_
      rintro _ σ_233 (⟨rfl, Mhno, hc_223, hf_224⟩ | ⟨r1M, rfl, Mhre, Mhrl, Mhnp, hc_225, hf_226⟩ | ⟨r1M, a1M, b1M, rfl, Mhre, Mhrl, Mhke, Mhle, Mhkl, Mhll, Mhkp, Mhst, Mhsb, Mhs4, hc_227, hf_228⟩ | ⟨r1M, a1M, b1M, aqM, rfl, Mhre, Mhrl, Mhke, Mhle, Mhkl, Mhll, Mhkp, Mhnew, Mhold, Mhb4, hc_229, hc_230, hc_231, hf_232⟩)
      · skip
        refine (?_ : AJ G K Q (kc + 5) (ks + 30) false 296 2587 [some (.ref bS), some (.ref (q_h G + 0)), some (.ref (q_h G + 279)), some (.ref (q_h G + 294)), some (.ref (q_h G + 295)), some (.int (nI (i))), some (.int (nI (2))), none, none] [.int (nI (0))] σ_233)
        have hc_223 : σ_233 279 = o11 G (upd F 7 (nI (1))) := hc_223
        have hc_234 : σ_233 0 = o10 G (nI (il)) (z2) (z3) := (hf_224 0 (by decide)).trans hv0
        have hc_235 : σ_233 1 = q_an G 600 f := (hf_224 1 (by decide)).trans hv1
        have hc_236 : σ_233 23 = o5 G (23) (nI (lo)) := (hf_224 23 (by decide)).trans hv2
        have hc_237 : σ_233 24 = q_an G 256 o := (hf_224 24 (by decide)).trans hv3
        have hc_238 : σ_233 224 = q_rn G 2 2 (fun j => some (243 + 18 * j)) := (hf_224 224 (by decide)).trans hv4
        have hc_239 : σ_233 225 = q_bn G 2 kp := (hf_224 225 (by decide)).trans hv5
        have hc_240 : σ_233 280 = q_an G 265 g := (hf_224 280 (by decide)).trans hv7
        have hc_241 : σ_233 281 = q_an G 265 wk := (hf_224 281 (by decide)).trans hv8
        have hc_242 : σ_233 282 = q_an G 265 as := (hf_224 282 (by decide)).trans hv9
        have hc_243 : σ_233 283 = q_an G 530 sh := (hf_224 283 (by decide)).trans hv10
        have hc_244 : σ_233 284 = q_an G 2120 a := (hf_224 284 (by decide)).trans hv11
        have hc_245 : σ_233 285 = q_bn G 1681 fb := (hf_224 285 (by decide)).trans hv12
        have hc_246 : σ_233 286 = q_an G 1681 nv := (hf_224 286 (by decide)).trans hv13
        have hc_247 : σ_233 287 = q_an G 1681 ns := (hf_224 287 (by decide)).trans hv14
        have hc_248 : σ_233 288 = q_an G 2000 mk := (hf_224 288 (by decide)).trans hv15
        have hc_249 : σ_233 289 = q_an G 6724 va := (hf_224 289 (by decide)).trans hv16
        have hc_250 : σ_233 290 = q_an G 6724 sp := (hf_224 290 (by decide)).trans hv17
        have hc_251 : σ_233 291 = q_an G 80 lp := (hf_224 291 (by decide)).trans hv18
        have hc_252 : σ_233 292 = q_an G 600 f := (hf_224 292 (by decide)).trans hv19
        have hc_253 : σ_233 293 = q_an G 300 ou := (hf_224 293 (by decide)).trans hv20
        have hc_254 : σ_233 294 = q_ln G 1 oL := (hf_224 294 (by decide)).trans hv21
        have hc_255 : σ_233 295 = q_dn G 1 oD := (hf_224 295 (by decide)).trans hv22
        exact (Mhno r1C (by omega) Chx0).elim
      · skip
        refine (?_ : AJ G K Q (kc + 5) (ks + 30) false 296 2587 [some (.ref bS), some (.ref (q_h G + 0)), some (.ref (q_h G + 279)), some (.ref (q_h G + 294)), some (.ref (q_h G + 295)), some (.int (nI (i))), some (.int (nI (2))), none, none] [.int (nI (0))] σ_233)
        have hc_225 : σ_233 279 = o11 G (upd F 7 (nI (2))) := hc_225
        have hc_256 : σ_233 0 = o10 G (nI (il)) (z2) (z3) := (hf_226 0 (by decide)).trans hv0
        have hc_257 : σ_233 1 = q_an G 600 f := (hf_226 1 (by decide)).trans hv1
        have hc_258 : σ_233 23 = o5 G (23) (nI (lo)) := (hf_226 23 (by decide)).trans hv2
        have hc_259 : σ_233 24 = q_an G 256 o := (hf_226 24 (by decide)).trans hv3
        have hc_260 : σ_233 224 = q_rn G 2 2 (fun j => some (243 + 18 * j)) := (hf_226 224 (by decide)).trans hv4
        have hc_261 : σ_233 225 = q_bn G 2 kp := (hf_226 225 (by decide)).trans hv5
        have hc_262 : σ_233 280 = q_an G 265 g := (hf_226 280 (by decide)).trans hv7
        have hc_263 : σ_233 281 = q_an G 265 wk := (hf_226 281 (by decide)).trans hv8
        have hc_264 : σ_233 282 = q_an G 265 as := (hf_226 282 (by decide)).trans hv9
        have hc_265 : σ_233 283 = q_an G 530 sh := (hf_226 283 (by decide)).trans hv10
        have hc_266 : σ_233 284 = q_an G 2120 a := (hf_226 284 (by decide)).trans hv11
        have hc_267 : σ_233 285 = q_bn G 1681 fb := (hf_226 285 (by decide)).trans hv12
        have hc_268 : σ_233 286 = q_an G 1681 nv := (hf_226 286 (by decide)).trans hv13
        have hc_269 : σ_233 287 = q_an G 1681 ns := (hf_226 287 (by decide)).trans hv14
        have hc_270 : σ_233 288 = q_an G 2000 mk := (hf_226 288 (by decide)).trans hv15
        have hc_271 : σ_233 289 = q_an G 6724 va := (hf_226 289 (by decide)).trans hv16
        have hc_272 : σ_233 290 = q_an G 6724 sp := (hf_226 290 (by decide)).trans hv17
        have hc_273 : σ_233 291 = q_an G 80 lp := (hf_226 291 (by decide)).trans hv18
        have hc_274 : σ_233 292 = q_an G 600 f := (hf_226 292 (by decide)).trans hv19
        have hc_275 : σ_233 293 = q_an G 300 ou := (hf_226 293 (by decide)).trans hv20
        have hc_276 : σ_233 294 = q_ln G 1 oL := (hf_226 294 (by decide)).trans hv21
        have hc_277 : σ_233 295 = q_dn G 1 oD := (hf_226 295 (by decide)).trans hv22
        have e_r : r1C = r1M := q_nI_inj (by omega) (by omega) (Chx0.symm.trans Mhre)
        subst e_r
        refine A_istore hg dL_law_2587 (by decide) (q_c1d rfl) ?_
        refine A_eq (ls2 := [some (.ref bS), some (.ref (q_h G + 0)), some (.ref (q_h G + 279)), some (.ref (q_h G + 294)), some (.ref (q_h G + 295)), some (.int (nI (i))), some (.int (nI (2))), some (.int (nI (0))), none]) (st2 := []) (pc2 := 0) rfl rfl ?_
        refine A_aload_n hg dL_law_2589 rfl rfl ?_
        refine A_eV (kc2 := kc + 5) (ks2 := ks + 30) (As := []) (rest := []) hg lk_RL_170 in_X11_thrown se_X11_thrown rfl dL_law_2590 ⟨by decide, by decide⟩ rfl rfl (hfK 5 30 (by decide) (by decide)) hc_225 (by omega) rfl rfl (Nat.le_of_ble_eq_true rfl) (c_X11_thrown G false 296 σ_233 (upd F 7 (nI (2))) hc_225 (by omega)) ?_
        refine A_top (w := .int (nI (2))) (congrArg Value.int rfl) ?_
        refine A_iload hg dL_law_2593 rfl ?_
        refine A_icmp_eqN (tgt := 2600) hg dL_law_2595 (by decide) (by decide) (by decide) (fun c2595 => ?_) (fun c2595 => False.elim (by omega))
        refine A_iload hg dL_law_2600 rfl ?_
        refine A_if_neN (tgt := 2617) hg dL_law_2602 (by decide) (by decide) (fun c2602 => ?_) (fun c2602 => absurd c2602 (by decide))
        refine A_goto (tgt := 3062) hg dL_law_2617 (by decide) ?_
        refine A_drop 6 ?_
        refine A_drop 7 ?_
        refine A_eq (ls2 := [some (.ref bS), some (.ref (q_h G + 0)), some (.ref (q_h G + 279)), some (.ref (q_h G + 294)), some (.ref (q_h G + 295)), some (.int (nI (i))), none, none, none]) (st2 := []) (pc2 := 0) rfl rfl ?_
        refine A_wide (kc2 := kc + 8) (ks2 := ks + 48) (by omega) (by omega) ?_
        exact hnxt _ (iv_mk il z2 z3 f lo o g nx m ps kp sn (upd F 7 (nI (2))) wk as sh a fb nv ns mk va sp lp mc z ss ou oL oD hc_256 hc_257 hc_258 hc_259 hc_260 hc_261 hc_225 hc_262 hc_263 hc_264 hc_265 hc_266 hc_267 hc_268 hc_269 hc_270 hc_271 hc_272 hc_273 hc_274 hc_275 hc_276 hc_277 (x_lj_e (fun i _ _ => (hf_226 i (by omega))) hL) (x_gm_e (fun i _ _ => (hf_226 i (by omega))) hG) (x_mx_e (fun i _ _ => (hf_226 i (by omega))) hM) (x_hi_e (fun i _ _ => (hf_226 i (by omega))) hHi) (x_oj_e (fun i _ _ => (hf_226 i (by omega))) hO) (x_pj_e (fun i _ _ => (hf_226 i (by omega))) hT) (iv_hn (fun i _ _ => (hf_226 i (by omega))) hH) (iv_Sn (fun i _ _ => (hf_226 i (by omega))) hSn) (iv_Kp (fun i _ _ => (hf_226 i (by omega))) hKp) (by omega) hfb (by omega) hou hgd hps hk1 hkss hss hsn hF5 hF6 hF12 hF16 hF21 hF22 hF23 hF33 (by omega) hmk hTI hlo)
      · skip
        refine (?_ : AJ G K Q (kc + 5) (ks + 30) false 296 2587 [some (.ref bS), some (.ref (q_h G + 0)), some (.ref (q_h G + 279)), some (.ref (q_h G + 294)), some (.ref (q_h G + 295)), some (.int (nI (i))), some (.int (nI (2))), none, none] [.int (nI (0))] σ_233)
        have hc_227 : σ_233 279 = o11 G (upd F 7 (nI (3))) := hc_227
        have hc_278 : σ_233 0 = o10 G (nI (il)) (z2) (z3) := (hf_228 0 (by decide)).trans hv0
        have hc_279 : σ_233 1 = q_an G 600 f := (hf_228 1 (by decide)).trans hv1
        have hc_280 : σ_233 23 = o5 G (23) (nI (lo)) := (hf_228 23 (by decide)).trans hv2
        have hc_281 : σ_233 24 = q_an G 256 o := (hf_228 24 (by decide)).trans hv3
        have hc_282 : σ_233 224 = q_rn G 2 2 (fun j => some (243 + 18 * j)) := (hf_228 224 (by decide)).trans hv4
        have hc_283 : σ_233 225 = q_bn G 2 kp := (hf_228 225 (by decide)).trans hv5
        have hc_284 : σ_233 280 = q_an G 265 g := (hf_228 280 (by decide)).trans hv7
        have hc_285 : σ_233 281 = q_an G 265 wk := (hf_228 281 (by decide)).trans hv8
        have hc_286 : σ_233 282 = q_an G 265 as := (hf_228 282 (by decide)).trans hv9
        have hc_287 : σ_233 283 = q_an G 530 sh := (hf_228 283 (by decide)).trans hv10
        have hc_288 : σ_233 284 = q_an G 2120 a := (hf_228 284 (by decide)).trans hv11
        have hc_289 : σ_233 285 = q_bn G 1681 fb := (hf_228 285 (by decide)).trans hv12
        have hc_290 : σ_233 286 = q_an G 1681 nv := (hf_228 286 (by decide)).trans hv13
        have hc_291 : σ_233 287 = q_an G 1681 ns := (hf_228 287 (by decide)).trans hv14
        have hc_292 : σ_233 288 = q_an G 2000 mk := (hf_228 288 (by decide)).trans hv15
        have hc_293 : σ_233 289 = q_an G 6724 va := (hf_228 289 (by decide)).trans hv16
        have hc_294 : σ_233 290 = q_an G 6724 sp := (hf_228 290 (by decide)).trans hv17
        have hc_295 : σ_233 291 = q_an G 80 lp := (hf_228 291 (by decide)).trans hv18
        have hc_296 : σ_233 292 = q_an G 600 f := (hf_228 292 (by decide)).trans hv19
        have hc_297 : σ_233 293 = q_an G 300 ou := (hf_228 293 (by decide)).trans hv20
        have hc_298 : σ_233 294 = q_ln G 1 oL := (hf_228 294 (by decide)).trans hv21
        have hc_299 : σ_233 295 = q_dn G 1 oD := (hf_228 295 (by decide)).trans hv22
        have e_r : r1C = r1M := q_nI_inj (by omega) (by omega) (Chx0.symm.trans Mhre)
        subst e_r
        exact (Chx2 a1M b1M (by omega) (by omega) (by omega) Mhke Mhle).elim
      · skip
        refine (?_ : AJ G K Q (kc + 5) (ks + 30) false 296 2587 [some (.ref bS), some (.ref (q_h G + 0)), some (.ref (q_h G + 279)), some (.ref (q_h G + 294)), some (.ref (q_h G + 295)), some (.int (nI (i))), some (.int (nI (2))), none, none] [.int (nI (s_rule (s_barG g r1M false a1M b1M) r1M 20))] σ_233)
        have hc_229 : σ_233 279 = o11 G (upd (upd F 5 (nI (s_pmany m + 1))) 7 (nI (0))) := hc_229
        have hc_300 : σ_233 0 = o10 G (nI (il)) (z2) (z3) := (hf_232 0 (by decide)).trans hv0
        have hc_301 : σ_233 1 = q_an G 600 f := (hf_232 1 (by decide)).trans hv1
        have hc_302 : σ_233 23 = o5 G (23) (nI (lo)) := (hf_232 23 (by decide)).trans hv2
        have hc_303 : σ_233 24 = q_an G 256 o := (hf_232 24 (by decide)).trans hv3
        have hc_304 : σ_233 224 = q_rn G 2 2 (fun j => some (243 + 18 * j)) := (hf_232 224 (by decide)).trans hv4
        have hc_305 : σ_233 225 = q_bn G 2 kp := (hf_232 225 (by decide)).trans hv5
        have hc_306 : σ_233 281 = q_an G 265 wk := (hf_232 281 (by decide)).trans hv8
        have hc_307 : σ_233 282 = q_an G 265 as := (hf_232 282 (by decide)).trans hv9
        have hc_308 : σ_233 283 = q_an G 530 sh := (hf_232 283 (by decide)).trans hv10
        have hc_309 : σ_233 285 = q_bn G 1681 fb := (hf_232 285 (by decide)).trans hv12
        have hc_310 : σ_233 286 = q_an G 1681 nv := (hf_232 286 (by decide)).trans hv13
        have hc_311 : σ_233 287 = q_an G 1681 ns := (hf_232 287 (by decide)).trans hv14
        have hc_312 : σ_233 288 = q_an G 2000 mk := (hf_232 288 (by decide)).trans hv15
        have hc_313 : σ_233 289 = q_an G 6724 va := (hf_232 289 (by decide)).trans hv16
        have hc_314 : σ_233 290 = q_an G 6724 sp := (hf_232 290 (by decide)).trans hv17
        have hc_315 : σ_233 291 = q_an G 80 lp := (hf_232 291 (by decide)).trans hv18
        have hc_316 : σ_233 292 = q_an G 600 f := (hf_232 292 (by decide)).trans hv19
        have hc_317 : σ_233 293 = q_an G 300 ou := (hf_232 293 (by decide)).trans hv20
        have hc_318 : σ_233 294 = q_ln G 1 oL := (hf_232 294 (by decide)).trans hv21
        have hc_319 : σ_233 295 = q_dn G 1 oD := (hf_232 295 (by decide)).trans hv22
        have e_r : r1C = r1M := q_nI_inj (by omega) (by omega) (Chx0.symm.trans Mhre)
        subst e_r
        exact (Chx2 a1M b1M (by omega) (by omega) (by omega) Mhke Mhle).elim
    · skip
      rw [he_6]
      refine (?_ : AJ G K Q (kc + 5) (ks + 30) false 296 2549 [some (.ref bS), some (.ref (q_h G + 0)), some (.ref (q_h G + 279)), some (.ref (q_h G + 294)), some (.ref (q_h G + 295)), some (.int (nI (i))), none, none, none] [.int (nI (3))] σ)
      obtain ⟨r1C, a1C, b1C, Chx0, Chx1, Chx2, Chx3, Chx4, Chx5, Chx6, Chx7, Chx8, Chx9⟩ := Chxx
      refine A_istore hg dL_law_2549 (by decide) (q_c1d rfl) ?_
      refine A_eq (ls2 := [some (.ref bS), some (.ref (q_h G + 0)), some (.ref (q_h G + 279)), some (.ref (q_h G + 294)), some (.ref (q_h G + 295)), some (.int (nI (i))), some (.int (nI (3))), none, none]) (st2 := []) (pc2 := 0) rfl rfl ?_
      refine A_aload_n hg dL_law_2551 rfl rfl ?_
      refine A_aload_n hg dL_law_2552 rfl rfl ?_
      refine A_iload hg dL_law_2553 rfl ?_
      refine A_iconst (v := (nI (1))) hg dL_law_2555 (by decide) ?_
      refine A_iaddN hg dL_law_2556 ?_
      refine A_sld hg hX (i + 1) (by omega) dL_law_2557 ?_
      refine A_aload_n hg dL_law_2558 rfl rfl ?_
      refine A_iload hg dL_law_2559 rfl ?_
      refine A_iconst (v := (nI (2))) hg dL_law_2561 (by decide) ?_
      refine A_iaddN hg dL_law_2562 ?_
      refine A_sld hg hX (i + 2) (by omega) dL_law_2563 ?_
      refine A_aload_n hg dL_law_2564 rfl rfl ?_
      refine A_iload hg dL_law_2565 rfl ?_
      refine A_iconst (v := (nI (3))) hg dL_law_2567 (by decide) ?_
      refine A_iaddN hg dL_law_2568 ?_
      refine A_sld hg hX (i + 3) (by omega) dL_law_2569 ?_
      refine A_aload_n hg dL_law_2570 rfl rfl ?_
      refine A_iload hg dL_law_2571 rfl ?_
      refine A_iconst (v := (nI (4))) hg dL_law_2573 (by decide) ?_
      refine A_iaddN hg dL_law_2574 ?_
      refine A_sld hg hX (i + 4) (by omega) dL_law_2575 ?_
      refine A_if_eq (tgt := 2583) hg dL_law_2576 (by decide) (fun _ => ?_) (fun z9 => absurd c2537 z9)
      refine A_iconst (v := (nI (0))) hg dL_law_2583 (by decide) ?_
      refine A_hV (kc2 := kc + 5) (ks2 := ks + 30) (As := [.int (xs (i + 1)), .int (xs (i + 2)), .int (xs (i + 3)), .int (nI (0))]) (rest := []) hg lk_RL_272 in_X11_bar se_X11_bar rfl dL_law_2584 ⟨by decide, by decide⟩ rfl rfl (hfK 5 30 (by decide) (by decide)) hv6 (by omega) rfl rfl (Nat.le_of_ble_eq_true rfl) (c_X11_barB G false 296 σ F g a m (xs (i + 1)) (xs (i + 2)) (xs (i + 3)) false hv6 hv7 hv11 (by omega) hg9 hF5 (by omega)) ?_
      rintro _ σ_330 (⟨rfl, Mhno, hc_320, hf_321⟩ | ⟨r1M, rfl, Mhre, Mhrl, Mhnp, hc_322, hf_323⟩ | ⟨r1M, a1M, b1M, rfl, Mhre, Mhrl, Mhke, Mhle, Mhkl, Mhll, Mhkp, Mhst, Mhsb, Mhs4, hc_324, hf_325⟩ | ⟨r1M, a1M, b1M, aqM, rfl, Mhre, Mhrl, Mhke, Mhle, Mhkl, Mhll, Mhkp, Mhnew, Mhold, Mhb4, hc_326, hc_327, hc_328, hf_329⟩)
      · skip
        refine (?_ : AJ G K Q (kc + 5) (ks + 30) false 296 2587 [some (.ref bS), some (.ref (q_h G + 0)), some (.ref (q_h G + 279)), some (.ref (q_h G + 294)), some (.ref (q_h G + 295)), some (.int (nI (i))), some (.int (nI (3))), none, none] [.int (nI (0))] σ_330)
        have hc_320 : σ_330 279 = o11 G (upd F 7 (nI (1))) := hc_320
        have hc_331 : σ_330 0 = o10 G (nI (il)) (z2) (z3) := (hf_321 0 (by decide)).trans hv0
        have hc_332 : σ_330 1 = q_an G 600 f := (hf_321 1 (by decide)).trans hv1
        have hc_333 : σ_330 23 = o5 G (23) (nI (lo)) := (hf_321 23 (by decide)).trans hv2
        have hc_334 : σ_330 24 = q_an G 256 o := (hf_321 24 (by decide)).trans hv3
        have hc_335 : σ_330 224 = q_rn G 2 2 (fun j => some (243 + 18 * j)) := (hf_321 224 (by decide)).trans hv4
        have hc_336 : σ_330 225 = q_bn G 2 kp := (hf_321 225 (by decide)).trans hv5
        have hc_337 : σ_330 280 = q_an G 265 g := (hf_321 280 (by decide)).trans hv7
        have hc_338 : σ_330 281 = q_an G 265 wk := (hf_321 281 (by decide)).trans hv8
        have hc_339 : σ_330 282 = q_an G 265 as := (hf_321 282 (by decide)).trans hv9
        have hc_340 : σ_330 283 = q_an G 530 sh := (hf_321 283 (by decide)).trans hv10
        have hc_341 : σ_330 284 = q_an G 2120 a := (hf_321 284 (by decide)).trans hv11
        have hc_342 : σ_330 285 = q_bn G 1681 fb := (hf_321 285 (by decide)).trans hv12
        have hc_343 : σ_330 286 = q_an G 1681 nv := (hf_321 286 (by decide)).trans hv13
        have hc_344 : σ_330 287 = q_an G 1681 ns := (hf_321 287 (by decide)).trans hv14
        have hc_345 : σ_330 288 = q_an G 2000 mk := (hf_321 288 (by decide)).trans hv15
        have hc_346 : σ_330 289 = q_an G 6724 va := (hf_321 289 (by decide)).trans hv16
        have hc_347 : σ_330 290 = q_an G 6724 sp := (hf_321 290 (by decide)).trans hv17
        have hc_348 : σ_330 291 = q_an G 80 lp := (hf_321 291 (by decide)).trans hv18
        have hc_349 : σ_330 292 = q_an G 600 f := (hf_321 292 (by decide)).trans hv19
        have hc_350 : σ_330 293 = q_an G 300 ou := (hf_321 293 (by decide)).trans hv20
        have hc_351 : σ_330 294 = q_ln G 1 oL := (hf_321 294 (by decide)).trans hv21
        have hc_352 : σ_330 295 = q_dn G 1 oD := (hf_321 295 (by decide)).trans hv22
        exact (Mhno r1C (by omega) Chx0).elim
      · skip
        refine (?_ : AJ G K Q (kc + 5) (ks + 30) false 296 2587 [some (.ref bS), some (.ref (q_h G + 0)), some (.ref (q_h G + 279)), some (.ref (q_h G + 294)), some (.ref (q_h G + 295)), some (.int (nI (i))), some (.int (nI (3))), none, none] [.int (nI (0))] σ_330)
        have hc_322 : σ_330 279 = o11 G (upd F 7 (nI (2))) := hc_322
        have hc_353 : σ_330 0 = o10 G (nI (il)) (z2) (z3) := (hf_323 0 (by decide)).trans hv0
        have hc_354 : σ_330 1 = q_an G 600 f := (hf_323 1 (by decide)).trans hv1
        have hc_355 : σ_330 23 = o5 G (23) (nI (lo)) := (hf_323 23 (by decide)).trans hv2
        have hc_356 : σ_330 24 = q_an G 256 o := (hf_323 24 (by decide)).trans hv3
        have hc_357 : σ_330 224 = q_rn G 2 2 (fun j => some (243 + 18 * j)) := (hf_323 224 (by decide)).trans hv4
        have hc_358 : σ_330 225 = q_bn G 2 kp := (hf_323 225 (by decide)).trans hv5
        have hc_359 : σ_330 280 = q_an G 265 g := (hf_323 280 (by decide)).trans hv7
        have hc_360 : σ_330 281 = q_an G 265 wk := (hf_323 281 (by decide)).trans hv8
        have hc_361 : σ_330 282 = q_an G 265 as := (hf_323 282 (by decide)).trans hv9
        have hc_362 : σ_330 283 = q_an G 530 sh := (hf_323 283 (by decide)).trans hv10
        have hc_363 : σ_330 284 = q_an G 2120 a := (hf_323 284 (by decide)).trans hv11
        have hc_364 : σ_330 285 = q_bn G 1681 fb := (hf_323 285 (by decide)).trans hv12
        have hc_365 : σ_330 286 = q_an G 1681 nv := (hf_323 286 (by decide)).trans hv13
        have hc_366 : σ_330 287 = q_an G 1681 ns := (hf_323 287 (by decide)).trans hv14
        have hc_367 : σ_330 288 = q_an G 2000 mk := (hf_323 288 (by decide)).trans hv15
        have hc_368 : σ_330 289 = q_an G 6724 va := (hf_323 289 (by decide)).trans hv16
        have hc_369 : σ_330 290 = q_an G 6724 sp := (hf_323 290 (by decide)).trans hv17
        have hc_370 : σ_330 291 = q_an G 80 lp := (hf_323 291 (by decide)).trans hv18
        have hc_371 : σ_330 292 = q_an G 600 f := (hf_323 292 (by decide)).trans hv19
        have hc_372 : σ_330 293 = q_an G 300 ou := (hf_323 293 (by decide)).trans hv20
        have hc_373 : σ_330 294 = q_ln G 1 oL := (hf_323 294 (by decide)).trans hv21
        have hc_374 : σ_330 295 = q_dn G 1 oD := (hf_323 295 (by decide)).trans hv22
        have e_r : r1C = r1M := q_nI_inj (by omega) (by omega) (Chx0.symm.trans Mhre)
        subst e_r
        exact (Mhnp a1C b1C (by omega) (by omega) (by omega) Chx2 Chx3).elim
      · skip
        refine (?_ : AJ G K Q (kc + 5) (ks + 30) false 296 2587 [some (.ref bS), some (.ref (q_h G + 0)), some (.ref (q_h G + 279)), some (.ref (q_h G + 294)), some (.ref (q_h G + 295)), some (.int (nI (i))), some (.int (nI (3))), none, none] [.int (nI (0))] σ_330)
        have hc_324 : σ_330 279 = o11 G (upd F 7 (nI (3))) := hc_324
        have hc_375 : σ_330 0 = o10 G (nI (il)) (z2) (z3) := (hf_325 0 (by decide)).trans hv0
        have hc_376 : σ_330 1 = q_an G 600 f := (hf_325 1 (by decide)).trans hv1
        have hc_377 : σ_330 23 = o5 G (23) (nI (lo)) := (hf_325 23 (by decide)).trans hv2
        have hc_378 : σ_330 24 = q_an G 256 o := (hf_325 24 (by decide)).trans hv3
        have hc_379 : σ_330 224 = q_rn G 2 2 (fun j => some (243 + 18 * j)) := (hf_325 224 (by decide)).trans hv4
        have hc_380 : σ_330 225 = q_bn G 2 kp := (hf_325 225 (by decide)).trans hv5
        have hc_381 : σ_330 280 = q_an G 265 g := (hf_325 280 (by decide)).trans hv7
        have hc_382 : σ_330 281 = q_an G 265 wk := (hf_325 281 (by decide)).trans hv8
        have hc_383 : σ_330 282 = q_an G 265 as := (hf_325 282 (by decide)).trans hv9
        have hc_384 : σ_330 283 = q_an G 530 sh := (hf_325 283 (by decide)).trans hv10
        have hc_385 : σ_330 284 = q_an G 2120 a := (hf_325 284 (by decide)).trans hv11
        have hc_386 : σ_330 285 = q_bn G 1681 fb := (hf_325 285 (by decide)).trans hv12
        have hc_387 : σ_330 286 = q_an G 1681 nv := (hf_325 286 (by decide)).trans hv13
        have hc_388 : σ_330 287 = q_an G 1681 ns := (hf_325 287 (by decide)).trans hv14
        have hc_389 : σ_330 288 = q_an G 2000 mk := (hf_325 288 (by decide)).trans hv15
        have hc_390 : σ_330 289 = q_an G 6724 va := (hf_325 289 (by decide)).trans hv16
        have hc_391 : σ_330 290 = q_an G 6724 sp := (hf_325 290 (by decide)).trans hv17
        have hc_392 : σ_330 291 = q_an G 80 lp := (hf_325 291 (by decide)).trans hv18
        have hc_393 : σ_330 292 = q_an G 600 f := (hf_325 292 (by decide)).trans hv19
        have hc_394 : σ_330 293 = q_an G 300 ou := (hf_325 293 (by decide)).trans hv20
        have hc_395 : σ_330 294 = q_ln G 1 oL := (hf_325 294 (by decide)).trans hv21
        have hc_396 : σ_330 295 = q_dn G 1 oD := (hf_325 295 (by decide)).trans hv22
        have e_r : r1C = r1M := q_nI_inj (by omega) (by omega) (Chx0.symm.trans Mhre)
        subst e_r
        have e_k : a1C = a1M := q_nI_inj (by omega) (by omega) (Chx2.symm.trans Mhke)
        subst e_k
        have e_l : b1C = b1M := q_nI_inj (by omega) (by omega) (Chx3.symm.trans Mhle)
        subst e_l
        refine A_istore hg dL_law_2587 (by decide) (q_c1d rfl) ?_
        refine A_eq (ls2 := [some (.ref bS), some (.ref (q_h G + 0)), some (.ref (q_h G + 279)), some (.ref (q_h G + 294)), some (.ref (q_h G + 295)), some (.int (nI (i))), some (.int (nI (3))), some (.int (nI (0))), none]) (st2 := []) (pc2 := 0) rfl rfl ?_
        refine A_aload_n hg dL_law_2589 rfl rfl ?_
        refine A_eV (kc2 := kc + 5) (ks2 := ks + 30) (As := []) (rest := []) hg lk_RL_170 in_X11_thrown se_X11_thrown rfl dL_law_2590 ⟨by decide, by decide⟩ rfl rfl (hfK 5 30 (by decide) (by decide)) hc_324 (by omega) rfl rfl (Nat.le_of_ble_eq_true rfl) (c_X11_thrown G false 296 σ_330 (upd F 7 (nI (3))) hc_324 (by omega)) ?_
        refine A_top (w := .int (nI (3))) (congrArg Value.int rfl) ?_
        refine A_iload hg dL_law_2593 rfl ?_
        refine A_icmp_eqN (tgt := 2600) hg dL_law_2595 (by decide) (by decide) (by decide) (fun c2595 => ?_) (fun c2595 => False.elim (by omega))
        refine A_iload hg dL_law_2600 rfl ?_
        refine A_if_neN (tgt := 2617) hg dL_law_2602 (by decide) (by decide) (fun c2602 => ?_) (fun c2602 => absurd c2602 (by decide))
        refine A_goto (tgt := 3062) hg dL_law_2617 (by decide) ?_
        refine A_drop 6 ?_
        refine A_drop 7 ?_
        refine A_eq (ls2 := [some (.ref bS), some (.ref (q_h G + 0)), some (.ref (q_h G + 279)), some (.ref (q_h G + 294)), some (.ref (q_h G + 295)), some (.int (nI (i))), none, none, none]) (st2 := []) (pc2 := 0) rfl rfl ?_
        refine A_wide (kc2 := kc + 8) (ks2 := ks + 48) (by omega) (by omega) ?_
        exact hnxt _ (iv_mk il z2 z3 f lo o g nx m ps kp sn (upd F 7 (nI (3))) wk as sh a fb nv ns mk va sp lp mc z ss ou oL oD hc_375 hc_376 hc_377 hc_378 hc_379 hc_380 hc_324 hc_381 hc_382 hc_383 hc_384 hc_385 hc_386 hc_387 hc_388 hc_389 hc_390 hc_391 hc_392 hc_393 hc_394 hc_395 hc_396 (x_lj_e (fun i _ _ => (hf_325 i (by omega))) hL) (x_gm_e (fun i _ _ => (hf_325 i (by omega))) hG) (x_mx_e (fun i _ _ => (hf_325 i (by omega))) hM) (x_hi_e (fun i _ _ => (hf_325 i (by omega))) hHi) (x_oj_e (fun i _ _ => (hf_325 i (by omega))) hO) (x_pj_e (fun i _ _ => (hf_325 i (by omega))) hT) (iv_hn (fun i _ _ => (hf_325 i (by omega))) hH) (iv_Sn (fun i _ _ => (hf_325 i (by omega))) hSn) (iv_Kp (fun i _ _ => (hf_325 i (by omega))) hKp) (by omega) hfb (by omega) hou hgd hps hk1 hkss hss hsn hF5 hF6 hF12 hF16 hF21 hF22 hF23 hF33 (by omega) hmk hTI hlo)
      · skip
        refine (?_ : AJ G K Q (kc + 5) (ks + 30) false 296 2587 [some (.ref bS), some (.ref (q_h G + 0)), some (.ref (q_h G + 279)), some (.ref (q_h G + 294)), some (.ref (q_h G + 295)), some (.int (nI (i))), some (.int (nI (3))), none, none] [.int (nI (s_rule (s_barG g r1M false a1M b1M) r1M 20))] σ_330)
        have hc_326 : σ_330 279 = o11 G (upd (upd F 5 (nI (s_pmany m + 1))) 7 (nI (0))) := hc_326
        have hc_397 : σ_330 0 = o10 G (nI (il)) (z2) (z3) := (hf_329 0 (by decide)).trans hv0
        have hc_398 : σ_330 1 = q_an G 600 f := (hf_329 1 (by decide)).trans hv1
        have hc_399 : σ_330 23 = o5 G (23) (nI (lo)) := (hf_329 23 (by decide)).trans hv2
        have hc_400 : σ_330 24 = q_an G 256 o := (hf_329 24 (by decide)).trans hv3
        have hc_401 : σ_330 224 = q_rn G 2 2 (fun j => some (243 + 18 * j)) := (hf_329 224 (by decide)).trans hv4
        have hc_402 : σ_330 225 = q_bn G 2 kp := (hf_329 225 (by decide)).trans hv5
        have hc_403 : σ_330 281 = q_an G 265 wk := (hf_329 281 (by decide)).trans hv8
        have hc_404 : σ_330 282 = q_an G 265 as := (hf_329 282 (by decide)).trans hv9
        have hc_405 : σ_330 283 = q_an G 530 sh := (hf_329 283 (by decide)).trans hv10
        have hc_406 : σ_330 285 = q_bn G 1681 fb := (hf_329 285 (by decide)).trans hv12
        have hc_407 : σ_330 286 = q_an G 1681 nv := (hf_329 286 (by decide)).trans hv13
        have hc_408 : σ_330 287 = q_an G 1681 ns := (hf_329 287 (by decide)).trans hv14
        have hc_409 : σ_330 288 = q_an G 2000 mk := (hf_329 288 (by decide)).trans hv15
        have hc_410 : σ_330 289 = q_an G 6724 va := (hf_329 289 (by decide)).trans hv16
        have hc_411 : σ_330 290 = q_an G 6724 sp := (hf_329 290 (by decide)).trans hv17
        have hc_412 : σ_330 291 = q_an G 80 lp := (hf_329 291 (by decide)).trans hv18
        have hc_413 : σ_330 292 = q_an G 600 f := (hf_329 292 (by decide)).trans hv19
        have hc_414 : σ_330 293 = q_an G 300 ou := (hf_329 293 (by decide)).trans hv20
        have hc_415 : σ_330 294 = q_ln G 1 oL := (hf_329 294 (by decide)).trans hv21
        have hc_416 : σ_330 295 = q_dn G 1 oD := (hf_329 295 (by decide)).trans hv22
        have e_r : r1C = r1M := q_nI_inj (by omega) (by omega) (Chx0.symm.trans Mhre)
        subst e_r
        have e_k : a1C = a1M := q_nI_inj (by omega) (by omega) (Chx2.symm.trans Mhke)
        subst e_k
        have e_l : b1C = b1M := q_nI_inj (by omega) (by omega) (Chx3.symm.trans Mhle)
        subst e_l
        have hz9 := Mhb4 Chx7 Chx8
        omega
  · skip
    refine A_iconst (v := (nI (1))) hg dL_law_2540 (by decide) ?_
    refine A_goto (tgt := 2545) hg dL_law_2541 (by decide) ?_
    refine A_aload_n hg dL_law_2545 rfl rfl ?_
    refine A_callSH (As := [.ref (q_h G + 0), .int (xs (i + 1)), .int (xs (i + 2)), .int (xs (i + 3)), .int (nI (1)), .ref (q_h G + 294)]) (rest := []) hg lkH_269 stH_L_bar dL_law_2546 ⟨by decide, by decide⟩ (hfK 5 30 (by decide) (by decide)) rfl rfl (Nat.le_of_ble_eq_true rfl) (c_L_bar G 296 σ (nI (il)) z2 z3 g nx m ps (xs (i + 1)) (xs (i + 2)) (xs (i + 3)) true oL hv0 hv21 (by omega) hG hHi (by omega)) ?_
    rintro _ σ_417 (⟨r1C, a1C, b1C, rfl, Chre, Chrl, Chke, Chle, Chkl, Chll, Chkp, ChG2, ChHi2, hc_418, hf_419⟩ | ⟨rfl, Chxx, he_420⟩ | ⟨rfl, Chxx, he_421⟩ | ⟨rfl, Chxx, he_422⟩)
    · skip
      refine (?_ : AJ G K Q (kc + 5) (ks + 30) false 296 2549 [some (.ref bS), some (.ref (q_h G + 0)), some (.ref (q_h G + 279)), some (.ref (q_h G + 294)), some (.ref (q_h G + 295)), some (.int (nI (i))), none, none, none] [.int (nI (0))] σ_417)
      have hc_423 : σ_417 0 = o10 G (nI (il)) (z2) (z3) := (hf_419 0 (by decide)).trans hv0
      have hc_424 : σ_417 1 = q_an G 600 f := (hf_419 1 (by decide)).trans hv1
      have hc_425 : σ_417 23 = o5 G (23) (nI (lo)) := (hf_419 23 (by decide)).trans hv2
      have hc_426 : σ_417 24 = q_an G 256 o := (hf_419 24 (by decide)).trans hv3
      have hc_427 : σ_417 224 = q_rn G 2 2 (fun j => some (243 + 18 * j)) := (hf_419 224 (by decide)).trans hv4
      have hc_428 : σ_417 225 = q_bn G 2 kp := (hf_419 225 (by decide)).trans hv5
      have hc_429 : σ_417 279 = o11 G F := (hf_419 279 (by decide)).trans hv6
      have hc_430 : σ_417 280 = q_an G 265 g := (hf_419 280 (by decide)).trans hv7
      have hc_431 : σ_417 281 = q_an G 265 wk := (hf_419 281 (by decide)).trans hv8
      have hc_432 : σ_417 282 = q_an G 265 as := (hf_419 282 (by decide)).trans hv9
      have hc_433 : σ_417 283 = q_an G 530 sh := (hf_419 283 (by decide)).trans hv10
      have hc_434 : σ_417 284 = q_an G 2120 a := (hf_419 284 (by decide)).trans hv11
      have hc_435 : σ_417 285 = q_bn G 1681 fb := (hf_419 285 (by decide)).trans hv12
      have hc_436 : σ_417 286 = q_an G 1681 nv := (hf_419 286 (by decide)).trans hv13
      have hc_437 : σ_417 287 = q_an G 1681 ns := (hf_419 287 (by decide)).trans hv14
      have hc_438 : σ_417 288 = q_an G 2000 mk := (hf_419 288 (by decide)).trans hv15
      have hc_439 : σ_417 289 = q_an G 6724 va := (hf_419 289 (by decide)).trans hv16
      have hc_440 : σ_417 290 = q_an G 6724 sp := (hf_419 290 (by decide)).trans hv17
      have hc_441 : σ_417 291 = q_an G 80 lp := (hf_419 291 (by decide)).trans hv18
      have hc_442 : σ_417 292 = q_an G 600 f := (hf_419 292 (by decide)).trans hv19
      have hc_443 : σ_417 293 = q_an G 300 ou := (hf_419 293 (by decide)).trans hv20
      have hc_444 : σ_417 295 = q_dn G 1 oD := (hf_419 295 (by decide)).trans hv22
      refine A_istore hg dL_law_2549 (by decide) (q_c1d rfl) ?_
      refine A_eq (ls2 := [some (.ref bS), some (.ref (q_h G + 0)), some (.ref (q_h G + 279)), some (.ref (q_h G + 294)), some (.ref (q_h G + 295)), some (.int (nI (i))), some (.int (nI (0))), none, none]) (st2 := []) (pc2 := 0) rfl rfl ?_
      refine A_aload_n hg dL_law_2551 rfl rfl ?_
      refine A_aload_n hg dL_law_2552 rfl rfl ?_
      refine A_iload hg dL_law_2553 rfl ?_
      refine A_iconst (v := (nI (1))) hg dL_law_2555 (by decide) ?_
      refine A_iaddN hg dL_law_2556 ?_
      refine A_sld hg hX (i + 1) (by omega) dL_law_2557 ?_
      refine A_aload_n hg dL_law_2558 rfl rfl ?_
      refine A_iload hg dL_law_2559 rfl ?_
      refine A_iconst (v := (nI (2))) hg dL_law_2561 (by decide) ?_
      refine A_iaddN hg dL_law_2562 ?_
      refine A_sld hg hX (i + 2) (by omega) dL_law_2563 ?_
      refine A_aload_n hg dL_law_2564 rfl rfl ?_
      refine A_iload hg dL_law_2565 rfl ?_
      refine A_iconst (v := (nI (3))) hg dL_law_2567 (by decide) ?_
      refine A_iaddN hg dL_law_2568 ?_
      refine A_sld hg hX (i + 3) (by omega) dL_law_2569 ?_
      refine A_aload_n hg dL_law_2570 rfl rfl ?_
      refine A_iload hg dL_law_2571 rfl ?_
      refine A_iconst (v := (nI (4))) hg dL_law_2573 (by decide) ?_
      refine A_iaddN hg dL_law_2574 ?_
      refine A_sld hg hX (i + 4) (by omega) dL_law_2575 ?_
      refine A_if_eq (tgt := 2583) hg dL_law_2576 (by decide) (fun z9 => absurd z9 c2537) (fun _ => ?_)
      refine A_iconst (v := (nI (1))) hg dL_law_2579 (by decide) ?_
      refine A_goto (tgt := 2584) hg dL_law_2580 (by decide) ?_
      refine A_hV (kc2 := kc + 5) (ks2 := ks + 30) (As := [.int (xs (i + 1)), .int (xs (i + 2)), .int (xs (i + 3)), .int (nI (1))]) (rest := []) hg lk_RL_272 in_X11_bar se_X11_bar rfl dL_law_2584 ⟨by decide, by decide⟩ rfl rfl (hfK 5 30 (by decide) (by decide)) hc_429 (by omega) rfl rfl (Nat.le_of_ble_eq_true rfl) (c_X11_barB G false 296 σ_417 F g a m (xs (i + 1)) (xs (i + 2)) (xs (i + 3)) true hc_429 hc_430 hc_434 (by omega) hg9 hF5 (by omega)) ?_
      rintro _ σ_455 (⟨rfl, Mhno, hc_445, hf_446⟩ | ⟨r1M, rfl, Mhre, Mhrl, Mhnp, hc_447, hf_448⟩ | ⟨r1M, a1M, b1M, rfl, Mhre, Mhrl, Mhke, Mhle, Mhkl, Mhll, Mhkp, Mhst, Mhsb, Mhs4, hc_449, hf_450⟩ | ⟨r1M, a1M, b1M, aqM, rfl, Mhre, Mhrl, Mhke, Mhle, Mhkl, Mhll, Mhkp, Mhnew, Mhold, Mhb4, hc_451, hc_452, hc_453, hf_454⟩)
      · skip
        refine (?_ : AJ G K Q (kc + 5) (ks + 30) false 296 2587 [some (.ref bS), some (.ref (q_h G + 0)), some (.ref (q_h G + 279)), some (.ref (q_h G + 294)), some (.ref (q_h G + 295)), some (.int (nI (i))), some (.int (nI (0))), none, none] [.int (nI (0))] σ_455)
        have hc_445 : σ_455 279 = o11 G (upd F 7 (nI (1))) := hc_445
        have hc_456 : σ_455 0 = o10 G (nI (il)) (z2) (z3) := (hf_446 0 (by decide)).trans hc_423
        have hc_457 : σ_455 1 = q_an G 600 f := (hf_446 1 (by decide)).trans hc_424
        have hc_458 : σ_455 23 = o5 G (23) (nI (lo)) := (hf_446 23 (by decide)).trans hc_425
        have hc_459 : σ_455 24 = q_an G 256 o := (hf_446 24 (by decide)).trans hc_426
        have hc_460 : σ_455 224 = q_rn G 2 2 (fun j => some (243 + 18 * j)) := (hf_446 224 (by decide)).trans hc_427
        have hc_461 : σ_455 225 = q_bn G 2 kp := (hf_446 225 (by decide)).trans hc_428
        have hc_462 : σ_455 280 = q_an G 265 g := (hf_446 280 (by decide)).trans hc_430
        have hc_463 : σ_455 281 = q_an G 265 wk := (hf_446 281 (by decide)).trans hc_431
        have hc_464 : σ_455 282 = q_an G 265 as := (hf_446 282 (by decide)).trans hc_432
        have hc_465 : σ_455 283 = q_an G 530 sh := (hf_446 283 (by decide)).trans hc_433
        have hc_466 : σ_455 284 = q_an G 2120 a := (hf_446 284 (by decide)).trans hc_434
        have hc_467 : σ_455 285 = q_bn G 1681 fb := (hf_446 285 (by decide)).trans hc_435
        have hc_468 : σ_455 286 = q_an G 1681 nv := (hf_446 286 (by decide)).trans hc_436
        have hc_469 : σ_455 287 = q_an G 1681 ns := (hf_446 287 (by decide)).trans hc_437
        have hc_470 : σ_455 288 = q_an G 2000 mk := (hf_446 288 (by decide)).trans hc_438
        have hc_471 : σ_455 289 = q_an G 6724 va := (hf_446 289 (by decide)).trans hc_439
        have hc_472 : σ_455 290 = q_an G 6724 sp := (hf_446 290 (by decide)).trans hc_440
        have hc_473 : σ_455 291 = q_an G 80 lp := (hf_446 291 (by decide)).trans hc_441
        have hc_474 : σ_455 292 = q_an G 600 f := (hf_446 292 (by decide)).trans hc_442
        have hc_475 : σ_455 293 = q_an G 300 ou := (hf_446 293 (by decide)).trans hc_443
        have hc_476 : σ_455 295 = q_dn G 1 oD := (hf_446 295 (by decide)).trans hc_444
        have hc_477 : σ_455 294 = q_ln G 1 (va_up oL 0 ((nI (s_rule (s_barG g r1C true a1C b1C) r1C 20)).toInt64)) := (hf_446 294 (by decide)).trans hc_418
        exact (Mhno r1C (by omega) Chre).elim
      · skip
        refine (?_ : AJ G K Q (kc + 5) (ks + 30) false 296 2587 [some (.ref bS), some (.ref (q_h G + 0)), some (.ref (q_h G + 279)), some (.ref (q_h G + 294)), some (.ref (q_h G + 295)), some (.int (nI (i))), some (.int (nI (0))), none, none] [.int (nI (0))] σ_455)
        have hc_447 : σ_455 279 = o11 G (upd F 7 (nI (2))) := hc_447
        have hc_478 : σ_455 0 = o10 G (nI (il)) (z2) (z3) := (hf_448 0 (by decide)).trans hc_423
        have hc_479 : σ_455 1 = q_an G 600 f := (hf_448 1 (by decide)).trans hc_424
        have hc_480 : σ_455 23 = o5 G (23) (nI (lo)) := (hf_448 23 (by decide)).trans hc_425
        have hc_481 : σ_455 24 = q_an G 256 o := (hf_448 24 (by decide)).trans hc_426
        have hc_482 : σ_455 224 = q_rn G 2 2 (fun j => some (243 + 18 * j)) := (hf_448 224 (by decide)).trans hc_427
        have hc_483 : σ_455 225 = q_bn G 2 kp := (hf_448 225 (by decide)).trans hc_428
        have hc_484 : σ_455 280 = q_an G 265 g := (hf_448 280 (by decide)).trans hc_430
        have hc_485 : σ_455 281 = q_an G 265 wk := (hf_448 281 (by decide)).trans hc_431
        have hc_486 : σ_455 282 = q_an G 265 as := (hf_448 282 (by decide)).trans hc_432
        have hc_487 : σ_455 283 = q_an G 530 sh := (hf_448 283 (by decide)).trans hc_433
        have hc_488 : σ_455 284 = q_an G 2120 a := (hf_448 284 (by decide)).trans hc_434
        have hc_489 : σ_455 285 = q_bn G 1681 fb := (hf_448 285 (by decide)).trans hc_435
        have hc_490 : σ_455 286 = q_an G 1681 nv := (hf_448 286 (by decide)).trans hc_436
        have hc_491 : σ_455 287 = q_an G 1681 ns := (hf_448 287 (by decide)).trans hc_437
        have hc_492 : σ_455 288 = q_an G 2000 mk := (hf_448 288 (by decide)).trans hc_438
        have hc_493 : σ_455 289 = q_an G 6724 va := (hf_448 289 (by decide)).trans hc_439
        have hc_494 : σ_455 290 = q_an G 6724 sp := (hf_448 290 (by decide)).trans hc_440
        have hc_495 : σ_455 291 = q_an G 80 lp := (hf_448 291 (by decide)).trans hc_441
        have hc_496 : σ_455 292 = q_an G 600 f := (hf_448 292 (by decide)).trans hc_442
        have hc_497 : σ_455 293 = q_an G 300 ou := (hf_448 293 (by decide)).trans hc_443
        have hc_498 : σ_455 295 = q_dn G 1 oD := (hf_448 295 (by decide)).trans hc_444
        have hc_499 : σ_455 294 = q_ln G 1 (va_up oL 0 ((nI (s_rule (s_barG g r1C true a1C b1C) r1C 20)).toInt64)) := (hf_448 294 (by decide)).trans hc_418
        have e_r : r1C = r1M := q_nI_inj (by omega) (by omega) (Chre.symm.trans Mhre)
        subst e_r
        exact (Mhnp a1C b1C (by omega) (by omega) (by omega) Chke Chle).elim
      · skip
        refine (?_ : AJ G K Q (kc + 5) (ks + 30) false 296 2587 [some (.ref bS), some (.ref (q_h G + 0)), some (.ref (q_h G + 279)), some (.ref (q_h G + 294)), some (.ref (q_h G + 295)), some (.int (nI (i))), some (.int (nI (0))), none, none] [.int (nI (0))] σ_455)
        have hc_449 : σ_455 279 = o11 G (upd F 7 (nI (3))) := hc_449
        have hc_500 : σ_455 0 = o10 G (nI (il)) (z2) (z3) := (hf_450 0 (by decide)).trans hc_423
        have hc_501 : σ_455 1 = q_an G 600 f := (hf_450 1 (by decide)).trans hc_424
        have hc_502 : σ_455 23 = o5 G (23) (nI (lo)) := (hf_450 23 (by decide)).trans hc_425
        have hc_503 : σ_455 24 = q_an G 256 o := (hf_450 24 (by decide)).trans hc_426
        have hc_504 : σ_455 224 = q_rn G 2 2 (fun j => some (243 + 18 * j)) := (hf_450 224 (by decide)).trans hc_427
        have hc_505 : σ_455 225 = q_bn G 2 kp := (hf_450 225 (by decide)).trans hc_428
        have hc_506 : σ_455 280 = q_an G 265 g := (hf_450 280 (by decide)).trans hc_430
        have hc_507 : σ_455 281 = q_an G 265 wk := (hf_450 281 (by decide)).trans hc_431
        have hc_508 : σ_455 282 = q_an G 265 as := (hf_450 282 (by decide)).trans hc_432
        have hc_509 : σ_455 283 = q_an G 530 sh := (hf_450 283 (by decide)).trans hc_433
        have hc_510 : σ_455 284 = q_an G 2120 a := (hf_450 284 (by decide)).trans hc_434
        have hc_511 : σ_455 285 = q_bn G 1681 fb := (hf_450 285 (by decide)).trans hc_435
        have hc_512 : σ_455 286 = q_an G 1681 nv := (hf_450 286 (by decide)).trans hc_436
        have hc_513 : σ_455 287 = q_an G 1681 ns := (hf_450 287 (by decide)).trans hc_437
        have hc_514 : σ_455 288 = q_an G 2000 mk := (hf_450 288 (by decide)).trans hc_438
        have hc_515 : σ_455 289 = q_an G 6724 va := (hf_450 289 (by decide)).trans hc_439
        have hc_516 : σ_455 290 = q_an G 6724 sp := (hf_450 290 (by decide)).trans hc_440
        have hc_517 : σ_455 291 = q_an G 80 lp := (hf_450 291 (by decide)).trans hc_441
        have hc_518 : σ_455 292 = q_an G 600 f := (hf_450 292 (by decide)).trans hc_442
        have hc_519 : σ_455 293 = q_an G 300 ou := (hf_450 293 (by decide)).trans hc_443
        have hc_520 : σ_455 295 = q_dn G 1 oD := (hf_450 295 (by decide)).trans hc_444
        have hc_521 : σ_455 294 = q_ln G 1 (va_up oL 0 ((nI (s_rule (s_barG g r1C true a1C b1C) r1C 20)).toInt64)) := (hf_450 294 (by decide)).trans hc_418
        have e_r : r1C = r1M := q_nI_inj (by omega) (by omega) (Chre.symm.trans Mhre)
        subst e_r
        have e_k : a1C = a1M := q_nI_inj (by omega) (by omega) (Chke.symm.trans Mhke)
        subst e_k
        have e_l : b1C = b1M := q_nI_inj (by omega) (by omega) (Chle.symm.trans Mhle)
        subst e_l
        have hz9 := iv_bar hg9 Chrl (iv_g ChG2) Mhst Mhsb
        omega
      · skip
        refine (?_ : AJ G K Q (kc + 5) (ks + 30) false 296 2587 [some (.ref bS), some (.ref (q_h G + 0)), some (.ref (q_h G + 279)), some (.ref (q_h G + 294)), some (.ref (q_h G + 295)), some (.int (nI (i))), some (.int (nI (0))), none, none] [.int (nI (s_rule (s_barG g r1M true a1M b1M) r1M 20))] σ_455)
        have hc_451 : σ_455 279 = o11 G (upd (upd F 5 (nI (s_pmany m + 1))) 7 (nI (0))) := hc_451
        have hc_522 : σ_455 0 = o10 G (nI (il)) (z2) (z3) := (hf_454 0 (by decide)).trans hc_423
        have hc_523 : σ_455 1 = q_an G 600 f := (hf_454 1 (by decide)).trans hc_424
        have hc_524 : σ_455 23 = o5 G (23) (nI (lo)) := (hf_454 23 (by decide)).trans hc_425
        have hc_525 : σ_455 24 = q_an G 256 o := (hf_454 24 (by decide)).trans hc_426
        have hc_526 : σ_455 224 = q_rn G 2 2 (fun j => some (243 + 18 * j)) := (hf_454 224 (by decide)).trans hc_427
        have hc_527 : σ_455 225 = q_bn G 2 kp := (hf_454 225 (by decide)).trans hc_428
        have hc_528 : σ_455 281 = q_an G 265 wk := (hf_454 281 (by decide)).trans hc_431
        have hc_529 : σ_455 282 = q_an G 265 as := (hf_454 282 (by decide)).trans hc_432
        have hc_530 : σ_455 283 = q_an G 530 sh := (hf_454 283 (by decide)).trans hc_433
        have hc_531 : σ_455 285 = q_bn G 1681 fb := (hf_454 285 (by decide)).trans hc_435
        have hc_532 : σ_455 286 = q_an G 1681 nv := (hf_454 286 (by decide)).trans hc_436
        have hc_533 : σ_455 287 = q_an G 1681 ns := (hf_454 287 (by decide)).trans hc_437
        have hc_534 : σ_455 288 = q_an G 2000 mk := (hf_454 288 (by decide)).trans hc_438
        have hc_535 : σ_455 289 = q_an G 6724 va := (hf_454 289 (by decide)).trans hc_439
        have hc_536 : σ_455 290 = q_an G 6724 sp := (hf_454 290 (by decide)).trans hc_440
        have hc_537 : σ_455 291 = q_an G 80 lp := (hf_454 291 (by decide)).trans hc_441
        have hc_538 : σ_455 292 = q_an G 600 f := (hf_454 292 (by decide)).trans hc_442
        have hc_539 : σ_455 293 = q_an G 300 ou := (hf_454 293 (by decide)).trans hc_443
        have hc_540 : σ_455 295 = q_dn G 1 oD := (hf_454 295 (by decide)).trans hc_444
        have hc_541 : σ_455 294 = q_ln G 1 (va_up oL 0 ((nI (s_rule (s_barG g r1C true a1C b1C) r1C 20)).toInt64)) := (hf_454 294 (by decide)).trans hc_418
        have e_r : r1C = r1M := q_nI_inj (by omega) (by omega) (Chre.symm.trans Mhre)
        subst e_r
        have e_k : a1C = a1M := q_nI_inj (by omega) (by omega) (Chke.symm.trans Mhke)
        subst e_k
        have e_l : b1C = b1M := q_nI_inj (by omega) (by omega) (Chle.symm.trans Mhle)
        subst e_l
        refine A_istore hg dL_law_2587 (by decide) (q_c1d rfl) ?_
        refine A_eq (ls2 := [some (.ref bS), some (.ref (q_h G + 0)), some (.ref (q_h G + 279)), some (.ref (q_h G + 294)), some (.ref (q_h G + 295)), some (.int (nI (i))), some (.int (nI (0))), some (.int (nI (s_rule (s_barG g r1C true a1C b1C) r1C 20))), none]) (st2 := []) (pc2 := 0) rfl rfl ?_
        refine A_aload_n hg dL_law_2589 rfl rfl ?_
        refine A_eV (kc2 := kc + 5) (ks2 := ks + 30) (As := []) (rest := []) hg lk_RL_170 in_X11_thrown se_X11_thrown rfl dL_law_2590 ⟨by decide, by decide⟩ rfl rfl (hfK 5 30 (by decide) (by decide)) hc_451 (by omega) rfl rfl (Nat.le_of_ble_eq_true rfl) (c_X11_thrown G false 296 σ_455 (upd (upd F 5 (nI (s_pmany m + 1))) 7 (nI (0))) hc_451 (by omega)) ?_
        refine A_top (w := .int (nI (0))) (congrArg Value.int rfl) ?_
        refine A_iload hg dL_law_2593 rfl ?_
        refine A_icmp_eqN (tgt := 2600) hg dL_law_2595 (by decide) (by decide) (by decide) (fun c2595 => ?_) (fun c2595 => False.elim (by omega))
        refine A_iload hg dL_law_2600 rfl ?_
        refine A_if_neN (tgt := 2617) hg dL_law_2602 (by decide) (by decide) (fun c2602 => absurd (by decide) c2602) (fun c2602 => ?_)
        refine A_aload_n hg dL_law_2605 rfl rfl ?_
        refine A_iconst (v := (nI (0))) hg dL_law_2606 (by decide) ?_
        refine A_lald (j := 0) hg dL_law_2607 hc_541 (by omega) (by decide) (by decide) ?_
        refine A_top (w := .long ((nI (s_rule (s_barG g r1C true a1C b1C) r1C 20)).toInt64)) (congrArg Value.long iv_up0) ?_
        refine A_iload hg dL_law_2608 rfl ?_
        refine A_i2l (v := (nI (s_rule (s_barG g r1C true a1C b1C) r1C 20)).toInt64) hg dL_law_2610 rfl ?_
        refine A_lcmp hg dL_law_2611 ?_
        refine A_top (w := .int (nI 0)) (congrArg Value.int (lc_self _)) ?_
        refine A_if_eqN (tgt := 2617) hg dL_law_2612 (by decide) (by decide) (fun c2612 => ?_) (fun c2612 => absurd (by decide) c2612)
        refine A_goto (tgt := 3062) hg dL_law_2617 (by decide) ?_
        refine A_drop 6 ?_
        refine A_drop 7 ?_
        refine A_eq (ls2 := [some (.ref bS), some (.ref (q_h G + 0)), some (.ref (q_h G + 279)), some (.ref (q_h G + 294)), some (.ref (q_h G + 295)), some (.int (nI (i))), none, none, none]) (st2 := []) (pc2 := 0) rfl rfl ?_
        refine A_wide (kc2 := kc + 8) (ks2 := ks + 48) (by omega) (by omega) ?_
        exact hnxt _ (iv_mk il z2 z3 f lo o (s_barG g r1C true a1C b1C) ((nx + 1) % 8) (min (m + 1) 8) (x_psh m ps g) kp sn (upd (upd F 5 (nI (s_pmany m + 1))) 7 (nI (0))) wk as sh aqM fb nv ns mk va sp lp mc z ss ou (va_up oL 0 ((nI (s_rule (s_barG g r1C true a1C b1C) r1C 20)).toInt64)) oD hc_522 hc_523 hc_524 hc_525 hc_526 hc_527 hc_451 hc_452 hc_528 hc_529 hc_530 hc_453 hc_531 hc_532 hc_533 hc_534 hc_535 hc_536 hc_537 hc_538 hc_539 hc_541 hc_540 (x_lj_e (fun i _ _ => ((hf_454 i (by omega)).trans (hf_419 i (by omega)))) hL) (x_gm_e (fun i _ _ => (hf_454 i (by omega))) ChG2) (x_mx_e (fun i _ _ => ((hf_454 i (by omega)).trans (hf_419 i (by omega)))) hM) (x_hi_e (fun i _ _ => (hf_454 i (by omega))) ChHi2) (x_oj_e (fun i _ _ => ((hf_454 i (by omega)).trans (hf_419 i (by omega)))) hO) (x_pj_e (fun i _ _ => ((hf_454 i (by omega)).trans (hf_419 i (by omega)))) hT) (iv_hn (fun i _ _ => ((hf_454 i (by omega)).trans (hf_419 i (by omega)))) hH) (iv_Sn (fun i _ _ => ((hf_454 i (by omega)).trans (hf_419 i (by omega)))) hSn) (iv_Kp (fun i _ _ => ((hf_454 i (by omega)).trans (hf_419 i (by omega)))) hKp) (by omega) hfb (by omega) hou (x_gbd_bar hg9 Chrl (iv_bar hg9 Chrl (iv_g ChG2)) hgd) (iv_push hm8 hgd hps Mhnew Mhold) hk1 hkss hss hsn (congrArg nI (iv_pm hm8)) hF6 hF12 hF16 hF21 hF22 hF23 hF33 (by omega) hmk hTI hlo)
    · skip
      rw [he_420]
      refine (?_ : AJ G K Q (kc + 5) (ks + 30) false 296 2549 [some (.ref bS), some (.ref (q_h G + 0)), some (.ref (q_h G + 279)), some (.ref (q_h G + 294)), some (.ref (q_h G + 295)), some (.int (nI (i))), none, none, none] [.int (nI (1))] σ)
      refine A_istore hg dL_law_2549 (by decide) (q_c1d rfl) ?_
      refine A_eq (ls2 := [some (.ref bS), some (.ref (q_h G + 0)), some (.ref (q_h G + 279)), some (.ref (q_h G + 294)), some (.ref (q_h G + 295)), some (.int (nI (i))), some (.int (nI (1))), none, none]) (st2 := []) (pc2 := 0) rfl rfl ?_
      refine A_aload_n hg dL_law_2551 rfl rfl ?_
      refine A_aload_n hg dL_law_2552 rfl rfl ?_
      refine A_iload hg dL_law_2553 rfl ?_
      refine A_iconst (v := (nI (1))) hg dL_law_2555 (by decide) ?_
      refine A_iaddN hg dL_law_2556 ?_
      refine A_sld hg hX (i + 1) (by omega) dL_law_2557 ?_
      refine A_aload_n hg dL_law_2558 rfl rfl ?_
      refine A_iload hg dL_law_2559 rfl ?_
      refine A_iconst (v := (nI (2))) hg dL_law_2561 (by decide) ?_
      refine A_iaddN hg dL_law_2562 ?_
      refine A_sld hg hX (i + 2) (by omega) dL_law_2563 ?_
      refine A_aload_n hg dL_law_2564 rfl rfl ?_
      refine A_iload hg dL_law_2565 rfl ?_
      refine A_iconst (v := (nI (3))) hg dL_law_2567 (by decide) ?_
      refine A_iaddN hg dL_law_2568 ?_
      refine A_sld hg hX (i + 3) (by omega) dL_law_2569 ?_
      refine A_aload_n hg dL_law_2570 rfl rfl ?_
      refine A_iload hg dL_law_2571 rfl ?_
      refine A_iconst (v := (nI (4))) hg dL_law_2573 (by decide) ?_
      refine A_iaddN hg dL_law_2574 ?_
      refine A_sld hg hX (i + 4) (by omega) dL_law_2575 ?_
      refine A_if_eq (tgt := 2583) hg dL_law_2576 (by decide) (fun z9 => absurd z9 c2537) (fun _ => ?_)
      refine A_iconst (v := (nI (1))) hg dL_law_2579 (by decide) ?_
      refine A_goto (tgt := 2584) hg dL_law_2580 (by decide) ?_
      refine A_hV (kc2 := kc + 5) (ks2 := ks + 30) (As := [.int (xs (i + 1)), .int (xs (i + 2)), .int (xs (i + 3)), .int (nI (1))]) (rest := []) hg lk_RL_272 in_X11_bar se_X11_bar rfl dL_law_2584 ⟨by decide, by decide⟩ rfl rfl (hfK 5 30 (by decide) (by decide)) hv6 (by omega) rfl rfl (Nat.le_of_ble_eq_true rfl) (c_X11_barB G false 296 σ F g a m (xs (i + 1)) (xs (i + 2)) (xs (i + 3)) true hv6 hv7 hv11 (by omega) hg9 hF5 (by omega)) ?_
      rintro _ σ_552 (⟨rfl, Mhno, hc_542, hf_543⟩ | ⟨r1M, rfl, Mhre, Mhrl, Mhnp, hc_544, hf_545⟩ | ⟨r1M, a1M, b1M, rfl, Mhre, Mhrl, Mhke, Mhle, Mhkl, Mhll, Mhkp, Mhst, Mhsb, Mhs4, hc_546, hf_547⟩ | ⟨r1M, a1M, b1M, aqM, rfl, Mhre, Mhrl, Mhke, Mhle, Mhkl, Mhll, Mhkp, Mhnew, Mhold, Mhb4, hc_548, hc_549, hc_550, hf_551⟩)
      · skip
        refine (?_ : AJ G K Q (kc + 5) (ks + 30) false 296 2587 [some (.ref bS), some (.ref (q_h G + 0)), some (.ref (q_h G + 279)), some (.ref (q_h G + 294)), some (.ref (q_h G + 295)), some (.int (nI (i))), some (.int (nI (1))), none, none] [.int (nI (0))] σ_552)
        have hc_542 : σ_552 279 = o11 G (upd F 7 (nI (1))) := hc_542
        have hc_553 : σ_552 0 = o10 G (nI (il)) (z2) (z3) := (hf_543 0 (by decide)).trans hv0
        have hc_554 : σ_552 1 = q_an G 600 f := (hf_543 1 (by decide)).trans hv1
        have hc_555 : σ_552 23 = o5 G (23) (nI (lo)) := (hf_543 23 (by decide)).trans hv2
        have hc_556 : σ_552 24 = q_an G 256 o := (hf_543 24 (by decide)).trans hv3
        have hc_557 : σ_552 224 = q_rn G 2 2 (fun j => some (243 + 18 * j)) := (hf_543 224 (by decide)).trans hv4
        have hc_558 : σ_552 225 = q_bn G 2 kp := (hf_543 225 (by decide)).trans hv5
        have hc_559 : σ_552 280 = q_an G 265 g := (hf_543 280 (by decide)).trans hv7
        have hc_560 : σ_552 281 = q_an G 265 wk := (hf_543 281 (by decide)).trans hv8
        have hc_561 : σ_552 282 = q_an G 265 as := (hf_543 282 (by decide)).trans hv9
        have hc_562 : σ_552 283 = q_an G 530 sh := (hf_543 283 (by decide)).trans hv10
        have hc_563 : σ_552 284 = q_an G 2120 a := (hf_543 284 (by decide)).trans hv11
        have hc_564 : σ_552 285 = q_bn G 1681 fb := (hf_543 285 (by decide)).trans hv12
        have hc_565 : σ_552 286 = q_an G 1681 nv := (hf_543 286 (by decide)).trans hv13
        have hc_566 : σ_552 287 = q_an G 1681 ns := (hf_543 287 (by decide)).trans hv14
        have hc_567 : σ_552 288 = q_an G 2000 mk := (hf_543 288 (by decide)).trans hv15
        have hc_568 : σ_552 289 = q_an G 6724 va := (hf_543 289 (by decide)).trans hv16
        have hc_569 : σ_552 290 = q_an G 6724 sp := (hf_543 290 (by decide)).trans hv17
        have hc_570 : σ_552 291 = q_an G 80 lp := (hf_543 291 (by decide)).trans hv18
        have hc_571 : σ_552 292 = q_an G 600 f := (hf_543 292 (by decide)).trans hv19
        have hc_572 : σ_552 293 = q_an G 300 ou := (hf_543 293 (by decide)).trans hv20
        have hc_573 : σ_552 294 = q_ln G 1 oL := (hf_543 294 (by decide)).trans hv21
        have hc_574 : σ_552 295 = q_dn G 1 oD := (hf_543 295 (by decide)).trans hv22
        refine A_istore hg dL_law_2587 (by decide) (q_c1d rfl) ?_
        refine A_eq (ls2 := [some (.ref bS), some (.ref (q_h G + 0)), some (.ref (q_h G + 279)), some (.ref (q_h G + 294)), some (.ref (q_h G + 295)), some (.int (nI (i))), some (.int (nI (1))), some (.int (nI (0))), none]) (st2 := []) (pc2 := 0) rfl rfl ?_
        refine A_aload_n hg dL_law_2589 rfl rfl ?_
        refine A_eV (kc2 := kc + 5) (ks2 := ks + 30) (As := []) (rest := []) hg lk_RL_170 in_X11_thrown se_X11_thrown rfl dL_law_2590 ⟨by decide, by decide⟩ rfl rfl (hfK 5 30 (by decide) (by decide)) hc_542 (by omega) rfl rfl (Nat.le_of_ble_eq_true rfl) (c_X11_thrown G false 296 σ_552 (upd F 7 (nI (1))) hc_542 (by omega)) ?_
        refine A_top (w := .int (nI (1))) (congrArg Value.int rfl) ?_
        refine A_iload hg dL_law_2593 rfl ?_
        refine A_icmp_eqN (tgt := 2600) hg dL_law_2595 (by decide) (by decide) (by decide) (fun c2595 => ?_) (fun c2595 => False.elim (by omega))
        refine A_iload hg dL_law_2600 rfl ?_
        refine A_if_neN (tgt := 2617) hg dL_law_2602 (by decide) (by decide) (fun c2602 => ?_) (fun c2602 => absurd c2602 (by decide))
        refine A_goto (tgt := 3062) hg dL_law_2617 (by decide) ?_
        refine A_drop 6 ?_
        refine A_drop 7 ?_
        refine A_eq (ls2 := [some (.ref bS), some (.ref (q_h G + 0)), some (.ref (q_h G + 279)), some (.ref (q_h G + 294)), some (.ref (q_h G + 295)), some (.int (nI (i))), none, none, none]) (st2 := []) (pc2 := 0) rfl rfl ?_
        refine A_wide (kc2 := kc + 8) (ks2 := ks + 48) (by omega) (by omega) ?_
        exact hnxt _ (iv_mk il z2 z3 f lo o g nx m ps kp sn (upd F 7 (nI (1))) wk as sh a fb nv ns mk va sp lp mc z ss ou oL oD hc_553 hc_554 hc_555 hc_556 hc_557 hc_558 hc_542 hc_559 hc_560 hc_561 hc_562 hc_563 hc_564 hc_565 hc_566 hc_567 hc_568 hc_569 hc_570 hc_571 hc_572 hc_573 hc_574 (x_lj_e (fun i _ _ => (hf_543 i (by omega))) hL) (x_gm_e (fun i _ _ => (hf_543 i (by omega))) hG) (x_mx_e (fun i _ _ => (hf_543 i (by omega))) hM) (x_hi_e (fun i _ _ => (hf_543 i (by omega))) hHi) (x_oj_e (fun i _ _ => (hf_543 i (by omega))) hO) (x_pj_e (fun i _ _ => (hf_543 i (by omega))) hT) (iv_hn (fun i _ _ => (hf_543 i (by omega))) hH) (iv_Sn (fun i _ _ => (hf_543 i (by omega))) hSn) (iv_Kp (fun i _ _ => (hf_543 i (by omega))) hKp) (by omega) hfb (by omega) hou hgd hps hk1 hkss hss hsn hF5 hF6 hF12 hF16 hF21 hF22 hF23 hF33 (by omega) hmk hTI hlo)
      · skip
        refine (?_ : AJ G K Q (kc + 5) (ks + 30) false 296 2587 [some (.ref bS), some (.ref (q_h G + 0)), some (.ref (q_h G + 279)), some (.ref (q_h G + 294)), some (.ref (q_h G + 295)), some (.int (nI (i))), some (.int (nI (1))), none, none] [.int (nI (0))] σ_552)
        have hc_544 : σ_552 279 = o11 G (upd F 7 (nI (2))) := hc_544
        have hc_575 : σ_552 0 = o10 G (nI (il)) (z2) (z3) := (hf_545 0 (by decide)).trans hv0
        have hc_576 : σ_552 1 = q_an G 600 f := (hf_545 1 (by decide)).trans hv1
        have hc_577 : σ_552 23 = o5 G (23) (nI (lo)) := (hf_545 23 (by decide)).trans hv2
        have hc_578 : σ_552 24 = q_an G 256 o := (hf_545 24 (by decide)).trans hv3
        have hc_579 : σ_552 224 = q_rn G 2 2 (fun j => some (243 + 18 * j)) := (hf_545 224 (by decide)).trans hv4
        have hc_580 : σ_552 225 = q_bn G 2 kp := (hf_545 225 (by decide)).trans hv5
        have hc_581 : σ_552 280 = q_an G 265 g := (hf_545 280 (by decide)).trans hv7
        have hc_582 : σ_552 281 = q_an G 265 wk := (hf_545 281 (by decide)).trans hv8
        have hc_583 : σ_552 282 = q_an G 265 as := (hf_545 282 (by decide)).trans hv9
        have hc_584 : σ_552 283 = q_an G 530 sh := (hf_545 283 (by decide)).trans hv10
        have hc_585 : σ_552 284 = q_an G 2120 a := (hf_545 284 (by decide)).trans hv11
        have hc_586 : σ_552 285 = q_bn G 1681 fb := (hf_545 285 (by decide)).trans hv12
        have hc_587 : σ_552 286 = q_an G 1681 nv := (hf_545 286 (by decide)).trans hv13
        have hc_588 : σ_552 287 = q_an G 1681 ns := (hf_545 287 (by decide)).trans hv14
        have hc_589 : σ_552 288 = q_an G 2000 mk := (hf_545 288 (by decide)).trans hv15
        have hc_590 : σ_552 289 = q_an G 6724 va := (hf_545 289 (by decide)).trans hv16
        have hc_591 : σ_552 290 = q_an G 6724 sp := (hf_545 290 (by decide)).trans hv17
        have hc_592 : σ_552 291 = q_an G 80 lp := (hf_545 291 (by decide)).trans hv18
        have hc_593 : σ_552 292 = q_an G 600 f := (hf_545 292 (by decide)).trans hv19
        have hc_594 : σ_552 293 = q_an G 300 ou := (hf_545 293 (by decide)).trans hv20
        have hc_595 : σ_552 294 = q_ln G 1 oL := (hf_545 294 (by decide)).trans hv21
        have hc_596 : σ_552 295 = q_dn G 1 oD := (hf_545 295 (by decide)).trans hv22
        exact (Chxx r1M (by omega) Mhre).elim
      · skip
        refine (?_ : AJ G K Q (kc + 5) (ks + 30) false 296 2587 [some (.ref bS), some (.ref (q_h G + 0)), some (.ref (q_h G + 279)), some (.ref (q_h G + 294)), some (.ref (q_h G + 295)), some (.int (nI (i))), some (.int (nI (1))), none, none] [.int (nI (0))] σ_552)
        have hc_546 : σ_552 279 = o11 G (upd F 7 (nI (3))) := hc_546
        have hc_597 : σ_552 0 = o10 G (nI (il)) (z2) (z3) := (hf_547 0 (by decide)).trans hv0
        have hc_598 : σ_552 1 = q_an G 600 f := (hf_547 1 (by decide)).trans hv1
        have hc_599 : σ_552 23 = o5 G (23) (nI (lo)) := (hf_547 23 (by decide)).trans hv2
        have hc_600 : σ_552 24 = q_an G 256 o := (hf_547 24 (by decide)).trans hv3
        have hc_601 : σ_552 224 = q_rn G 2 2 (fun j => some (243 + 18 * j)) := (hf_547 224 (by decide)).trans hv4
        have hc_602 : σ_552 225 = q_bn G 2 kp := (hf_547 225 (by decide)).trans hv5
        have hc_603 : σ_552 280 = q_an G 265 g := (hf_547 280 (by decide)).trans hv7
        have hc_604 : σ_552 281 = q_an G 265 wk := (hf_547 281 (by decide)).trans hv8
        have hc_605 : σ_552 282 = q_an G 265 as := (hf_547 282 (by decide)).trans hv9
        have hc_606 : σ_552 283 = q_an G 530 sh := (hf_547 283 (by decide)).trans hv10
        have hc_607 : σ_552 284 = q_an G 2120 a := (hf_547 284 (by decide)).trans hv11
        have hc_608 : σ_552 285 = q_bn G 1681 fb := (hf_547 285 (by decide)).trans hv12
        have hc_609 : σ_552 286 = q_an G 1681 nv := (hf_547 286 (by decide)).trans hv13
        have hc_610 : σ_552 287 = q_an G 1681 ns := (hf_547 287 (by decide)).trans hv14
        have hc_611 : σ_552 288 = q_an G 2000 mk := (hf_547 288 (by decide)).trans hv15
        have hc_612 : σ_552 289 = q_an G 6724 va := (hf_547 289 (by decide)).trans hv16
        have hc_613 : σ_552 290 = q_an G 6724 sp := (hf_547 290 (by decide)).trans hv17
        have hc_614 : σ_552 291 = q_an G 80 lp := (hf_547 291 (by decide)).trans hv18
        have hc_615 : σ_552 292 = q_an G 600 f := (hf_547 292 (by decide)).trans hv19
        have hc_616 : σ_552 293 = q_an G 300 ou := (hf_547 293 (by decide)).trans hv20
        have hc_617 : σ_552 294 = q_ln G 1 oL := (hf_547 294 (by decide)).trans hv21
        have hc_618 : σ_552 295 = q_dn G 1 oD := (hf_547 295 (by decide)).trans hv22
        exact (Chxx r1M (by omega) Mhre).elim
      · skip
        refine (?_ : AJ G K Q (kc + 5) (ks + 30) false 296 2587 [some (.ref bS), some (.ref (q_h G + 0)), some (.ref (q_h G + 279)), some (.ref (q_h G + 294)), some (.ref (q_h G + 295)), some (.int (nI (i))), some (.int (nI (1))), none, none] [.int (nI (s_rule (s_barG g r1M true a1M b1M) r1M 20))] σ_552)
        have hc_548 : σ_552 279 = o11 G (upd (upd F 5 (nI (s_pmany m + 1))) 7 (nI (0))) := hc_548
        have hc_619 : σ_552 0 = o10 G (nI (il)) (z2) (z3) := (hf_551 0 (by decide)).trans hv0
        have hc_620 : σ_552 1 = q_an G 600 f := (hf_551 1 (by decide)).trans hv1
        have hc_621 : σ_552 23 = o5 G (23) (nI (lo)) := (hf_551 23 (by decide)).trans hv2
        have hc_622 : σ_552 24 = q_an G 256 o := (hf_551 24 (by decide)).trans hv3
        have hc_623 : σ_552 224 = q_rn G 2 2 (fun j => some (243 + 18 * j)) := (hf_551 224 (by decide)).trans hv4
        have hc_624 : σ_552 225 = q_bn G 2 kp := (hf_551 225 (by decide)).trans hv5
        have hc_625 : σ_552 281 = q_an G 265 wk := (hf_551 281 (by decide)).trans hv8
        have hc_626 : σ_552 282 = q_an G 265 as := (hf_551 282 (by decide)).trans hv9
        have hc_627 : σ_552 283 = q_an G 530 sh := (hf_551 283 (by decide)).trans hv10
        have hc_628 : σ_552 285 = q_bn G 1681 fb := (hf_551 285 (by decide)).trans hv12
        have hc_629 : σ_552 286 = q_an G 1681 nv := (hf_551 286 (by decide)).trans hv13
        have hc_630 : σ_552 287 = q_an G 1681 ns := (hf_551 287 (by decide)).trans hv14
        have hc_631 : σ_552 288 = q_an G 2000 mk := (hf_551 288 (by decide)).trans hv15
        have hc_632 : σ_552 289 = q_an G 6724 va := (hf_551 289 (by decide)).trans hv16
        have hc_633 : σ_552 290 = q_an G 6724 sp := (hf_551 290 (by decide)).trans hv17
        have hc_634 : σ_552 291 = q_an G 80 lp := (hf_551 291 (by decide)).trans hv18
        have hc_635 : σ_552 292 = q_an G 600 f := (hf_551 292 (by decide)).trans hv19
        have hc_636 : σ_552 293 = q_an G 300 ou := (hf_551 293 (by decide)).trans hv20
        have hc_637 : σ_552 294 = q_ln G 1 oL := (hf_551 294 (by decide)).trans hv21
        have hc_638 : σ_552 295 = q_dn G 1 oD := (hf_551 295 (by decide)).trans hv22
        exact (Chxx r1M (by omega) Mhre).elim
    · skip
      rw [he_421]
      refine (?_ : AJ G K Q (kc + 5) (ks + 30) false 296 2549 [some (.ref bS), some (.ref (q_h G + 0)), some (.ref (q_h G + 279)), some (.ref (q_h G + 294)), some (.ref (q_h G + 295)), some (.int (nI (i))), none, none, none] [.int (nI (2))] σ)
      obtain ⟨r1C, Chx0, Chx1, Chx2⟩ := Chxx
      refine A_istore hg dL_law_2549 (by decide) (q_c1d rfl) ?_
      refine A_eq (ls2 := [some (.ref bS), some (.ref (q_h G + 0)), some (.ref (q_h G + 279)), some (.ref (q_h G + 294)), some (.ref (q_h G + 295)), some (.int (nI (i))), some (.int (nI (2))), none, none]) (st2 := []) (pc2 := 0) rfl rfl ?_
      refine A_aload_n hg dL_law_2551 rfl rfl ?_
      refine A_aload_n hg dL_law_2552 rfl rfl ?_
      refine A_iload hg dL_law_2553 rfl ?_
      refine A_iconst (v := (nI (1))) hg dL_law_2555 (by decide) ?_
      refine A_iaddN hg dL_law_2556 ?_
      refine A_sld hg hX (i + 1) (by omega) dL_law_2557 ?_
      refine A_aload_n hg dL_law_2558 rfl rfl ?_
      refine A_iload hg dL_law_2559 rfl ?_
      refine A_iconst (v := (nI (2))) hg dL_law_2561 (by decide) ?_
      refine A_iaddN hg dL_law_2562 ?_
      refine A_sld hg hX (i + 2) (by omega) dL_law_2563 ?_
      refine A_aload_n hg dL_law_2564 rfl rfl ?_
      refine A_iload hg dL_law_2565 rfl ?_
      refine A_iconst (v := (nI (3))) hg dL_law_2567 (by decide) ?_
      refine A_iaddN hg dL_law_2568 ?_
      refine A_sld hg hX (i + 3) (by omega) dL_law_2569 ?_
      refine A_aload_n hg dL_law_2570 rfl rfl ?_
      refine A_iload hg dL_law_2571 rfl ?_
      refine A_iconst (v := (nI (4))) hg dL_law_2573 (by decide) ?_
      refine A_iaddN hg dL_law_2574 ?_
      refine A_sld hg hX (i + 4) (by omega) dL_law_2575 ?_
      refine A_if_eq (tgt := 2583) hg dL_law_2576 (by decide) (fun z9 => absurd z9 c2537) (fun _ => ?_)
      refine A_iconst (v := (nI (1))) hg dL_law_2579 (by decide) ?_
      refine A_goto (tgt := 2584) hg dL_law_2580 (by decide) ?_
      refine A_hV (kc2 := kc + 5) (ks2 := ks + 30) (As := [.int (xs (i + 1)), .int (xs (i + 2)), .int (xs (i + 3)), .int (nI (1))]) (rest := []) hg lk_RL_272 in_X11_bar se_X11_bar rfl dL_law_2584 ⟨by decide, by decide⟩ rfl rfl (hfK 5 30 (by decide) (by decide)) hv6 (by omega) rfl rfl (Nat.le_of_ble_eq_true rfl) (c_X11_barB G false 296 σ F g a m (xs (i + 1)) (xs (i + 2)) (xs (i + 3)) true hv6 hv7 hv11 (by omega) hg9 hF5 (by omega)) ?_
      rintro _ σ_649 (⟨rfl, Mhno, hc_639, hf_640⟩ | ⟨r1M, rfl, Mhre, Mhrl, Mhnp, hc_641, hf_642⟩ | ⟨r1M, a1M, b1M, rfl, Mhre, Mhrl, Mhke, Mhle, Mhkl, Mhll, Mhkp, Mhst, Mhsb, Mhs4, hc_643, hf_644⟩ | ⟨r1M, a1M, b1M, aqM, rfl, Mhre, Mhrl, Mhke, Mhle, Mhkl, Mhll, Mhkp, Mhnew, Mhold, Mhb4, hc_645, hc_646, hc_647, hf_648⟩)
      · skip
        refine (?_ : AJ G K Q (kc + 5) (ks + 30) false 296 2587 [some (.ref bS), some (.ref (q_h G + 0)), some (.ref (q_h G + 279)), some (.ref (q_h G + 294)), some (.ref (q_h G + 295)), some (.int (nI (i))), some (.int (nI (2))), none, none] [.int (nI (0))] σ_649)
        have hc_639 : σ_649 279 = o11 G (upd F 7 (nI (1))) := hc_639
        have hc_650 : σ_649 0 = o10 G (nI (il)) (z2) (z3) := (hf_640 0 (by decide)).trans hv0
        have hc_651 : σ_649 1 = q_an G 600 f := (hf_640 1 (by decide)).trans hv1
        have hc_652 : σ_649 23 = o5 G (23) (nI (lo)) := (hf_640 23 (by decide)).trans hv2
        have hc_653 : σ_649 24 = q_an G 256 o := (hf_640 24 (by decide)).trans hv3
        have hc_654 : σ_649 224 = q_rn G 2 2 (fun j => some (243 + 18 * j)) := (hf_640 224 (by decide)).trans hv4
        have hc_655 : σ_649 225 = q_bn G 2 kp := (hf_640 225 (by decide)).trans hv5
        have hc_656 : σ_649 280 = q_an G 265 g := (hf_640 280 (by decide)).trans hv7
        have hc_657 : σ_649 281 = q_an G 265 wk := (hf_640 281 (by decide)).trans hv8
        have hc_658 : σ_649 282 = q_an G 265 as := (hf_640 282 (by decide)).trans hv9
        have hc_659 : σ_649 283 = q_an G 530 sh := (hf_640 283 (by decide)).trans hv10
        have hc_660 : σ_649 284 = q_an G 2120 a := (hf_640 284 (by decide)).trans hv11
        have hc_661 : σ_649 285 = q_bn G 1681 fb := (hf_640 285 (by decide)).trans hv12
        have hc_662 : σ_649 286 = q_an G 1681 nv := (hf_640 286 (by decide)).trans hv13
        have hc_663 : σ_649 287 = q_an G 1681 ns := (hf_640 287 (by decide)).trans hv14
        have hc_664 : σ_649 288 = q_an G 2000 mk := (hf_640 288 (by decide)).trans hv15
        have hc_665 : σ_649 289 = q_an G 6724 va := (hf_640 289 (by decide)).trans hv16
        have hc_666 : σ_649 290 = q_an G 6724 sp := (hf_640 290 (by decide)).trans hv17
        have hc_667 : σ_649 291 = q_an G 80 lp := (hf_640 291 (by decide)).trans hv18
        have hc_668 : σ_649 292 = q_an G 600 f := (hf_640 292 (by decide)).trans hv19
        have hc_669 : σ_649 293 = q_an G 300 ou := (hf_640 293 (by decide)).trans hv20
        have hc_670 : σ_649 294 = q_ln G 1 oL := (hf_640 294 (by decide)).trans hv21
        have hc_671 : σ_649 295 = q_dn G 1 oD := (hf_640 295 (by decide)).trans hv22
        exact (Mhno r1C (by omega) Chx0).elim
      · skip
        refine (?_ : AJ G K Q (kc + 5) (ks + 30) false 296 2587 [some (.ref bS), some (.ref (q_h G + 0)), some (.ref (q_h G + 279)), some (.ref (q_h G + 294)), some (.ref (q_h G + 295)), some (.int (nI (i))), some (.int (nI (2))), none, none] [.int (nI (0))] σ_649)
        have hc_641 : σ_649 279 = o11 G (upd F 7 (nI (2))) := hc_641
        have hc_672 : σ_649 0 = o10 G (nI (il)) (z2) (z3) := (hf_642 0 (by decide)).trans hv0
        have hc_673 : σ_649 1 = q_an G 600 f := (hf_642 1 (by decide)).trans hv1
        have hc_674 : σ_649 23 = o5 G (23) (nI (lo)) := (hf_642 23 (by decide)).trans hv2
        have hc_675 : σ_649 24 = q_an G 256 o := (hf_642 24 (by decide)).trans hv3
        have hc_676 : σ_649 224 = q_rn G 2 2 (fun j => some (243 + 18 * j)) := (hf_642 224 (by decide)).trans hv4
        have hc_677 : σ_649 225 = q_bn G 2 kp := (hf_642 225 (by decide)).trans hv5
        have hc_678 : σ_649 280 = q_an G 265 g := (hf_642 280 (by decide)).trans hv7
        have hc_679 : σ_649 281 = q_an G 265 wk := (hf_642 281 (by decide)).trans hv8
        have hc_680 : σ_649 282 = q_an G 265 as := (hf_642 282 (by decide)).trans hv9
        have hc_681 : σ_649 283 = q_an G 530 sh := (hf_642 283 (by decide)).trans hv10
        have hc_682 : σ_649 284 = q_an G 2120 a := (hf_642 284 (by decide)).trans hv11
        have hc_683 : σ_649 285 = q_bn G 1681 fb := (hf_642 285 (by decide)).trans hv12
        have hc_684 : σ_649 286 = q_an G 1681 nv := (hf_642 286 (by decide)).trans hv13
        have hc_685 : σ_649 287 = q_an G 1681 ns := (hf_642 287 (by decide)).trans hv14
        have hc_686 : σ_649 288 = q_an G 2000 mk := (hf_642 288 (by decide)).trans hv15
        have hc_687 : σ_649 289 = q_an G 6724 va := (hf_642 289 (by decide)).trans hv16
        have hc_688 : σ_649 290 = q_an G 6724 sp := (hf_642 290 (by decide)).trans hv17
        have hc_689 : σ_649 291 = q_an G 80 lp := (hf_642 291 (by decide)).trans hv18
        have hc_690 : σ_649 292 = q_an G 600 f := (hf_642 292 (by decide)).trans hv19
        have hc_691 : σ_649 293 = q_an G 300 ou := (hf_642 293 (by decide)).trans hv20
        have hc_692 : σ_649 294 = q_ln G 1 oL := (hf_642 294 (by decide)).trans hv21
        have hc_693 : σ_649 295 = q_dn G 1 oD := (hf_642 295 (by decide)).trans hv22
        have e_r : r1C = r1M := q_nI_inj (by omega) (by omega) (Chx0.symm.trans Mhre)
        subst e_r
        refine A_istore hg dL_law_2587 (by decide) (q_c1d rfl) ?_
        refine A_eq (ls2 := [some (.ref bS), some (.ref (q_h G + 0)), some (.ref (q_h G + 279)), some (.ref (q_h G + 294)), some (.ref (q_h G + 295)), some (.int (nI (i))), some (.int (nI (2))), some (.int (nI (0))), none]) (st2 := []) (pc2 := 0) rfl rfl ?_
        refine A_aload_n hg dL_law_2589 rfl rfl ?_
        refine A_eV (kc2 := kc + 5) (ks2 := ks + 30) (As := []) (rest := []) hg lk_RL_170 in_X11_thrown se_X11_thrown rfl dL_law_2590 ⟨by decide, by decide⟩ rfl rfl (hfK 5 30 (by decide) (by decide)) hc_641 (by omega) rfl rfl (Nat.le_of_ble_eq_true rfl) (c_X11_thrown G false 296 σ_649 (upd F 7 (nI (2))) hc_641 (by omega)) ?_
        refine A_top (w := .int (nI (2))) (congrArg Value.int rfl) ?_
        refine A_iload hg dL_law_2593 rfl ?_
        refine A_icmp_eqN (tgt := 2600) hg dL_law_2595 (by decide) (by decide) (by decide) (fun c2595 => ?_) (fun c2595 => False.elim (by omega))
        refine A_iload hg dL_law_2600 rfl ?_
        refine A_if_neN (tgt := 2617) hg dL_law_2602 (by decide) (by decide) (fun c2602 => ?_) (fun c2602 => absurd c2602 (by decide))
        refine A_goto (tgt := 3062) hg dL_law_2617 (by decide) ?_
        refine A_drop 6 ?_
        refine A_drop 7 ?_
        refine A_eq (ls2 := [some (.ref bS), some (.ref (q_h G + 0)), some (.ref (q_h G + 279)), some (.ref (q_h G + 294)), some (.ref (q_h G + 295)), some (.int (nI (i))), none, none, none]) (st2 := []) (pc2 := 0) rfl rfl ?_
        refine A_wide (kc2 := kc + 8) (ks2 := ks + 48) (by omega) (by omega) ?_
        exact hnxt _ (iv_mk il z2 z3 f lo o g nx m ps kp sn (upd F 7 (nI (2))) wk as sh a fb nv ns mk va sp lp mc z ss ou oL oD hc_672 hc_673 hc_674 hc_675 hc_676 hc_677 hc_641 hc_678 hc_679 hc_680 hc_681 hc_682 hc_683 hc_684 hc_685 hc_686 hc_687 hc_688 hc_689 hc_690 hc_691 hc_692 hc_693 (x_lj_e (fun i _ _ => (hf_642 i (by omega))) hL) (x_gm_e (fun i _ _ => (hf_642 i (by omega))) hG) (x_mx_e (fun i _ _ => (hf_642 i (by omega))) hM) (x_hi_e (fun i _ _ => (hf_642 i (by omega))) hHi) (x_oj_e (fun i _ _ => (hf_642 i (by omega))) hO) (x_pj_e (fun i _ _ => (hf_642 i (by omega))) hT) (iv_hn (fun i _ _ => (hf_642 i (by omega))) hH) (iv_Sn (fun i _ _ => (hf_642 i (by omega))) hSn) (iv_Kp (fun i _ _ => (hf_642 i (by omega))) hKp) (by omega) hfb (by omega) hou hgd hps hk1 hkss hss hsn hF5 hF6 hF12 hF16 hF21 hF22 hF23 hF33 (by omega) hmk hTI hlo)
      · skip
        refine (?_ : AJ G K Q (kc + 5) (ks + 30) false 296 2587 [some (.ref bS), some (.ref (q_h G + 0)), some (.ref (q_h G + 279)), some (.ref (q_h G + 294)), some (.ref (q_h G + 295)), some (.int (nI (i))), some (.int (nI (2))), none, none] [.int (nI (0))] σ_649)
        have hc_643 : σ_649 279 = o11 G (upd F 7 (nI (3))) := hc_643
        have hc_694 : σ_649 0 = o10 G (nI (il)) (z2) (z3) := (hf_644 0 (by decide)).trans hv0
        have hc_695 : σ_649 1 = q_an G 600 f := (hf_644 1 (by decide)).trans hv1
        have hc_696 : σ_649 23 = o5 G (23) (nI (lo)) := (hf_644 23 (by decide)).trans hv2
        have hc_697 : σ_649 24 = q_an G 256 o := (hf_644 24 (by decide)).trans hv3
        have hc_698 : σ_649 224 = q_rn G 2 2 (fun j => some (243 + 18 * j)) := (hf_644 224 (by decide)).trans hv4
        have hc_699 : σ_649 225 = q_bn G 2 kp := (hf_644 225 (by decide)).trans hv5
        have hc_700 : σ_649 280 = q_an G 265 g := (hf_644 280 (by decide)).trans hv7
        have hc_701 : σ_649 281 = q_an G 265 wk := (hf_644 281 (by decide)).trans hv8
        have hc_702 : σ_649 282 = q_an G 265 as := (hf_644 282 (by decide)).trans hv9
        have hc_703 : σ_649 283 = q_an G 530 sh := (hf_644 283 (by decide)).trans hv10
        have hc_704 : σ_649 284 = q_an G 2120 a := (hf_644 284 (by decide)).trans hv11
        have hc_705 : σ_649 285 = q_bn G 1681 fb := (hf_644 285 (by decide)).trans hv12
        have hc_706 : σ_649 286 = q_an G 1681 nv := (hf_644 286 (by decide)).trans hv13
        have hc_707 : σ_649 287 = q_an G 1681 ns := (hf_644 287 (by decide)).trans hv14
        have hc_708 : σ_649 288 = q_an G 2000 mk := (hf_644 288 (by decide)).trans hv15
        have hc_709 : σ_649 289 = q_an G 6724 va := (hf_644 289 (by decide)).trans hv16
        have hc_710 : σ_649 290 = q_an G 6724 sp := (hf_644 290 (by decide)).trans hv17
        have hc_711 : σ_649 291 = q_an G 80 lp := (hf_644 291 (by decide)).trans hv18
        have hc_712 : σ_649 292 = q_an G 600 f := (hf_644 292 (by decide)).trans hv19
        have hc_713 : σ_649 293 = q_an G 300 ou := (hf_644 293 (by decide)).trans hv20
        have hc_714 : σ_649 294 = q_ln G 1 oL := (hf_644 294 (by decide)).trans hv21
        have hc_715 : σ_649 295 = q_dn G 1 oD := (hf_644 295 (by decide)).trans hv22
        have e_r : r1C = r1M := q_nI_inj (by omega) (by omega) (Chx0.symm.trans Mhre)
        subst e_r
        exact (Chx2 a1M b1M (by omega) (by omega) (by omega) Mhke Mhle).elim
      · skip
        refine (?_ : AJ G K Q (kc + 5) (ks + 30) false 296 2587 [some (.ref bS), some (.ref (q_h G + 0)), some (.ref (q_h G + 279)), some (.ref (q_h G + 294)), some (.ref (q_h G + 295)), some (.int (nI (i))), some (.int (nI (2))), none, none] [.int (nI (s_rule (s_barG g r1M true a1M b1M) r1M 20))] σ_649)
        have hc_645 : σ_649 279 = o11 G (upd (upd F 5 (nI (s_pmany m + 1))) 7 (nI (0))) := hc_645
        have hc_716 : σ_649 0 = o10 G (nI (il)) (z2) (z3) := (hf_648 0 (by decide)).trans hv0
        have hc_717 : σ_649 1 = q_an G 600 f := (hf_648 1 (by decide)).trans hv1
        have hc_718 : σ_649 23 = o5 G (23) (nI (lo)) := (hf_648 23 (by decide)).trans hv2
        have hc_719 : σ_649 24 = q_an G 256 o := (hf_648 24 (by decide)).trans hv3
        have hc_720 : σ_649 224 = q_rn G 2 2 (fun j => some (243 + 18 * j)) := (hf_648 224 (by decide)).trans hv4
        have hc_721 : σ_649 225 = q_bn G 2 kp := (hf_648 225 (by decide)).trans hv5
        have hc_722 : σ_649 281 = q_an G 265 wk := (hf_648 281 (by decide)).trans hv8
        have hc_723 : σ_649 282 = q_an G 265 as := (hf_648 282 (by decide)).trans hv9
        have hc_724 : σ_649 283 = q_an G 530 sh := (hf_648 283 (by decide)).trans hv10
        have hc_725 : σ_649 285 = q_bn G 1681 fb := (hf_648 285 (by decide)).trans hv12
        have hc_726 : σ_649 286 = q_an G 1681 nv := (hf_648 286 (by decide)).trans hv13
        have hc_727 : σ_649 287 = q_an G 1681 ns := (hf_648 287 (by decide)).trans hv14
        have hc_728 : σ_649 288 = q_an G 2000 mk := (hf_648 288 (by decide)).trans hv15
        have hc_729 : σ_649 289 = q_an G 6724 va := (hf_648 289 (by decide)).trans hv16
        have hc_730 : σ_649 290 = q_an G 6724 sp := (hf_648 290 (by decide)).trans hv17
        have hc_731 : σ_649 291 = q_an G 80 lp := (hf_648 291 (by decide)).trans hv18
        have hc_732 : σ_649 292 = q_an G 600 f := (hf_648 292 (by decide)).trans hv19
        have hc_733 : σ_649 293 = q_an G 300 ou := (hf_648 293 (by decide)).trans hv20
        have hc_734 : σ_649 294 = q_ln G 1 oL := (hf_648 294 (by decide)).trans hv21
        have hc_735 : σ_649 295 = q_dn G 1 oD := (hf_648 295 (by decide)).trans hv22
        have e_r : r1C = r1M := q_nI_inj (by omega) (by omega) (Chx0.symm.trans Mhre)
        subst e_r
        exact (Chx2 a1M b1M (by omega) (by omega) (by omega) Mhke Mhle).elim
    · skip
      rw [he_422]
      refine (?_ : AJ G K Q (kc + 5) (ks + 30) false 296 2549 [some (.ref bS), some (.ref (q_h G + 0)), some (.ref (q_h G + 279)), some (.ref (q_h G + 294)), some (.ref (q_h G + 295)), some (.int (nI (i))), none, none, none] [.int (nI (3))] σ)
      obtain ⟨r1C, a1C, b1C, Chx0, Chx1, Chx2, Chx3, Chx4, Chx5, Chx6, Chx7, Chx8, Chx9⟩ := Chxx
      refine A_istore hg dL_law_2549 (by decide) (q_c1d rfl) ?_
      refine A_eq (ls2 := [some (.ref bS), some (.ref (q_h G + 0)), some (.ref (q_h G + 279)), some (.ref (q_h G + 294)), some (.ref (q_h G + 295)), some (.int (nI (i))), some (.int (nI (3))), none, none]) (st2 := []) (pc2 := 0) rfl rfl ?_
      refine A_aload_n hg dL_law_2551 rfl rfl ?_
      refine A_aload_n hg dL_law_2552 rfl rfl ?_
      refine A_iload hg dL_law_2553 rfl ?_
      refine A_iconst (v := (nI (1))) hg dL_law_2555 (by decide) ?_
      refine A_iaddN hg dL_law_2556 ?_
      refine A_sld hg hX (i + 1) (by omega) dL_law_2557 ?_
      refine A_aload_n hg dL_law_2558 rfl rfl ?_
      refine A_iload hg dL_law_2559 rfl ?_
      refine A_iconst (v := (nI (2))) hg dL_law_2561 (by decide) ?_
      refine A_iaddN hg dL_law_2562 ?_
      refine A_sld hg hX (i + 2) (by omega) dL_law_2563 ?_
      refine A_aload_n hg dL_law_2564 rfl rfl ?_
      refine A_iload hg dL_law_2565 rfl ?_
      refine A_iconst (v := (nI (3))) hg dL_law_2567 (by decide) ?_
      refine A_iaddN hg dL_law_2568 ?_
      refine A_sld hg hX (i + 3) (by omega) dL_law_2569 ?_
      refine A_aload_n hg dL_law_2570 rfl rfl ?_
      refine A_iload hg dL_law_2571 rfl ?_
      refine A_iconst (v := (nI (4))) hg dL_law_2573 (by decide) ?_
      refine A_iaddN hg dL_law_2574 ?_
      refine A_sld hg hX (i + 4) (by omega) dL_law_2575 ?_
      refine A_if_eq (tgt := 2583) hg dL_law_2576 (by decide) (fun z9 => absurd z9 c2537) (fun _ => ?_)
      refine A_iconst (v := (nI (1))) hg dL_law_2579 (by decide) ?_
      refine A_goto (tgt := 2584) hg dL_law_2580 (by decide) ?_
      refine A_hV (kc2 := kc + 5) (ks2 := ks + 30) (As := [.int (xs (i + 1)), .int (xs (i + 2)), .int (xs (i + 3)), .int (nI (1))]) (rest := []) hg lk_RL_272 in_X11_bar se_X11_bar rfl dL_law_2584 ⟨by decide, by decide⟩ rfl rfl (hfK 5 30 (by decide) (by decide)) hv6 (by omega) rfl rfl (Nat.le_of_ble_eq_true rfl) (c_X11_barB G false 296 σ F g a m (xs (i + 1)) (xs (i + 2)) (xs (i + 3)) true hv6 hv7 hv11 (by omega) hg9 hF5 (by omega)) ?_
      rintro _ σ_746 (⟨rfl, Mhno, hc_736, hf_737⟩ | ⟨r1M, rfl, Mhre, Mhrl, Mhnp, hc_738, hf_739⟩ | ⟨r1M, a1M, b1M, rfl, Mhre, Mhrl, Mhke, Mhle, Mhkl, Mhll, Mhkp, Mhst, Mhsb, Mhs4, hc_740, hf_741⟩ | ⟨r1M, a1M, b1M, aqM, rfl, Mhre, Mhrl, Mhke, Mhle, Mhkl, Mhll, Mhkp, Mhnew, Mhold, Mhb4, hc_742, hc_743, hc_744, hf_745⟩)
      · skip
        refine (?_ : AJ G K Q (kc + 5) (ks + 30) false 296 2587 [some (.ref bS), some (.ref (q_h G + 0)), some (.ref (q_h G + 279)), some (.ref (q_h G + 294)), some (.ref (q_h G + 295)), some (.int (nI (i))), some (.int (nI (3))), none, none] [.int (nI (0))] σ_746)
        have hc_736 : σ_746 279 = o11 G (upd F 7 (nI (1))) := hc_736
        have hc_747 : σ_746 0 = o10 G (nI (il)) (z2) (z3) := (hf_737 0 (by decide)).trans hv0
        have hc_748 : σ_746 1 = q_an G 600 f := (hf_737 1 (by decide)).trans hv1
        have hc_749 : σ_746 23 = o5 G (23) (nI (lo)) := (hf_737 23 (by decide)).trans hv2
        have hc_750 : σ_746 24 = q_an G 256 o := (hf_737 24 (by decide)).trans hv3
        have hc_751 : σ_746 224 = q_rn G 2 2 (fun j => some (243 + 18 * j)) := (hf_737 224 (by decide)).trans hv4
        have hc_752 : σ_746 225 = q_bn G 2 kp := (hf_737 225 (by decide)).trans hv5
        have hc_753 : σ_746 280 = q_an G 265 g := (hf_737 280 (by decide)).trans hv7
        have hc_754 : σ_746 281 = q_an G 265 wk := (hf_737 281 (by decide)).trans hv8
        have hc_755 : σ_746 282 = q_an G 265 as := (hf_737 282 (by decide)).trans hv9
        have hc_756 : σ_746 283 = q_an G 530 sh := (hf_737 283 (by decide)).trans hv10
        have hc_757 : σ_746 284 = q_an G 2120 a := (hf_737 284 (by decide)).trans hv11
        have hc_758 : σ_746 285 = q_bn G 1681 fb := (hf_737 285 (by decide)).trans hv12
        have hc_759 : σ_746 286 = q_an G 1681 nv := (hf_737 286 (by decide)).trans hv13
        have hc_760 : σ_746 287 = q_an G 1681 ns := (hf_737 287 (by decide)).trans hv14
        have hc_761 : σ_746 288 = q_an G 2000 mk := (hf_737 288 (by decide)).trans hv15
        have hc_762 : σ_746 289 = q_an G 6724 va := (hf_737 289 (by decide)).trans hv16
        have hc_763 : σ_746 290 = q_an G 6724 sp := (hf_737 290 (by decide)).trans hv17
        have hc_764 : σ_746 291 = q_an G 80 lp := (hf_737 291 (by decide)).trans hv18
        have hc_765 : σ_746 292 = q_an G 600 f := (hf_737 292 (by decide)).trans hv19
        have hc_766 : σ_746 293 = q_an G 300 ou := (hf_737 293 (by decide)).trans hv20
        have hc_767 : σ_746 294 = q_ln G 1 oL := (hf_737 294 (by decide)).trans hv21
        have hc_768 : σ_746 295 = q_dn G 1 oD := (hf_737 295 (by decide)).trans hv22
        exact (Mhno r1C (by omega) Chx0).elim
      · skip
        refine (?_ : AJ G K Q (kc + 5) (ks + 30) false 296 2587 [some (.ref bS), some (.ref (q_h G + 0)), some (.ref (q_h G + 279)), some (.ref (q_h G + 294)), some (.ref (q_h G + 295)), some (.int (nI (i))), some (.int (nI (3))), none, none] [.int (nI (0))] σ_746)
        have hc_738 : σ_746 279 = o11 G (upd F 7 (nI (2))) := hc_738
        have hc_769 : σ_746 0 = o10 G (nI (il)) (z2) (z3) := (hf_739 0 (by decide)).trans hv0
        have hc_770 : σ_746 1 = q_an G 600 f := (hf_739 1 (by decide)).trans hv1
        have hc_771 : σ_746 23 = o5 G (23) (nI (lo)) := (hf_739 23 (by decide)).trans hv2
        have hc_772 : σ_746 24 = q_an G 256 o := (hf_739 24 (by decide)).trans hv3
        have hc_773 : σ_746 224 = q_rn G 2 2 (fun j => some (243 + 18 * j)) := (hf_739 224 (by decide)).trans hv4
        have hc_774 : σ_746 225 = q_bn G 2 kp := (hf_739 225 (by decide)).trans hv5
        have hc_775 : σ_746 280 = q_an G 265 g := (hf_739 280 (by decide)).trans hv7
        have hc_776 : σ_746 281 = q_an G 265 wk := (hf_739 281 (by decide)).trans hv8
        have hc_777 : σ_746 282 = q_an G 265 as := (hf_739 282 (by decide)).trans hv9
        have hc_778 : σ_746 283 = q_an G 530 sh := (hf_739 283 (by decide)).trans hv10
        have hc_779 : σ_746 284 = q_an G 2120 a := (hf_739 284 (by decide)).trans hv11
        have hc_780 : σ_746 285 = q_bn G 1681 fb := (hf_739 285 (by decide)).trans hv12
        have hc_781 : σ_746 286 = q_an G 1681 nv := (hf_739 286 (by decide)).trans hv13
        have hc_782 : σ_746 287 = q_an G 1681 ns := (hf_739 287 (by decide)).trans hv14
        have hc_783 : σ_746 288 = q_an G 2000 mk := (hf_739 288 (by decide)).trans hv15
        have hc_784 : σ_746 289 = q_an G 6724 va := (hf_739 289 (by decide)).trans hv16
        have hc_785 : σ_746 290 = q_an G 6724 sp := (hf_739 290 (by decide)).trans hv17
        have hc_786 : σ_746 291 = q_an G 80 lp := (hf_739 291 (by decide)).trans hv18
        have hc_787 : σ_746 292 = q_an G 600 f := (hf_739 292 (by decide)).trans hv19
        have hc_788 : σ_746 293 = q_an G 300 ou := (hf_739 293 (by decide)).trans hv20
        have hc_789 : σ_746 294 = q_ln G 1 oL := (hf_739 294 (by decide)).trans hv21
        have hc_790 : σ_746 295 = q_dn G 1 oD := (hf_739 295 (by decide)).trans hv22
        have e_r : r1C = r1M := q_nI_inj (by omega) (by omega) (Chx0.symm.trans Mhre)
        subst e_r
        exact (Mhnp a1C b1C (by omega) (by omega) (by omega) Chx2 Chx3).elim
      · skip
        refine (?_ : AJ G K Q (kc + 5) (ks + 30) false 296 2587 [some (.ref bS), some (.ref (q_h G + 0)), some (.ref (q_h G + 279)), some (.ref (q_h G + 294)), some (.ref (q_h G + 295)), some (.int (nI (i))), some (.int (nI (3))), none, none] [.int (nI (0))] σ_746)
        have hc_740 : σ_746 279 = o11 G (upd F 7 (nI (3))) := hc_740
        have hc_791 : σ_746 0 = o10 G (nI (il)) (z2) (z3) := (hf_741 0 (by decide)).trans hv0
        have hc_792 : σ_746 1 = q_an G 600 f := (hf_741 1 (by decide)).trans hv1
        have hc_793 : σ_746 23 = o5 G (23) (nI (lo)) := (hf_741 23 (by decide)).trans hv2
        have hc_794 : σ_746 24 = q_an G 256 o := (hf_741 24 (by decide)).trans hv3
        have hc_795 : σ_746 224 = q_rn G 2 2 (fun j => some (243 + 18 * j)) := (hf_741 224 (by decide)).trans hv4
        have hc_796 : σ_746 225 = q_bn G 2 kp := (hf_741 225 (by decide)).trans hv5
        have hc_797 : σ_746 280 = q_an G 265 g := (hf_741 280 (by decide)).trans hv7
        have hc_798 : σ_746 281 = q_an G 265 wk := (hf_741 281 (by decide)).trans hv8
        have hc_799 : σ_746 282 = q_an G 265 as := (hf_741 282 (by decide)).trans hv9
        have hc_800 : σ_746 283 = q_an G 530 sh := (hf_741 283 (by decide)).trans hv10
        have hc_801 : σ_746 284 = q_an G 2120 a := (hf_741 284 (by decide)).trans hv11
        have hc_802 : σ_746 285 = q_bn G 1681 fb := (hf_741 285 (by decide)).trans hv12
        have hc_803 : σ_746 286 = q_an G 1681 nv := (hf_741 286 (by decide)).trans hv13
        have hc_804 : σ_746 287 = q_an G 1681 ns := (hf_741 287 (by decide)).trans hv14
        have hc_805 : σ_746 288 = q_an G 2000 mk := (hf_741 288 (by decide)).trans hv15
        have hc_806 : σ_746 289 = q_an G 6724 va := (hf_741 289 (by decide)).trans hv16
        have hc_807 : σ_746 290 = q_an G 6724 sp := (hf_741 290 (by decide)).trans hv17
        have hc_808 : σ_746 291 = q_an G 80 lp := (hf_741 291 (by decide)).trans hv18
        have hc_809 : σ_746 292 = q_an G 600 f := (hf_741 292 (by decide)).trans hv19
        have hc_810 : σ_746 293 = q_an G 300 ou := (hf_741 293 (by decide)).trans hv20
        have hc_811 : σ_746 294 = q_ln G 1 oL := (hf_741 294 (by decide)).trans hv21
        have hc_812 : σ_746 295 = q_dn G 1 oD := (hf_741 295 (by decide)).trans hv22
        have e_r : r1C = r1M := q_nI_inj (by omega) (by omega) (Chx0.symm.trans Mhre)
        subst e_r
        have e_k : a1C = a1M := q_nI_inj (by omega) (by omega) (Chx2.symm.trans Mhke)
        subst e_k
        have e_l : b1C = b1M := q_nI_inj (by omega) (by omega) (Chx3.symm.trans Mhle)
        subst e_l
        refine A_istore hg dL_law_2587 (by decide) (q_c1d rfl) ?_
        refine A_eq (ls2 := [some (.ref bS), some (.ref (q_h G + 0)), some (.ref (q_h G + 279)), some (.ref (q_h G + 294)), some (.ref (q_h G + 295)), some (.int (nI (i))), some (.int (nI (3))), some (.int (nI (0))), none]) (st2 := []) (pc2 := 0) rfl rfl ?_
        refine A_aload_n hg dL_law_2589 rfl rfl ?_
        refine A_eV (kc2 := kc + 5) (ks2 := ks + 30) (As := []) (rest := []) hg lk_RL_170 in_X11_thrown se_X11_thrown rfl dL_law_2590 ⟨by decide, by decide⟩ rfl rfl (hfK 5 30 (by decide) (by decide)) hc_740 (by omega) rfl rfl (Nat.le_of_ble_eq_true rfl) (c_X11_thrown G false 296 σ_746 (upd F 7 (nI (3))) hc_740 (by omega)) ?_
        refine A_top (w := .int (nI (3))) (congrArg Value.int rfl) ?_
        refine A_iload hg dL_law_2593 rfl ?_
        refine A_icmp_eqN (tgt := 2600) hg dL_law_2595 (by decide) (by decide) (by decide) (fun c2595 => ?_) (fun c2595 => False.elim (by omega))
        refine A_iload hg dL_law_2600 rfl ?_
        refine A_if_neN (tgt := 2617) hg dL_law_2602 (by decide) (by decide) (fun c2602 => ?_) (fun c2602 => absurd c2602 (by decide))
        refine A_goto (tgt := 3062) hg dL_law_2617 (by decide) ?_
        refine A_drop 6 ?_
        refine A_drop 7 ?_
        refine A_eq (ls2 := [some (.ref bS), some (.ref (q_h G + 0)), some (.ref (q_h G + 279)), some (.ref (q_h G + 294)), some (.ref (q_h G + 295)), some (.int (nI (i))), none, none, none]) (st2 := []) (pc2 := 0) rfl rfl ?_
        refine A_wide (kc2 := kc + 8) (ks2 := ks + 48) (by omega) (by omega) ?_
        exact hnxt _ (iv_mk il z2 z3 f lo o g nx m ps kp sn (upd F 7 (nI (3))) wk as sh a fb nv ns mk va sp lp mc z ss ou oL oD hc_791 hc_792 hc_793 hc_794 hc_795 hc_796 hc_740 hc_797 hc_798 hc_799 hc_800 hc_801 hc_802 hc_803 hc_804 hc_805 hc_806 hc_807 hc_808 hc_809 hc_810 hc_811 hc_812 (x_lj_e (fun i _ _ => (hf_741 i (by omega))) hL) (x_gm_e (fun i _ _ => (hf_741 i (by omega))) hG) (x_mx_e (fun i _ _ => (hf_741 i (by omega))) hM) (x_hi_e (fun i _ _ => (hf_741 i (by omega))) hHi) (x_oj_e (fun i _ _ => (hf_741 i (by omega))) hO) (x_pj_e (fun i _ _ => (hf_741 i (by omega))) hT) (iv_hn (fun i _ _ => (hf_741 i (by omega))) hH) (iv_Sn (fun i _ _ => (hf_741 i (by omega))) hSn) (iv_Kp (fun i _ _ => (hf_741 i (by omega))) hKp) (by omega) hfb (by omega) hou hgd hps hk1 hkss hss hsn hF5 hF6 hF12 hF16 hF21 hF22 hF23 hF33 (by omega) hmk hTI hlo)
      · skip
        refine (?_ : AJ G K Q (kc + 5) (ks + 30) false 296 2587 [some (.ref bS), some (.ref (q_h G + 0)), some (.ref (q_h G + 279)), some (.ref (q_h G + 294)), some (.ref (q_h G + 295)), some (.int (nI (i))), some (.int (nI (3))), none, none] [.int (nI (s_rule (s_barG g r1M true a1M b1M) r1M 20))] σ_746)
        have hc_742 : σ_746 279 = o11 G (upd (upd F 5 (nI (s_pmany m + 1))) 7 (nI (0))) := hc_742
        have hc_813 : σ_746 0 = o10 G (nI (il)) (z2) (z3) := (hf_745 0 (by decide)).trans hv0
        have hc_814 : σ_746 1 = q_an G 600 f := (hf_745 1 (by decide)).trans hv1
        have hc_815 : σ_746 23 = o5 G (23) (nI (lo)) := (hf_745 23 (by decide)).trans hv2
        have hc_816 : σ_746 24 = q_an G 256 o := (hf_745 24 (by decide)).trans hv3
        have hc_817 : σ_746 224 = q_rn G 2 2 (fun j => some (243 + 18 * j)) := (hf_745 224 (by decide)).trans hv4
        have hc_818 : σ_746 225 = q_bn G 2 kp := (hf_745 225 (by decide)).trans hv5
        have hc_819 : σ_746 281 = q_an G 265 wk := (hf_745 281 (by decide)).trans hv8
        have hc_820 : σ_746 282 = q_an G 265 as := (hf_745 282 (by decide)).trans hv9
        have hc_821 : σ_746 283 = q_an G 530 sh := (hf_745 283 (by decide)).trans hv10
        have hc_822 : σ_746 285 = q_bn G 1681 fb := (hf_745 285 (by decide)).trans hv12
        have hc_823 : σ_746 286 = q_an G 1681 nv := (hf_745 286 (by decide)).trans hv13
        have hc_824 : σ_746 287 = q_an G 1681 ns := (hf_745 287 (by decide)).trans hv14
        have hc_825 : σ_746 288 = q_an G 2000 mk := (hf_745 288 (by decide)).trans hv15
        have hc_826 : σ_746 289 = q_an G 6724 va := (hf_745 289 (by decide)).trans hv16
        have hc_827 : σ_746 290 = q_an G 6724 sp := (hf_745 290 (by decide)).trans hv17
        have hc_828 : σ_746 291 = q_an G 80 lp := (hf_745 291 (by decide)).trans hv18
        have hc_829 : σ_746 292 = q_an G 600 f := (hf_745 292 (by decide)).trans hv19
        have hc_830 : σ_746 293 = q_an G 300 ou := (hf_745 293 (by decide)).trans hv20
        have hc_831 : σ_746 294 = q_ln G 1 oL := (hf_745 294 (by decide)).trans hv21
        have hc_832 : σ_746 295 = q_dn G 1 oD := (hf_745 295 (by decide)).trans hv22
        have e_r : r1C = r1M := q_nI_inj (by omega) (by omega) (Chx0.symm.trans Mhre)
        subst e_r
        have e_k : a1C = a1M := q_nI_inj (by omega) (by omega) (Chx2.symm.trans Mhke)
        subst e_k
        have e_l : b1C = b1M := q_nI_inj (by omega) (by omega) (Chx3.symm.trans Mhle)
        subst e_l
        have hz9 := Mhb4 Chx7 Chx8
        omega
set_option maxRecDepth 100000 in
set_option maxHeartbeats 4000000 in
theorem law_c37 (G : GL) (K : KC) (Q : State → Prop) (hh : List (Nat × Nat × Nat × Nat)) (hg : Gd G K RL code 9 ret room_1 hh) (bS L : Nat) (xs : Nat → Int32) (hX : q_scr G K bS L xs) (i kc ks J : Nat) (hi : i + 5 < L) (hL31 : L < 2 ^ 31) (hkc : kc + 8 ≤ 601024) (hks : ks + 48 ≤ 7293034) (σ : Nat → va_E) (hI : iv G σ J) (hJ : J < 512) (hfd : q_fdn) (hdd : q_ddn) (hf2 : q_f2n) (hds : q_dcs) (hnxt : ∀ σ9 : Nat → va_E, iv G σ9 (J + 1) → AJ G K Q (kc + 8) (ks + 48) false 296 3062 [some (.ref bS), some (.ref (q_h G + 0)), some (.ref (q_h G + 279)), some (.ref (q_h G + 294)), some (.ref (q_h G + 295)), some (.int (nI (i))), none, none, none] [] σ9) : AJ G K Q kc ks false 296 2620 [some (.ref bS), some (.ref (q_h G + 0)), some (.ref (q_h G + 279)), some (.ref (q_h G + 294)), some (.ref (q_h G + 295)), some (.int (nI (i))), none, none, none] [] σ := by
  refine iv_el hI ?_
  intro il z2 z3 f lo o g nx m ps kp sn F wk as sh a fb nv ns mk va sp lp mc z ss ou oL oD
  intro hv0 hv1 hv2 hv3 hv4 hv5 hv6 hv7 hv8 hv9 hv10 hv11 hv12 hv13 hv14 hv15 hv16 hv17 hv18 hv19 hv20 hv21 hv22
  intro hL hG hM hHi hO hT hH hSn hKp
  intro hil hfb hlo2 hou hgd hps hk1 hkss hss hsn hF5 hF6 hF12 hF16 hF21 hF22 hF23 hF33 hmc hmk hTI hlo
  have hfK : ∀ a b : Nat, a ≤ 8 → b ≤ 48 → kc + a ≤ room_1.cells ∧ ks + b ≤ room_1.slots := fun a b h1 h2 => ⟨by show kc + a ≤ 601024; omega, by show ks + b ≤ 7293034; omega⟩
  have hg9 := iv_g hG
  obtain ⟨hnx8, hm8, hc78⟩ := iv_hi hHi
  have hbb := iv_byte (m := il) hfb
  have hg90 := hg9.1
  have hg96 := hg9.2.2.2.2.1
  have hnp8 := s_np_le hg9
  refine A_aload_n hg dL_law_2620 rfl rfl ?_
  refine A_aload_n hg dL_law_2621 rfl rfl ?_
  refine A_iload hg dL_law_2622 rfl ?_
  refine A_iconst (v := (nI (1))) hg dL_law_2624 (by decide) ?_
  refine A_iaddN hg dL_law_2625 ?_
  refine A_sld hg hX (i + 1) (by omega) dL_law_2626 ?_
  refine A_aload_n hg dL_law_2627 rfl rfl ?_
  refine A_iload hg dL_law_2628 rfl ?_
  refine A_iconst (v := (nI (2))) hg dL_law_2630 (by decide) ?_
  refine A_iaddN hg dL_law_2631 ?_
  refine A_sld hg hX (i + 2) (by omega) dL_law_2632 ?_
  refine A_aload_n hg dL_law_2633 rfl rfl ?_
  refine A_callSH (As := [.ref (q_h G + 0), .int (xs (i + 1)), .int (xs (i + 2)), .ref (q_h G + 294)]) (rest := []) hg lkH_273 stH_L_setSlack dL_law_2634 ⟨by decide, by decide⟩ (hfK 2 12 (by decide) (by decide)) rfl rfl (Nat.le_of_ble_eq_true rfl) (c_L_setSlack G 296 σ (nI (il)) z2 z3 g nx m ps (xs (i + 1)) (xs (i + 2)) oL hv0 hv21 (by omega) hG hHi (by omega)) ?_
  rintro _ σ_1 (⟨r1C, x1C, rfl, Chre, Chrl, Chxe, Chxa, Chxl, ChG2, ChHi2, hc_2, hf_3⟩ | ⟨rfl, Chxx, he_4⟩ | ⟨rfl, Chxx, he_5⟩)
  · skip
    refine (?_ : AJ G K Q (kc + 2) (ks + 12) false 296 2637 [some (.ref bS), some (.ref (q_h G + 0)), some (.ref (q_h G + 279)), some (.ref (q_h G + 294)), some (.ref (q_h G + 295)), some (.int (nI (i))), none, none, none] [.int (nI (0))] σ_1)
    have hc_6 : σ_1 0 = o10 G (nI (il)) (z2) (z3) := (hf_3 0 (by decide)).trans hv0
    have hc_7 : σ_1 1 = q_an G 600 f := (hf_3 1 (by decide)).trans hv1
    have hc_8 : σ_1 23 = o5 G (23) (nI (lo)) := (hf_3 23 (by decide)).trans hv2
    have hc_9 : σ_1 24 = q_an G 256 o := (hf_3 24 (by decide)).trans hv3
    have hc_10 : σ_1 224 = q_rn G 2 2 (fun j => some (243 + 18 * j)) := (hf_3 224 (by decide)).trans hv4
    have hc_11 : σ_1 225 = q_bn G 2 kp := (hf_3 225 (by decide)).trans hv5
    have hc_12 : σ_1 279 = o11 G F := (hf_3 279 (by decide)).trans hv6
    have hc_13 : σ_1 280 = q_an G 265 g := (hf_3 280 (by decide)).trans hv7
    have hc_14 : σ_1 281 = q_an G 265 wk := (hf_3 281 (by decide)).trans hv8
    have hc_15 : σ_1 282 = q_an G 265 as := (hf_3 282 (by decide)).trans hv9
    have hc_16 : σ_1 283 = q_an G 530 sh := (hf_3 283 (by decide)).trans hv10
    have hc_17 : σ_1 284 = q_an G 2120 a := (hf_3 284 (by decide)).trans hv11
    have hc_18 : σ_1 285 = q_bn G 1681 fb := (hf_3 285 (by decide)).trans hv12
    have hc_19 : σ_1 286 = q_an G 1681 nv := (hf_3 286 (by decide)).trans hv13
    have hc_20 : σ_1 287 = q_an G 1681 ns := (hf_3 287 (by decide)).trans hv14
    have hc_21 : σ_1 288 = q_an G 2000 mk := (hf_3 288 (by decide)).trans hv15
    have hc_22 : σ_1 289 = q_an G 6724 va := (hf_3 289 (by decide)).trans hv16
    have hc_23 : σ_1 290 = q_an G 6724 sp := (hf_3 290 (by decide)).trans hv17
    have hc_24 : σ_1 291 = q_an G 80 lp := (hf_3 291 (by decide)).trans hv18
    have hc_25 : σ_1 292 = q_an G 600 f := (hf_3 292 (by decide)).trans hv19
    have hc_26 : σ_1 293 = q_an G 300 ou := (hf_3 293 (by decide)).trans hv20
    have hc_27 : σ_1 295 = q_dn G 1 oD := (hf_3 295 (by decide)).trans hv22
    refine A_istore hg dL_law_2637 (by decide) (q_c1d rfl) ?_
    refine A_eq (ls2 := [some (.ref bS), some (.ref (q_h G + 0)), some (.ref (q_h G + 279)), some (.ref (q_h G + 294)), some (.ref (q_h G + 295)), some (.int (nI (i))), some (.int (nI (0))), none, none]) (st2 := []) (pc2 := 0) rfl rfl ?_
    refine A_aload_n hg dL_law_2639 rfl rfl ?_
    refine A_aload_n hg dL_law_2640 rfl rfl ?_
    refine A_iload hg dL_law_2641 rfl ?_
    refine A_iconst (v := (nI (1))) hg dL_law_2643 (by decide) ?_
    refine A_iaddN hg dL_law_2644 ?_
    refine A_sld hg hX (i + 1) (by omega) dL_law_2645 ?_
    refine A_aload_n hg dL_law_2646 rfl rfl ?_
    refine A_iload hg dL_law_2647 rfl ?_
    refine A_iconst (v := (nI (2))) hg dL_law_2649 (by decide) ?_
    refine A_iaddN hg dL_law_2650 ?_
    refine A_sld hg hX (i + 2) (by omega) dL_law_2651 ?_
    refine A_hV (kc2 := kc + 2) (ks2 := ks + 12) (As := [.int (xs (i + 1)), .int (xs (i + 2))]) (rest := []) hg lk_RL_275 in_X11_setSlack se_X11_setSlack rfl dL_law_2652 ⟨by decide, by decide⟩ rfl rfl (hfK 2 12 (by decide) (by decide)) hc_12 (by omega) rfl rfl (Nat.le_of_ble_eq_true rfl) (c_X11_setSlack G false 296 σ_1 F g a m (xs (i + 1)) (xs (i + 2)) hc_12 hc_13 hc_17 (by omega) hg9 hF5 (by omega)) ?_
    rintro _ σ_36 (⟨rfl, Mhno, hc_28, hf_29⟩ | ⟨r1M, rfl, Mhre, Mhrl, Mhnw, hc_30, hf_31⟩ | ⟨r1M, x1M, aqM, rfl, Mhre, Mhrl, Mhxe, Mhxa, Mhxl, Mhnew, Mhold, hc_32, hc_33, hc_34, hf_35⟩)
    · skip
      refine (?_ : AJ G K Q (kc + 2) (ks + 12) false 296 2655 [some (.ref bS), some (.ref (q_h G + 0)), some (.ref (q_h G + 279)), some (.ref (q_h G + 294)), some (.ref (q_h G + 295)), some (.int (nI (i))), some (.int (nI (0))), none, none] [.int (nI (0))] σ_36)
      have hc_28 : σ_36 279 = o11 G (upd F 7 (nI (1))) := hc_28
      have hc_37 : σ_36 0 = o10 G (nI (il)) (z2) (z3) := (hf_29 0 (by decide)).trans hc_6
      have hc_38 : σ_36 1 = q_an G 600 f := (hf_29 1 (by decide)).trans hc_7
      have hc_39 : σ_36 23 = o5 G (23) (nI (lo)) := (hf_29 23 (by decide)).trans hc_8
      have hc_40 : σ_36 24 = q_an G 256 o := (hf_29 24 (by decide)).trans hc_9
      have hc_41 : σ_36 224 = q_rn G 2 2 (fun j => some (243 + 18 * j)) := (hf_29 224 (by decide)).trans hc_10
      have hc_42 : σ_36 225 = q_bn G 2 kp := (hf_29 225 (by decide)).trans hc_11
      have hc_43 : σ_36 280 = q_an G 265 g := (hf_29 280 (by decide)).trans hc_13
      have hc_44 : σ_36 281 = q_an G 265 wk := (hf_29 281 (by decide)).trans hc_14
      have hc_45 : σ_36 282 = q_an G 265 as := (hf_29 282 (by decide)).trans hc_15
      have hc_46 : σ_36 283 = q_an G 530 sh := (hf_29 283 (by decide)).trans hc_16
      have hc_47 : σ_36 284 = q_an G 2120 a := (hf_29 284 (by decide)).trans hc_17
      have hc_48 : σ_36 285 = q_bn G 1681 fb := (hf_29 285 (by decide)).trans hc_18
      have hc_49 : σ_36 286 = q_an G 1681 nv := (hf_29 286 (by decide)).trans hc_19
      have hc_50 : σ_36 287 = q_an G 1681 ns := (hf_29 287 (by decide)).trans hc_20
      have hc_51 : σ_36 288 = q_an G 2000 mk := (hf_29 288 (by decide)).trans hc_21
      have hc_52 : σ_36 289 = q_an G 6724 va := (hf_29 289 (by decide)).trans hc_22
      have hc_53 : σ_36 290 = q_an G 6724 sp := (hf_29 290 (by decide)).trans hc_23
      have hc_54 : σ_36 291 = q_an G 80 lp := (hf_29 291 (by decide)).trans hc_24
      have hc_55 : σ_36 292 = q_an G 600 f := (hf_29 292 (by decide)).trans hc_25
      have hc_56 : σ_36 293 = q_an G 300 ou := (hf_29 293 (by decide)).trans hc_26
      have hc_57 : σ_36 295 = q_dn G 1 oD := (hf_29 295 (by decide)).trans hc_27
      have hc_58 : σ_36 294 = q_ln G 1 (va_up oL 0 ((nI (s_rule g r1C 18)).toInt64)) := (hf_29 294 (by decide)).trans hc_2
      exact (Mhno r1C (by omega) Chre).elim
    · skip
      refine (?_ : AJ G K Q (kc + 2) (ks + 12) false 296 2655 [some (.ref bS), some (.ref (q_h G + 0)), some (.ref (q_h G + 279)), some (.ref (q_h G + 294)), some (.ref (q_h G + 295)), some (.int (nI (i))), some (.int (nI (0))), none, none] [.int (nI (0))] σ_36)
      have hc_30 : σ_36 279 = o11 G (upd F 7 (nI (2))) := hc_30
      have hc_59 : σ_36 0 = o10 G (nI (il)) (z2) (z3) := (hf_31 0 (by decide)).trans hc_6
      have hc_60 : σ_36 1 = q_an G 600 f := (hf_31 1 (by decide)).trans hc_7
      have hc_61 : σ_36 23 = o5 G (23) (nI (lo)) := (hf_31 23 (by decide)).trans hc_8
      have hc_62 : σ_36 24 = q_an G 256 o := (hf_31 24 (by decide)).trans hc_9
      have hc_63 : σ_36 224 = q_rn G 2 2 (fun j => some (243 + 18 * j)) := (hf_31 224 (by decide)).trans hc_10
      have hc_64 : σ_36 225 = q_bn G 2 kp := (hf_31 225 (by decide)).trans hc_11
      have hc_65 : σ_36 280 = q_an G 265 g := (hf_31 280 (by decide)).trans hc_13
      have hc_66 : σ_36 281 = q_an G 265 wk := (hf_31 281 (by decide)).trans hc_14
      have hc_67 : σ_36 282 = q_an G 265 as := (hf_31 282 (by decide)).trans hc_15
      have hc_68 : σ_36 283 = q_an G 530 sh := (hf_31 283 (by decide)).trans hc_16
      have hc_69 : σ_36 284 = q_an G 2120 a := (hf_31 284 (by decide)).trans hc_17
      have hc_70 : σ_36 285 = q_bn G 1681 fb := (hf_31 285 (by decide)).trans hc_18
      have hc_71 : σ_36 286 = q_an G 1681 nv := (hf_31 286 (by decide)).trans hc_19
      have hc_72 : σ_36 287 = q_an G 1681 ns := (hf_31 287 (by decide)).trans hc_20
      have hc_73 : σ_36 288 = q_an G 2000 mk := (hf_31 288 (by decide)).trans hc_21
      have hc_74 : σ_36 289 = q_an G 6724 va := (hf_31 289 (by decide)).trans hc_22
      have hc_75 : σ_36 290 = q_an G 6724 sp := (hf_31 290 (by decide)).trans hc_23
      have hc_76 : σ_36 291 = q_an G 80 lp := (hf_31 291 (by decide)).trans hc_24
      have hc_77 : σ_36 292 = q_an G 600 f := (hf_31 292 (by decide)).trans hc_25
      have hc_78 : σ_36 293 = q_an G 300 ou := (hf_31 293 (by decide)).trans hc_26
      have hc_79 : σ_36 295 = q_dn G 1 oD := (hf_31 295 (by decide)).trans hc_27
      have hc_80 : σ_36 294 = q_ln G 1 (va_up oL 0 ((nI (s_rule g r1C 18)).toInt64)) := (hf_31 294 (by decide)).trans hc_2
      have e_r : r1C = r1M := q_nI_inj (by omega) (by omega) (Chre.symm.trans Mhre)
      subst e_r
      exact (Mhnw x1C (by omega) (by omega) Chxe).elim
    · skip
      refine (?_ : AJ G K Q (kc + 2) (ks + 12) false 296 2655 [some (.ref bS), some (.ref (q_h G + 0)), some (.ref (q_h G + 279)), some (.ref (q_h G + 294)), some (.ref (q_h G + 295)), some (.int (nI (i))), some (.int (nI (0))), none, none] [.int (nI (s_rule g r1M 18))] σ_36)
      have hc_32 : σ_36 279 = o11 G (upd (upd F 5 (nI (s_pmany m + 1))) 7 (nI (0))) := hc_32
      have hc_81 : σ_36 0 = o10 G (nI (il)) (z2) (z3) := (hf_35 0 (by decide)).trans hc_6
      have hc_82 : σ_36 1 = q_an G 600 f := (hf_35 1 (by decide)).trans hc_7
      have hc_83 : σ_36 23 = o5 G (23) (nI (lo)) := (hf_35 23 (by decide)).trans hc_8
      have hc_84 : σ_36 24 = q_an G 256 o := (hf_35 24 (by decide)).trans hc_9
      have hc_85 : σ_36 224 = q_rn G 2 2 (fun j => some (243 + 18 * j)) := (hf_35 224 (by decide)).trans hc_10
      have hc_86 : σ_36 225 = q_bn G 2 kp := (hf_35 225 (by decide)).trans hc_11
      have hc_87 : σ_36 281 = q_an G 265 wk := (hf_35 281 (by decide)).trans hc_14
      have hc_88 : σ_36 282 = q_an G 265 as := (hf_35 282 (by decide)).trans hc_15
      have hc_89 : σ_36 283 = q_an G 530 sh := (hf_35 283 (by decide)).trans hc_16
      have hc_90 : σ_36 285 = q_bn G 1681 fb := (hf_35 285 (by decide)).trans hc_18
      have hc_91 : σ_36 286 = q_an G 1681 nv := (hf_35 286 (by decide)).trans hc_19
      have hc_92 : σ_36 287 = q_an G 1681 ns := (hf_35 287 (by decide)).trans hc_20
      have hc_93 : σ_36 288 = q_an G 2000 mk := (hf_35 288 (by decide)).trans hc_21
      have hc_94 : σ_36 289 = q_an G 6724 va := (hf_35 289 (by decide)).trans hc_22
      have hc_95 : σ_36 290 = q_an G 6724 sp := (hf_35 290 (by decide)).trans hc_23
      have hc_96 : σ_36 291 = q_an G 80 lp := (hf_35 291 (by decide)).trans hc_24
      have hc_97 : σ_36 292 = q_an G 600 f := (hf_35 292 (by decide)).trans hc_25
      have hc_98 : σ_36 293 = q_an G 300 ou := (hf_35 293 (by decide)).trans hc_26
      have hc_99 : σ_36 295 = q_dn G 1 oD := (hf_35 295 (by decide)).trans hc_27
      have hc_100 : σ_36 294 = q_ln G 1 (va_up oL 0 ((nI (s_rule g r1C 18)).toInt64)) := (hf_35 294 (by decide)).trans hc_2
      have e_r : r1C = r1M := q_nI_inj (by omega) (by omega) (Chre.symm.trans Mhre)
      subst e_r
      have e_x : x1C = x1M := q_nI_inj (by omega) (by omega) (Chxe.symm.trans Mhxe)
      subst e_x
      refine A_istore hg dL_law_2655 (by decide) (q_c1d rfl) ?_
      refine A_eq (ls2 := [some (.ref bS), some (.ref (q_h G + 0)), some (.ref (q_h G + 279)), some (.ref (q_h G + 294)), some (.ref (q_h G + 295)), some (.int (nI (i))), some (.int (nI (0))), some (.int (nI (s_rule g r1C 18))), none]) (st2 := []) (pc2 := 0) rfl rfl ?_
      refine A_aload_n hg dL_law_2657 rfl rfl ?_
      refine A_eV (kc2 := kc + 2) (ks2 := ks + 12) (As := []) (rest := []) hg lk_RL_170 in_X11_thrown se_X11_thrown rfl dL_law_2658 ⟨by decide, by decide⟩ rfl rfl (hfK 2 12 (by decide) (by decide)) hc_32 (by omega) rfl rfl (Nat.le_of_ble_eq_true rfl) (c_X11_thrown G false 296 σ_36 (upd (upd F 5 (nI (s_pmany m + 1))) 7 (nI (0))) hc_32 (by omega)) ?_
      refine A_top (w := .int (nI (0))) (congrArg Value.int rfl) ?_
      refine A_iload hg dL_law_2661 rfl ?_
      refine A_icmp_eqN (tgt := 2668) hg dL_law_2663 (by decide) (by decide) (by decide) (fun c2663 => ?_) (fun c2663 => False.elim (by omega))
      refine A_iload hg dL_law_2668 rfl ?_
      refine A_if_neN (tgt := 2685) hg dL_law_2670 (by decide) (by decide) (fun c2670 => absurd (by decide) c2670) (fun c2670 => ?_)
      refine A_aload_n hg dL_law_2673 rfl rfl ?_
      refine A_iconst (v := (nI (0))) hg dL_law_2674 (by decide) ?_
      refine A_lald (j := 0) hg dL_law_2675 hc_100 (by omega) (by decide) (by decide) ?_
      refine A_top (w := .long ((nI (s_rule g r1C 18)).toInt64)) (congrArg Value.long iv_up0) ?_
      refine A_iload hg dL_law_2676 rfl ?_
      refine A_i2l (v := (nI (s_rule g r1C 18)).toInt64) hg dL_law_2678 rfl ?_
      refine A_lcmp hg dL_law_2679 ?_
      refine A_top (w := .int (nI 0)) (congrArg Value.int (lc_self _)) ?_
      refine A_if_eqN (tgt := 2685) hg dL_law_2680 (by decide) (by decide) (fun c2680 => ?_) (fun c2680 => absurd (by decide) c2680)
      refine A_goto (tgt := 3062) hg dL_law_2685 (by decide) ?_
      refine A_drop 6 ?_
      refine A_drop 7 ?_
      refine A_eq (ls2 := [some (.ref bS), some (.ref (q_h G + 0)), some (.ref (q_h G + 279)), some (.ref (q_h G + 294)), some (.ref (q_h G + 295)), some (.int (nI (i))), none, none, none]) (st2 := []) (pc2 := 0) rfl rfl ?_
      refine A_wide (kc2 := kc + 8) (ks2 := ks + 48) (by omega) (by omega) ?_
      exact hnxt _ (iv_mk il z2 z3 f lo o (s_rset g r1C 18 x1C) ((nx + 1) % 8) (min (m + 1) 8) (x_psh m ps g) kp sn (upd (upd F 5 (nI (s_pmany m + 1))) 7 (nI (0))) wk as sh aqM fb nv ns mk va sp lp mc z ss ou (va_up oL 0 ((nI (s_rule g r1C 18)).toInt64)) oD hc_81 hc_82 hc_83 hc_84 hc_85 hc_86 hc_32 hc_33 hc_87 hc_88 hc_89 hc_34 hc_90 hc_91 hc_92 hc_93 hc_94 hc_95 hc_96 hc_97 hc_98 hc_100 hc_99 (x_lj_e (fun i _ _ => ((hf_35 i (by omega)).trans (hf_3 i (by omega)))) hL) (x_gm_e (fun i _ _ => (hf_35 i (by omega))) ChG2) (x_mx_e (fun i _ _ => ((hf_35 i (by omega)).trans (hf_3 i (by omega)))) hM) (x_hi_e (fun i _ _ => (hf_35 i (by omega))) ChHi2) (x_oj_e (fun i _ _ => ((hf_35 i (by omega)).trans (hf_3 i (by omega)))) hO) (x_pj_e (fun i _ _ => ((hf_35 i (by omega)).trans (hf_3 i (by omega)))) hT) (iv_hn (fun i _ _ => ((hf_35 i (by omega)).trans (hf_3 i (by omega)))) hH) (iv_Sn (fun i _ _ => ((hf_35 i (by omega)).trans (hf_3 i (by omega)))) hSn) (iv_Kp (fun i _ _ => ((hf_35 i (by omega)).trans (hf_3 i (by omega)))) hKp) (by omega) hfb (by omega) hou (x_gbd_set hg9 Chrl (Or.inl rfl) hgd) (iv_push hm8 hgd hps Mhnew Mhold) hk1 hkss hss hsn (congrArg nI (iv_pm hm8)) hF6 hF12 hF16 hF21 hF22 hF23 hF33 (by omega) hmk hTI hlo)
  · skip
    rw [he_4]
    refine (?_ : AJ G K Q (kc + 2) (ks + 12) false 296 2637 [some (.ref bS), some (.ref (q_h G + 0)), some (.ref (q_h G + 279)), some (.ref (q_h G + 294)), some (.ref (q_h G + 295)), some (.int (nI (i))), none, none, none] [.int (nI (1))] σ)
    refine A_istore hg dL_law_2637 (by decide) (q_c1d rfl) ?_
    refine A_eq (ls2 := [some (.ref bS), some (.ref (q_h G + 0)), some (.ref (q_h G + 279)), some (.ref (q_h G + 294)), some (.ref (q_h G + 295)), some (.int (nI (i))), some (.int (nI (1))), none, none]) (st2 := []) (pc2 := 0) rfl rfl ?_
    refine A_aload_n hg dL_law_2639 rfl rfl ?_
    refine A_aload_n hg dL_law_2640 rfl rfl ?_
    refine A_iload hg dL_law_2641 rfl ?_
    refine A_iconst (v := (nI (1))) hg dL_law_2643 (by decide) ?_
    refine A_iaddN hg dL_law_2644 ?_
    refine A_sld hg hX (i + 1) (by omega) dL_law_2645 ?_
    refine A_aload_n hg dL_law_2646 rfl rfl ?_
    refine A_iload hg dL_law_2647 rfl ?_
    refine A_iconst (v := (nI (2))) hg dL_law_2649 (by decide) ?_
    refine A_iaddN hg dL_law_2650 ?_
    refine A_sld hg hX (i + 2) (by omega) dL_law_2651 ?_
    refine A_hV (kc2 := kc + 2) (ks2 := ks + 12) (As := [.int (xs (i + 1)), .int (xs (i + 2))]) (rest := []) hg lk_RL_275 in_X11_setSlack se_X11_setSlack rfl dL_law_2652 ⟨by decide, by decide⟩ rfl rfl (hfK 2 12 (by decide) (by decide)) hv6 (by omega) rfl rfl (Nat.le_of_ble_eq_true rfl) (c_X11_setSlack G false 296 σ F g a m (xs (i + 1)) (xs (i + 2)) hv6 hv7 hv11 (by omega) hg9 hF5 (by omega)) ?_
    rintro _ σ_109 (⟨rfl, Mhno, hc_101, hf_102⟩ | ⟨r1M, rfl, Mhre, Mhrl, Mhnw, hc_103, hf_104⟩ | ⟨r1M, x1M, aqM, rfl, Mhre, Mhrl, Mhxe, Mhxa, Mhxl, Mhnew, Mhold, hc_105, hc_106, hc_107, hf_108⟩)
    · skip
      refine (?_ : AJ G K Q (kc + 2) (ks + 12) false 296 2655 [some (.ref bS), some (.ref (q_h G + 0)), some (.ref (q_h G + 279)), some (.ref (q_h G + 294)), some (.ref (q_h G + 295)), some (.int (nI (i))), some (.int (nI (1))), none, none] [.int (nI (0))] σ_109)
      have hc_101 : σ_109 279 = o11 G (upd F 7 (nI (1))) := hc_101
      have hc_110 : σ_109 0 = o10 G (nI (il)) (z2) (z3) := (hf_102 0 (by decide)).trans hv0
      have hc_111 : σ_109 1 = q_an G 600 f := (hf_102 1 (by decide)).trans hv1
      have hc_112 : σ_109 23 = o5 G (23) (nI (lo)) := (hf_102 23 (by decide)).trans hv2
      have hc_113 : σ_109 24 = q_an G 256 o := (hf_102 24 (by decide)).trans hv3
      have hc_114 : σ_109 224 = q_rn G 2 2 (fun j => some (243 + 18 * j)) := (hf_102 224 (by decide)).trans hv4
      have hc_115 : σ_109 225 = q_bn G 2 kp := (hf_102 225 (by decide)).trans hv5
      have hc_116 : σ_109 280 = q_an G 265 g := (hf_102 280 (by decide)).trans hv7
      have hc_117 : σ_109 281 = q_an G 265 wk := (hf_102 281 (by decide)).trans hv8
      have hc_118 : σ_109 282 = q_an G 265 as := (hf_102 282 (by decide)).trans hv9
      have hc_119 : σ_109 283 = q_an G 530 sh := (hf_102 283 (by decide)).trans hv10
      have hc_120 : σ_109 284 = q_an G 2120 a := (hf_102 284 (by decide)).trans hv11
      have hc_121 : σ_109 285 = q_bn G 1681 fb := (hf_102 285 (by decide)).trans hv12
      have hc_122 : σ_109 286 = q_an G 1681 nv := (hf_102 286 (by decide)).trans hv13
      have hc_123 : σ_109 287 = q_an G 1681 ns := (hf_102 287 (by decide)).trans hv14
      have hc_124 : σ_109 288 = q_an G 2000 mk := (hf_102 288 (by decide)).trans hv15
      have hc_125 : σ_109 289 = q_an G 6724 va := (hf_102 289 (by decide)).trans hv16
      have hc_126 : σ_109 290 = q_an G 6724 sp := (hf_102 290 (by decide)).trans hv17
      have hc_127 : σ_109 291 = q_an G 80 lp := (hf_102 291 (by decide)).trans hv18
      have hc_128 : σ_109 292 = q_an G 600 f := (hf_102 292 (by decide)).trans hv19
      have hc_129 : σ_109 293 = q_an G 300 ou := (hf_102 293 (by decide)).trans hv20
      have hc_130 : σ_109 294 = q_ln G 1 oL := (hf_102 294 (by decide)).trans hv21
      have hc_131 : σ_109 295 = q_dn G 1 oD := (hf_102 295 (by decide)).trans hv22
      refine A_istore hg dL_law_2655 (by decide) (q_c1d rfl) ?_
      refine A_eq (ls2 := [some (.ref bS), some (.ref (q_h G + 0)), some (.ref (q_h G + 279)), some (.ref (q_h G + 294)), some (.ref (q_h G + 295)), some (.int (nI (i))), some (.int (nI (1))), some (.int (nI (0))), none]) (st2 := []) (pc2 := 0) rfl rfl ?_
      refine A_aload_n hg dL_law_2657 rfl rfl ?_
      refine A_eV (kc2 := kc + 2) (ks2 := ks + 12) (As := []) (rest := []) hg lk_RL_170 in_X11_thrown se_X11_thrown rfl dL_law_2658 ⟨by decide, by decide⟩ rfl rfl (hfK 2 12 (by decide) (by decide)) hc_101 (by omega) rfl rfl (Nat.le_of_ble_eq_true rfl) (c_X11_thrown G false 296 σ_109 (upd F 7 (nI (1))) hc_101 (by omega)) ?_
      refine A_top (w := .int (nI (1))) (congrArg Value.int rfl) ?_
      refine A_iload hg dL_law_2661 rfl ?_
      refine A_icmp_eqN (tgt := 2668) hg dL_law_2663 (by decide) (by decide) (by decide) (fun c2663 => ?_) (fun c2663 => False.elim (by omega))
      refine A_iload hg dL_law_2668 rfl ?_
      refine A_if_neN (tgt := 2685) hg dL_law_2670 (by decide) (by decide) (fun c2670 => ?_) (fun c2670 => absurd c2670 (by decide))
      refine A_goto (tgt := 3062) hg dL_law_2685 (by decide) ?_
      refine A_drop 6 ?_
      refine A_drop 7 ?_
      refine A_eq (ls2 := [some (.ref bS), some (.ref (q_h G + 0)), some (.ref (q_h G + 279)), some (.ref (q_h G + 294)), some (.ref (q_h G + 295)), some (.int (nI (i))), none, none, none]) (st2 := []) (pc2 := 0) rfl rfl ?_
      refine A_wide (kc2 := kc + 8) (ks2 := ks + 48) (by omega) (by omega) ?_
      exact hnxt _ (iv_mk il z2 z3 f lo o g nx m ps kp sn (upd F 7 (nI (1))) wk as sh a fb nv ns mk va sp lp mc z ss ou oL oD hc_110 hc_111 hc_112 hc_113 hc_114 hc_115 hc_101 hc_116 hc_117 hc_118 hc_119 hc_120 hc_121 hc_122 hc_123 hc_124 hc_125 hc_126 hc_127 hc_128 hc_129 hc_130 hc_131 (x_lj_e (fun i _ _ => (hf_102 i (by omega))) hL) (x_gm_e (fun i _ _ => (hf_102 i (by omega))) hG) (x_mx_e (fun i _ _ => (hf_102 i (by omega))) hM) (x_hi_e (fun i _ _ => (hf_102 i (by omega))) hHi) (x_oj_e (fun i _ _ => (hf_102 i (by omega))) hO) (x_pj_e (fun i _ _ => (hf_102 i (by omega))) hT) (iv_hn (fun i _ _ => (hf_102 i (by omega))) hH) (iv_Sn (fun i _ _ => (hf_102 i (by omega))) hSn) (iv_Kp (fun i _ _ => (hf_102 i (by omega))) hKp) (by omega) hfb (by omega) hou hgd hps hk1 hkss hss hsn hF5 hF6 hF12 hF16 hF21 hF22 hF23 hF33 (by omega) hmk hTI hlo)
    · skip
      refine (?_ : AJ G K Q (kc + 2) (ks + 12) false 296 2655 [some (.ref bS), some (.ref (q_h G + 0)), some (.ref (q_h G + 279)), some (.ref (q_h G + 294)), some (.ref (q_h G + 295)), some (.int (nI (i))), some (.int (nI (1))), none, none] [.int (nI (0))] σ_109)
      have hc_103 : σ_109 279 = o11 G (upd F 7 (nI (2))) := hc_103
      have hc_132 : σ_109 0 = o10 G (nI (il)) (z2) (z3) := (hf_104 0 (by decide)).trans hv0
      have hc_133 : σ_109 1 = q_an G 600 f := (hf_104 1 (by decide)).trans hv1
      have hc_134 : σ_109 23 = o5 G (23) (nI (lo)) := (hf_104 23 (by decide)).trans hv2
      have hc_135 : σ_109 24 = q_an G 256 o := (hf_104 24 (by decide)).trans hv3
      have hc_136 : σ_109 224 = q_rn G 2 2 (fun j => some (243 + 18 * j)) := (hf_104 224 (by decide)).trans hv4
      have hc_137 : σ_109 225 = q_bn G 2 kp := (hf_104 225 (by decide)).trans hv5
      have hc_138 : σ_109 280 = q_an G 265 g := (hf_104 280 (by decide)).trans hv7
      have hc_139 : σ_109 281 = q_an G 265 wk := (hf_104 281 (by decide)).trans hv8
      have hc_140 : σ_109 282 = q_an G 265 as := (hf_104 282 (by decide)).trans hv9
      have hc_141 : σ_109 283 = q_an G 530 sh := (hf_104 283 (by decide)).trans hv10
      have hc_142 : σ_109 284 = q_an G 2120 a := (hf_104 284 (by decide)).trans hv11
      have hc_143 : σ_109 285 = q_bn G 1681 fb := (hf_104 285 (by decide)).trans hv12
      have hc_144 : σ_109 286 = q_an G 1681 nv := (hf_104 286 (by decide)).trans hv13
      have hc_145 : σ_109 287 = q_an G 1681 ns := (hf_104 287 (by decide)).trans hv14
      have hc_146 : σ_109 288 = q_an G 2000 mk := (hf_104 288 (by decide)).trans hv15
      have hc_147 : σ_109 289 = q_an G 6724 va := (hf_104 289 (by decide)).trans hv16
      have hc_148 : σ_109 290 = q_an G 6724 sp := (hf_104 290 (by decide)).trans hv17
      have hc_149 : σ_109 291 = q_an G 80 lp := (hf_104 291 (by decide)).trans hv18
      have hc_150 : σ_109 292 = q_an G 600 f := (hf_104 292 (by decide)).trans hv19
      have hc_151 : σ_109 293 = q_an G 300 ou := (hf_104 293 (by decide)).trans hv20
      have hc_152 : σ_109 294 = q_ln G 1 oL := (hf_104 294 (by decide)).trans hv21
      have hc_153 : σ_109 295 = q_dn G 1 oD := (hf_104 295 (by decide)).trans hv22
      exact (Chxx r1M (by omega) Mhre).elim
    · skip
      refine (?_ : AJ G K Q (kc + 2) (ks + 12) false 296 2655 [some (.ref bS), some (.ref (q_h G + 0)), some (.ref (q_h G + 279)), some (.ref (q_h G + 294)), some (.ref (q_h G + 295)), some (.int (nI (i))), some (.int (nI (1))), none, none] [.int (nI (s_rule g r1M 18))] σ_109)
      have hc_105 : σ_109 279 = o11 G (upd (upd F 5 (nI (s_pmany m + 1))) 7 (nI (0))) := hc_105
      have hc_154 : σ_109 0 = o10 G (nI (il)) (z2) (z3) := (hf_108 0 (by decide)).trans hv0
      have hc_155 : σ_109 1 = q_an G 600 f := (hf_108 1 (by decide)).trans hv1
      have hc_156 : σ_109 23 = o5 G (23) (nI (lo)) := (hf_108 23 (by decide)).trans hv2
      have hc_157 : σ_109 24 = q_an G 256 o := (hf_108 24 (by decide)).trans hv3
      have hc_158 : σ_109 224 = q_rn G 2 2 (fun j => some (243 + 18 * j)) := (hf_108 224 (by decide)).trans hv4
      have hc_159 : σ_109 225 = q_bn G 2 kp := (hf_108 225 (by decide)).trans hv5
      have hc_160 : σ_109 281 = q_an G 265 wk := (hf_108 281 (by decide)).trans hv8
      have hc_161 : σ_109 282 = q_an G 265 as := (hf_108 282 (by decide)).trans hv9
      have hc_162 : σ_109 283 = q_an G 530 sh := (hf_108 283 (by decide)).trans hv10
      have hc_163 : σ_109 285 = q_bn G 1681 fb := (hf_108 285 (by decide)).trans hv12
      have hc_164 : σ_109 286 = q_an G 1681 nv := (hf_108 286 (by decide)).trans hv13
      have hc_165 : σ_109 287 = q_an G 1681 ns := (hf_108 287 (by decide)).trans hv14
      have hc_166 : σ_109 288 = q_an G 2000 mk := (hf_108 288 (by decide)).trans hv15
      have hc_167 : σ_109 289 = q_an G 6724 va := (hf_108 289 (by decide)).trans hv16
      have hc_168 : σ_109 290 = q_an G 6724 sp := (hf_108 290 (by decide)).trans hv17
      have hc_169 : σ_109 291 = q_an G 80 lp := (hf_108 291 (by decide)).trans hv18
      have hc_170 : σ_109 292 = q_an G 600 f := (hf_108 292 (by decide)).trans hv19
      have hc_171 : σ_109 293 = q_an G 300 ou := (hf_108 293 (by decide)).trans hv20
      have hc_172 : σ_109 294 = q_ln G 1 oL := (hf_108 294 (by decide)).trans hv21
      have hc_173 : σ_109 295 = q_dn G 1 oD := (hf_108 295 (by decide)).trans hv22
      exact (Chxx r1M (by omega) Mhre).elim
  · skip
    rw [he_5]
    refine (?_ : AJ G K Q (kc + 2) (ks + 12) false 296 2637 [some (.ref bS), some (.ref (q_h G + 0)), some (.ref (q_h G + 279)), some (.ref (q_h G + 294)), some (.ref (q_h G + 295)), some (.int (nI (i))), none, none, none] [.int (nI (2))] σ)
    obtain ⟨r1C, Chx0, Chx1, Chx2⟩ := Chxx
    refine A_istore hg dL_law_2637 (by decide) (q_c1d rfl) ?_
    refine A_eq (ls2 := [some (.ref bS), some (.ref (q_h G + 0)), some (.ref (q_h G + 279)), some (.ref (q_h G + 294)), some (.ref (q_h G + 295)), some (.int (nI (i))), some (.int (nI (2))), none, none]) (st2 := []) (pc2 := 0) rfl rfl ?_
    refine A_aload_n hg dL_law_2639 rfl rfl ?_
    refine A_aload_n hg dL_law_2640 rfl rfl ?_
    refine A_iload hg dL_law_2641 rfl ?_
    refine A_iconst (v := (nI (1))) hg dL_law_2643 (by decide) ?_
    refine A_iaddN hg dL_law_2644 ?_
    refine A_sld hg hX (i + 1) (by omega) dL_law_2645 ?_
    refine A_aload_n hg dL_law_2646 rfl rfl ?_
    refine A_iload hg dL_law_2647 rfl ?_
    refine A_iconst (v := (nI (2))) hg dL_law_2649 (by decide) ?_
    refine A_iaddN hg dL_law_2650 ?_
    refine A_sld hg hX (i + 2) (by omega) dL_law_2651 ?_
    refine A_hV (kc2 := kc + 2) (ks2 := ks + 12) (As := [.int (xs (i + 1)), .int (xs (i + 2))]) (rest := []) hg lk_RL_275 in_X11_setSlack se_X11_setSlack rfl dL_law_2652 ⟨by decide, by decide⟩ rfl rfl (hfK 2 12 (by decide) (by decide)) hv6 (by omega) rfl rfl (Nat.le_of_ble_eq_true rfl) (c_X11_setSlack G false 296 σ F g a m (xs (i + 1)) (xs (i + 2)) hv6 hv7 hv11 (by omega) hg9 hF5 (by omega)) ?_
    rintro _ σ_182 (⟨rfl, Mhno, hc_174, hf_175⟩ | ⟨r1M, rfl, Mhre, Mhrl, Mhnw, hc_176, hf_177⟩ | ⟨r1M, x1M, aqM, rfl, Mhre, Mhrl, Mhxe, Mhxa, Mhxl, Mhnew, Mhold, hc_178, hc_179, hc_180, hf_181⟩)
    · skip
      refine (?_ : AJ G K Q (kc + 2) (ks + 12) false 296 2655 [some (.ref bS), some (.ref (q_h G + 0)), some (.ref (q_h G + 279)), some (.ref (q_h G + 294)), some (.ref (q_h G + 295)), some (.int (nI (i))), some (.int (nI (2))), none, none] [.int (nI (0))] σ_182)
      have hc_174 : σ_182 279 = o11 G (upd F 7 (nI (1))) := hc_174
      have hc_183 : σ_182 0 = o10 G (nI (il)) (z2) (z3) := (hf_175 0 (by decide)).trans hv0
      have hc_184 : σ_182 1 = q_an G 600 f := (hf_175 1 (by decide)).trans hv1
      have hc_185 : σ_182 23 = o5 G (23) (nI (lo)) := (hf_175 23 (by decide)).trans hv2
      have hc_186 : σ_182 24 = q_an G 256 o := (hf_175 24 (by decide)).trans hv3
      have hc_187 : σ_182 224 = q_rn G 2 2 (fun j => some (243 + 18 * j)) := (hf_175 224 (by decide)).trans hv4
      have hc_188 : σ_182 225 = q_bn G 2 kp := (hf_175 225 (by decide)).trans hv5
      have hc_189 : σ_182 280 = q_an G 265 g := (hf_175 280 (by decide)).trans hv7
      have hc_190 : σ_182 281 = q_an G 265 wk := (hf_175 281 (by decide)).trans hv8
      have hc_191 : σ_182 282 = q_an G 265 as := (hf_175 282 (by decide)).trans hv9
      have hc_192 : σ_182 283 = q_an G 530 sh := (hf_175 283 (by decide)).trans hv10
      have hc_193 : σ_182 284 = q_an G 2120 a := (hf_175 284 (by decide)).trans hv11
      have hc_194 : σ_182 285 = q_bn G 1681 fb := (hf_175 285 (by decide)).trans hv12
      have hc_195 : σ_182 286 = q_an G 1681 nv := (hf_175 286 (by decide)).trans hv13
      have hc_196 : σ_182 287 = q_an G 1681 ns := (hf_175 287 (by decide)).trans hv14
      have hc_197 : σ_182 288 = q_an G 2000 mk := (hf_175 288 (by decide)).trans hv15
      have hc_198 : σ_182 289 = q_an G 6724 va := (hf_175 289 (by decide)).trans hv16
      have hc_199 : σ_182 290 = q_an G 6724 sp := (hf_175 290 (by decide)).trans hv17
      have hc_200 : σ_182 291 = q_an G 80 lp := (hf_175 291 (by decide)).trans hv18
      have hc_201 : σ_182 292 = q_an G 600 f := (hf_175 292 (by decide)).trans hv19
      have hc_202 : σ_182 293 = q_an G 300 ou := (hf_175 293 (by decide)).trans hv20
      have hc_203 : σ_182 294 = q_ln G 1 oL := (hf_175 294 (by decide)).trans hv21
      have hc_204 : σ_182 295 = q_dn G 1 oD := (hf_175 295 (by decide)).trans hv22
      exact (Mhno r1C (by omega) Chx0).elim
    · skip
      refine (?_ : AJ G K Q (kc + 2) (ks + 12) false 296 2655 [some (.ref bS), some (.ref (q_h G + 0)), some (.ref (q_h G + 279)), some (.ref (q_h G + 294)), some (.ref (q_h G + 295)), some (.int (nI (i))), some (.int (nI (2))), none, none] [.int (nI (0))] σ_182)
      have hc_176 : σ_182 279 = o11 G (upd F 7 (nI (2))) := hc_176
      have hc_205 : σ_182 0 = o10 G (nI (il)) (z2) (z3) := (hf_177 0 (by decide)).trans hv0
      have hc_206 : σ_182 1 = q_an G 600 f := (hf_177 1 (by decide)).trans hv1
      have hc_207 : σ_182 23 = o5 G (23) (nI (lo)) := (hf_177 23 (by decide)).trans hv2
      have hc_208 : σ_182 24 = q_an G 256 o := (hf_177 24 (by decide)).trans hv3
      have hc_209 : σ_182 224 = q_rn G 2 2 (fun j => some (243 + 18 * j)) := (hf_177 224 (by decide)).trans hv4
      have hc_210 : σ_182 225 = q_bn G 2 kp := (hf_177 225 (by decide)).trans hv5
      have hc_211 : σ_182 280 = q_an G 265 g := (hf_177 280 (by decide)).trans hv7
      have hc_212 : σ_182 281 = q_an G 265 wk := (hf_177 281 (by decide)).trans hv8
      have hc_213 : σ_182 282 = q_an G 265 as := (hf_177 282 (by decide)).trans hv9
      have hc_214 : σ_182 283 = q_an G 530 sh := (hf_177 283 (by decide)).trans hv10
      have hc_215 : σ_182 284 = q_an G 2120 a := (hf_177 284 (by decide)).trans hv11
      have hc_216 : σ_182 285 = q_bn G 1681 fb := (hf_177 285 (by decide)).trans hv12
      have hc_217 : σ_182 286 = q_an G 1681 nv := (hf_177 286 (by decide)).trans hv13
      have hc_218 : σ_182 287 = q_an G 1681 ns := (hf_177 287 (by decide)).trans hv14
      have hc_219 : σ_182 288 = q_an G 2000 mk := (hf_177 288 (by decide)).trans hv15
      have hc_220 : σ_182 289 = q_an G 6724 va := (hf_177 289 (by decide)).trans hv16
      have hc_221 : σ_182 290 = q_an G 6724 sp := (hf_177 290 (by decide)).trans hv17
      have hc_222 : σ_182 291 = q_an G 80 lp := (hf_177 291 (by decide)).trans hv18
      have hc_223 : σ_182 292 = q_an G 600 f := (hf_177 292 (by decide)).trans hv19
      have hc_224 : σ_182 293 = q_an G 300 ou := (hf_177 293 (by decide)).trans hv20
      have hc_225 : σ_182 294 = q_ln G 1 oL := (hf_177 294 (by decide)).trans hv21
      have hc_226 : σ_182 295 = q_dn G 1 oD := (hf_177 295 (by decide)).trans hv22
      have e_r : r1C = r1M := q_nI_inj (by omega) (by omega) (Chx0.symm.trans Mhre)
      subst e_r
      refine A_istore hg dL_law_2655 (by decide) (q_c1d rfl) ?_
      refine A_eq (ls2 := [some (.ref bS), some (.ref (q_h G + 0)), some (.ref (q_h G + 279)), some (.ref (q_h G + 294)), some (.ref (q_h G + 295)), some (.int (nI (i))), some (.int (nI (2))), some (.int (nI (0))), none]) (st2 := []) (pc2 := 0) rfl rfl ?_
      refine A_aload_n hg dL_law_2657 rfl rfl ?_
      refine A_eV (kc2 := kc + 2) (ks2 := ks + 12) (As := []) (rest := []) hg lk_RL_170 in_X11_thrown se_X11_thrown rfl dL_law_2658 ⟨by decide, by decide⟩ rfl rfl (hfK 2 12 (by decide) (by decide)) hc_176 (by omega) rfl rfl (Nat.le_of_ble_eq_true rfl) (c_X11_thrown G false 296 σ_182 (upd F 7 (nI (2))) hc_176 (by omega)) ?_
      refine A_top (w := .int (nI (2))) (congrArg Value.int rfl) ?_
      refine A_iload hg dL_law_2661 rfl ?_
      refine A_icmp_eqN (tgt := 2668) hg dL_law_2663 (by decide) (by decide) (by decide) (fun c2663 => ?_) (fun c2663 => False.elim (by omega))
      refine A_iload hg dL_law_2668 rfl ?_
      refine A_if_neN (tgt := 2685) hg dL_law_2670 (by decide) (by decide) (fun c2670 => ?_) (fun c2670 => absurd c2670 (by decide))
      refine A_goto (tgt := 3062) hg dL_law_2685 (by decide) ?_
      refine A_drop 6 ?_
      refine A_drop 7 ?_
      refine A_eq (ls2 := [some (.ref bS), some (.ref (q_h G + 0)), some (.ref (q_h G + 279)), some (.ref (q_h G + 294)), some (.ref (q_h G + 295)), some (.int (nI (i))), none, none, none]) (st2 := []) (pc2 := 0) rfl rfl ?_
      refine A_wide (kc2 := kc + 8) (ks2 := ks + 48) (by omega) (by omega) ?_
      exact hnxt _ (iv_mk il z2 z3 f lo o g nx m ps kp sn (upd F 7 (nI (2))) wk as sh a fb nv ns mk va sp lp mc z ss ou oL oD hc_205 hc_206 hc_207 hc_208 hc_209 hc_210 hc_176 hc_211 hc_212 hc_213 hc_214 hc_215 hc_216 hc_217 hc_218 hc_219 hc_220 hc_221 hc_222 hc_223 hc_224 hc_225 hc_226 (x_lj_e (fun i _ _ => (hf_177 i (by omega))) hL) (x_gm_e (fun i _ _ => (hf_177 i (by omega))) hG) (x_mx_e (fun i _ _ => (hf_177 i (by omega))) hM) (x_hi_e (fun i _ _ => (hf_177 i (by omega))) hHi) (x_oj_e (fun i _ _ => (hf_177 i (by omega))) hO) (x_pj_e (fun i _ _ => (hf_177 i (by omega))) hT) (iv_hn (fun i _ _ => (hf_177 i (by omega))) hH) (iv_Sn (fun i _ _ => (hf_177 i (by omega))) hSn) (iv_Kp (fun i _ _ => (hf_177 i (by omega))) hKp) (by omega) hfb (by omega) hou hgd hps hk1 hkss hss hsn hF5 hF6 hF12 hF16 hF21 hF22 hF23 hF33 (by omega) hmk hTI hlo)
    · skip
      refine (?_ : AJ G K Q (kc + 2) (ks + 12) false 296 2655 [some (.ref bS), some (.ref (q_h G + 0)), some (.ref (q_h G + 279)), some (.ref (q_h G + 294)), some (.ref (q_h G + 295)), some (.int (nI (i))), some (.int (nI (2))), none, none] [.int (nI (s_rule g r1M 18))] σ_182)
      have hc_178 : σ_182 279 = o11 G (upd (upd F 5 (nI (s_pmany m + 1))) 7 (nI (0))) := hc_178
      have hc_227 : σ_182 0 = o10 G (nI (il)) (z2) (z3) := (hf_181 0 (by decide)).trans hv0
      have hc_228 : σ_182 1 = q_an G 600 f := (hf_181 1 (by decide)).trans hv1
      have hc_229 : σ_182 23 = o5 G (23) (nI (lo)) := (hf_181 23 (by decide)).trans hv2
      have hc_230 : σ_182 24 = q_an G 256 o := (hf_181 24 (by decide)).trans hv3
      have hc_231 : σ_182 224 = q_rn G 2 2 (fun j => some (243 + 18 * j)) := (hf_181 224 (by decide)).trans hv4
      have hc_232 : σ_182 225 = q_bn G 2 kp := (hf_181 225 (by decide)).trans hv5
      have hc_233 : σ_182 281 = q_an G 265 wk := (hf_181 281 (by decide)).trans hv8
      have hc_234 : σ_182 282 = q_an G 265 as := (hf_181 282 (by decide)).trans hv9
      have hc_235 : σ_182 283 = q_an G 530 sh := (hf_181 283 (by decide)).trans hv10
      have hc_236 : σ_182 285 = q_bn G 1681 fb := (hf_181 285 (by decide)).trans hv12
      have hc_237 : σ_182 286 = q_an G 1681 nv := (hf_181 286 (by decide)).trans hv13
      have hc_238 : σ_182 287 = q_an G 1681 ns := (hf_181 287 (by decide)).trans hv14
      have hc_239 : σ_182 288 = q_an G 2000 mk := (hf_181 288 (by decide)).trans hv15
      have hc_240 : σ_182 289 = q_an G 6724 va := (hf_181 289 (by decide)).trans hv16
      have hc_241 : σ_182 290 = q_an G 6724 sp := (hf_181 290 (by decide)).trans hv17
      have hc_242 : σ_182 291 = q_an G 80 lp := (hf_181 291 (by decide)).trans hv18
      have hc_243 : σ_182 292 = q_an G 600 f := (hf_181 292 (by decide)).trans hv19
      have hc_244 : σ_182 293 = q_an G 300 ou := (hf_181 293 (by decide)).trans hv20
      have hc_245 : σ_182 294 = q_ln G 1 oL := (hf_181 294 (by decide)).trans hv21
      have hc_246 : σ_182 295 = q_dn G 1 oD := (hf_181 295 (by decide)).trans hv22
      have e_r : r1C = r1M := q_nI_inj (by omega) (by omega) (Chx0.symm.trans Mhre)
      subst e_r
      exact (Chx2 x1M (by omega) (by omega) Mhxe).elim
set_option maxRecDepth 100000 in
set_option maxHeartbeats 4000000 in
theorem law_c38 (G : GL) (K : KC) (Q : State → Prop) (hh : List (Nat × Nat × Nat × Nat)) (hg : Gd G K RL code 9 ret room_1 hh) (bS L : Nat) (xs : Nat → Int32) (hX : q_scr G K bS L xs) (i kc ks J : Nat) (hi : i + 5 < L) (hL31 : L < 2 ^ 31) (hkc : kc + 8 ≤ 601024) (hks : ks + 48 ≤ 7293034) (σ : Nat → va_E) (hI : iv G σ J) (hJ : J < 512) (hfd : q_fdn) (hdd : q_ddn) (hf2 : q_f2n) (hds : q_dcs) (hnxt : ∀ σ9 : Nat → va_E, iv G σ9 (J + 1) → AJ G K Q (kc + 8) (ks + 48) false 296 3062 [some (.ref bS), some (.ref (q_h G + 0)), some (.ref (q_h G + 279)), some (.ref (q_h G + 294)), some (.ref (q_h G + 295)), some (.int (nI (i))), none, none, none] [] σ9) : AJ G K Q kc ks false 296 2688 [some (.ref bS), some (.ref (q_h G + 0)), some (.ref (q_h G + 279)), some (.ref (q_h G + 294)), some (.ref (q_h G + 295)), some (.int (nI (i))), none, none, none] [] σ := by
  refine iv_el hI ?_
  intro il z2 z3 f lo o g nx m ps kp sn F wk as sh a fb nv ns mk va sp lp mc z ss ou oL oD
  intro hv0 hv1 hv2 hv3 hv4 hv5 hv6 hv7 hv8 hv9 hv10 hv11 hv12 hv13 hv14 hv15 hv16 hv17 hv18 hv19 hv20 hv21 hv22
  intro hL hG hM hHi hO hT hH hSn hKp
  intro hil hfb hlo2 hou hgd hps hk1 hkss hss hsn hF5 hF6 hF12 hF16 hF21 hF22 hF23 hF33 hmc hmk hTI hlo
  have hfK : ∀ a b : Nat, a ≤ 8 → b ≤ 48 → kc + a ≤ room_1.cells ∧ ks + b ≤ room_1.slots := fun a b h1 h2 => ⟨by show kc + a ≤ 601024; omega, by show ks + b ≤ 7293034; omega⟩
  have hg9 := iv_g hG
  obtain ⟨hnx8, hm8, hc78⟩ := iv_hi hHi
  have hbb := iv_byte (m := il) hfb
  have hg90 := hg9.1
  have hg96 := hg9.2.2.2.2.1
  have hnp8 := s_np_le hg9
  refine A_aload_n hg dL_law_2688 rfl rfl ?_
  refine A_aload_n hg dL_law_2689 rfl rfl ?_
  refine A_iload hg dL_law_2690 rfl ?_
  refine A_iconst (v := (nI (1))) hg dL_law_2692 (by decide) ?_
  refine A_iaddN hg dL_law_2693 ?_
  refine A_sld hg hX (i + 1) (by omega) dL_law_2694 ?_
  refine A_aload_n hg dL_law_2695 rfl rfl ?_
  refine A_iload hg dL_law_2696 rfl ?_
  refine A_iconst (v := (nI (2))) hg dL_law_2698 (by decide) ?_
  refine A_iaddN hg dL_law_2699 ?_
  refine A_sld hg hX (i + 2) (by omega) dL_law_2700 ?_
  refine A_aload_n hg dL_law_2701 rfl rfl ?_
  refine A_callSH (As := [.ref (q_h G + 0), .int (xs (i + 1)), .int (xs (i + 2)), .ref (q_h G + 294)]) (rest := []) hg lkH_276 stH_L_setMost dL_law_2702 ⟨by decide, by decide⟩ (hfK 2 12 (by decide) (by decide)) rfl rfl (Nat.le_of_ble_eq_true rfl) (c_L_setMost G 296 σ (nI (il)) z2 z3 g nx m ps (xs (i + 1)) (xs (i + 2)) oL hv0 hv21 (by omega) hG hHi (by omega)) ?_
  rintro _ σ_1 (⟨r1C, x1C, rfl, Chre, Chrl, Chxe, Chxa, Chxl, ChG2, ChHi2, hc_2, hf_3⟩ | ⟨rfl, Chxx, he_4⟩ | ⟨rfl, Chxx, he_5⟩)
  · skip
    refine (?_ : AJ G K Q (kc + 2) (ks + 12) false 296 2705 [some (.ref bS), some (.ref (q_h G + 0)), some (.ref (q_h G + 279)), some (.ref (q_h G + 294)), some (.ref (q_h G + 295)), some (.int (nI (i))), none, none, none] [.int (nI (0))] σ_1)
    have hc_6 : σ_1 0 = o10 G (nI (il)) (z2) (z3) := (hf_3 0 (by decide)).trans hv0
    have hc_7 : σ_1 1 = q_an G 600 f := (hf_3 1 (by decide)).trans hv1
    have hc_8 : σ_1 23 = o5 G (23) (nI (lo)) := (hf_3 23 (by decide)).trans hv2
    have hc_9 : σ_1 24 = q_an G 256 o := (hf_3 24 (by decide)).trans hv3
    have hc_10 : σ_1 224 = q_rn G 2 2 (fun j => some (243 + 18 * j)) := (hf_3 224 (by decide)).trans hv4
    have hc_11 : σ_1 225 = q_bn G 2 kp := (hf_3 225 (by decide)).trans hv5
    have hc_12 : σ_1 279 = o11 G F := (hf_3 279 (by decide)).trans hv6
    have hc_13 : σ_1 280 = q_an G 265 g := (hf_3 280 (by decide)).trans hv7
    have hc_14 : σ_1 281 = q_an G 265 wk := (hf_3 281 (by decide)).trans hv8
    have hc_15 : σ_1 282 = q_an G 265 as := (hf_3 282 (by decide)).trans hv9
    have hc_16 : σ_1 283 = q_an G 530 sh := (hf_3 283 (by decide)).trans hv10
    have hc_17 : σ_1 284 = q_an G 2120 a := (hf_3 284 (by decide)).trans hv11
    have hc_18 : σ_1 285 = q_bn G 1681 fb := (hf_3 285 (by decide)).trans hv12
    have hc_19 : σ_1 286 = q_an G 1681 nv := (hf_3 286 (by decide)).trans hv13
    have hc_20 : σ_1 287 = q_an G 1681 ns := (hf_3 287 (by decide)).trans hv14
    have hc_21 : σ_1 288 = q_an G 2000 mk := (hf_3 288 (by decide)).trans hv15
    have hc_22 : σ_1 289 = q_an G 6724 va := (hf_3 289 (by decide)).trans hv16
    have hc_23 : σ_1 290 = q_an G 6724 sp := (hf_3 290 (by decide)).trans hv17
    have hc_24 : σ_1 291 = q_an G 80 lp := (hf_3 291 (by decide)).trans hv18
    have hc_25 : σ_1 292 = q_an G 600 f := (hf_3 292 (by decide)).trans hv19
    have hc_26 : σ_1 293 = q_an G 300 ou := (hf_3 293 (by decide)).trans hv20
    have hc_27 : σ_1 295 = q_dn G 1 oD := (hf_3 295 (by decide)).trans hv22
    refine A_istore hg dL_law_2705 (by decide) (q_c1d rfl) ?_
    refine A_eq (ls2 := [some (.ref bS), some (.ref (q_h G + 0)), some (.ref (q_h G + 279)), some (.ref (q_h G + 294)), some (.ref (q_h G + 295)), some (.int (nI (i))), some (.int (nI (0))), none, none]) (st2 := []) (pc2 := 0) rfl rfl ?_
    refine A_aload_n hg dL_law_2707 rfl rfl ?_
    refine A_aload_n hg dL_law_2708 rfl rfl ?_
    refine A_iload hg dL_law_2709 rfl ?_
    refine A_iconst (v := (nI (1))) hg dL_law_2711 (by decide) ?_
    refine A_iaddN hg dL_law_2712 ?_
    refine A_sld hg hX (i + 1) (by omega) dL_law_2713 ?_
    refine A_aload_n hg dL_law_2714 rfl rfl ?_
    refine A_iload hg dL_law_2715 rfl ?_
    refine A_iconst (v := (nI (2))) hg dL_law_2717 (by decide) ?_
    refine A_iaddN hg dL_law_2718 ?_
    refine A_sld hg hX (i + 2) (by omega) dL_law_2719 ?_
    refine A_hV (kc2 := kc + 2) (ks2 := ks + 12) (As := [.int (xs (i + 1)), .int (xs (i + 2))]) (rest := []) hg lk_RL_278 in_X11_setMost se_X11_setMost rfl dL_law_2720 ⟨by decide, by decide⟩ rfl rfl (hfK 2 12 (by decide) (by decide)) hc_12 (by omega) rfl rfl (Nat.le_of_ble_eq_true rfl) (c_X11_setMost G false 296 σ_1 F g a m (xs (i + 1)) (xs (i + 2)) hc_12 hc_13 hc_17 (by omega) hg9 hF5 (by omega)) ?_
    rintro _ σ_36 (⟨rfl, Mhno, hc_28, hf_29⟩ | ⟨r1M, rfl, Mhre, Mhrl, Mhnw, hc_30, hf_31⟩ | ⟨r1M, x1M, aqM, rfl, Mhre, Mhrl, Mhxe, Mhxa, Mhxl, Mhnew, Mhold, hc_32, hc_33, hc_34, hf_35⟩)
    · skip
      refine (?_ : AJ G K Q (kc + 2) (ks + 12) false 296 2723 [some (.ref bS), some (.ref (q_h G + 0)), some (.ref (q_h G + 279)), some (.ref (q_h G + 294)), some (.ref (q_h G + 295)), some (.int (nI (i))), some (.int (nI (0))), none, none] [.int (nI (0))] σ_36)
      have hc_28 : σ_36 279 = o11 G (upd F 7 (nI (1))) := hc_28
      have hc_37 : σ_36 0 = o10 G (nI (il)) (z2) (z3) := (hf_29 0 (by decide)).trans hc_6
      have hc_38 : σ_36 1 = q_an G 600 f := (hf_29 1 (by decide)).trans hc_7
      have hc_39 : σ_36 23 = o5 G (23) (nI (lo)) := (hf_29 23 (by decide)).trans hc_8
      have hc_40 : σ_36 24 = q_an G 256 o := (hf_29 24 (by decide)).trans hc_9
      have hc_41 : σ_36 224 = q_rn G 2 2 (fun j => some (243 + 18 * j)) := (hf_29 224 (by decide)).trans hc_10
      have hc_42 : σ_36 225 = q_bn G 2 kp := (hf_29 225 (by decide)).trans hc_11
      have hc_43 : σ_36 280 = q_an G 265 g := (hf_29 280 (by decide)).trans hc_13
      have hc_44 : σ_36 281 = q_an G 265 wk := (hf_29 281 (by decide)).trans hc_14
      have hc_45 : σ_36 282 = q_an G 265 as := (hf_29 282 (by decide)).trans hc_15
      have hc_46 : σ_36 283 = q_an G 530 sh := (hf_29 283 (by decide)).trans hc_16
      have hc_47 : σ_36 284 = q_an G 2120 a := (hf_29 284 (by decide)).trans hc_17
      have hc_48 : σ_36 285 = q_bn G 1681 fb := (hf_29 285 (by decide)).trans hc_18
      have hc_49 : σ_36 286 = q_an G 1681 nv := (hf_29 286 (by decide)).trans hc_19
      have hc_50 : σ_36 287 = q_an G 1681 ns := (hf_29 287 (by decide)).trans hc_20
      have hc_51 : σ_36 288 = q_an G 2000 mk := (hf_29 288 (by decide)).trans hc_21
      have hc_52 : σ_36 289 = q_an G 6724 va := (hf_29 289 (by decide)).trans hc_22
      have hc_53 : σ_36 290 = q_an G 6724 sp := (hf_29 290 (by decide)).trans hc_23
      have hc_54 : σ_36 291 = q_an G 80 lp := (hf_29 291 (by decide)).trans hc_24
      have hc_55 : σ_36 292 = q_an G 600 f := (hf_29 292 (by decide)).trans hc_25
      have hc_56 : σ_36 293 = q_an G 300 ou := (hf_29 293 (by decide)).trans hc_26
      have hc_57 : σ_36 295 = q_dn G 1 oD := (hf_29 295 (by decide)).trans hc_27
      have hc_58 : σ_36 294 = q_ln G 1 (va_up oL 0 ((nI (s_rule g r1C 19)).toInt64)) := (hf_29 294 (by decide)).trans hc_2
      exact (Mhno r1C (by omega) Chre).elim
    · skip
      refine (?_ : AJ G K Q (kc + 2) (ks + 12) false 296 2723 [some (.ref bS), some (.ref (q_h G + 0)), some (.ref (q_h G + 279)), some (.ref (q_h G + 294)), some (.ref (q_h G + 295)), some (.int (nI (i))), some (.int (nI (0))), none, none] [.int (nI (0))] σ_36)
      have hc_30 : σ_36 279 = o11 G (upd F 7 (nI (2))) := hc_30
      have hc_59 : σ_36 0 = o10 G (nI (il)) (z2) (z3) := (hf_31 0 (by decide)).trans hc_6
      have hc_60 : σ_36 1 = q_an G 600 f := (hf_31 1 (by decide)).trans hc_7
      have hc_61 : σ_36 23 = o5 G (23) (nI (lo)) := (hf_31 23 (by decide)).trans hc_8
      have hc_62 : σ_36 24 = q_an G 256 o := (hf_31 24 (by decide)).trans hc_9
      have hc_63 : σ_36 224 = q_rn G 2 2 (fun j => some (243 + 18 * j)) := (hf_31 224 (by decide)).trans hc_10
      have hc_64 : σ_36 225 = q_bn G 2 kp := (hf_31 225 (by decide)).trans hc_11
      have hc_65 : σ_36 280 = q_an G 265 g := (hf_31 280 (by decide)).trans hc_13
      have hc_66 : σ_36 281 = q_an G 265 wk := (hf_31 281 (by decide)).trans hc_14
      have hc_67 : σ_36 282 = q_an G 265 as := (hf_31 282 (by decide)).trans hc_15
      have hc_68 : σ_36 283 = q_an G 530 sh := (hf_31 283 (by decide)).trans hc_16
      have hc_69 : σ_36 284 = q_an G 2120 a := (hf_31 284 (by decide)).trans hc_17
      have hc_70 : σ_36 285 = q_bn G 1681 fb := (hf_31 285 (by decide)).trans hc_18
      have hc_71 : σ_36 286 = q_an G 1681 nv := (hf_31 286 (by decide)).trans hc_19
      have hc_72 : σ_36 287 = q_an G 1681 ns := (hf_31 287 (by decide)).trans hc_20
      have hc_73 : σ_36 288 = q_an G 2000 mk := (hf_31 288 (by decide)).trans hc_21
      have hc_74 : σ_36 289 = q_an G 6724 va := (hf_31 289 (by decide)).trans hc_22
      have hc_75 : σ_36 290 = q_an G 6724 sp := (hf_31 290 (by decide)).trans hc_23
      have hc_76 : σ_36 291 = q_an G 80 lp := (hf_31 291 (by decide)).trans hc_24
      have hc_77 : σ_36 292 = q_an G 600 f := (hf_31 292 (by decide)).trans hc_25
      have hc_78 : σ_36 293 = q_an G 300 ou := (hf_31 293 (by decide)).trans hc_26
      have hc_79 : σ_36 295 = q_dn G 1 oD := (hf_31 295 (by decide)).trans hc_27
      have hc_80 : σ_36 294 = q_ln G 1 (va_up oL 0 ((nI (s_rule g r1C 19)).toInt64)) := (hf_31 294 (by decide)).trans hc_2
      have e_r : r1C = r1M := q_nI_inj (by omega) (by omega) (Chre.symm.trans Mhre)
      subst e_r
      exact (Mhnw x1C (by omega) (by omega) Chxe).elim
    · skip
      refine (?_ : AJ G K Q (kc + 2) (ks + 12) false 296 2723 [some (.ref bS), some (.ref (q_h G + 0)), some (.ref (q_h G + 279)), some (.ref (q_h G + 294)), some (.ref (q_h G + 295)), some (.int (nI (i))), some (.int (nI (0))), none, none] [.int (nI (s_rule g r1M 19))] σ_36)
      have hc_32 : σ_36 279 = o11 G (upd (upd F 5 (nI (s_pmany m + 1))) 7 (nI (0))) := hc_32
      have hc_81 : σ_36 0 = o10 G (nI (il)) (z2) (z3) := (hf_35 0 (by decide)).trans hc_6
      have hc_82 : σ_36 1 = q_an G 600 f := (hf_35 1 (by decide)).trans hc_7
      have hc_83 : σ_36 23 = o5 G (23) (nI (lo)) := (hf_35 23 (by decide)).trans hc_8
      have hc_84 : σ_36 24 = q_an G 256 o := (hf_35 24 (by decide)).trans hc_9
      have hc_85 : σ_36 224 = q_rn G 2 2 (fun j => some (243 + 18 * j)) := (hf_35 224 (by decide)).trans hc_10
      have hc_86 : σ_36 225 = q_bn G 2 kp := (hf_35 225 (by decide)).trans hc_11
      have hc_87 : σ_36 281 = q_an G 265 wk := (hf_35 281 (by decide)).trans hc_14
      have hc_88 : σ_36 282 = q_an G 265 as := (hf_35 282 (by decide)).trans hc_15
      have hc_89 : σ_36 283 = q_an G 530 sh := (hf_35 283 (by decide)).trans hc_16
      have hc_90 : σ_36 285 = q_bn G 1681 fb := (hf_35 285 (by decide)).trans hc_18
      have hc_91 : σ_36 286 = q_an G 1681 nv := (hf_35 286 (by decide)).trans hc_19
      have hc_92 : σ_36 287 = q_an G 1681 ns := (hf_35 287 (by decide)).trans hc_20
      have hc_93 : σ_36 288 = q_an G 2000 mk := (hf_35 288 (by decide)).trans hc_21
      have hc_94 : σ_36 289 = q_an G 6724 va := (hf_35 289 (by decide)).trans hc_22
      have hc_95 : σ_36 290 = q_an G 6724 sp := (hf_35 290 (by decide)).trans hc_23
      have hc_96 : σ_36 291 = q_an G 80 lp := (hf_35 291 (by decide)).trans hc_24
      have hc_97 : σ_36 292 = q_an G 600 f := (hf_35 292 (by decide)).trans hc_25
      have hc_98 : σ_36 293 = q_an G 300 ou := (hf_35 293 (by decide)).trans hc_26
      have hc_99 : σ_36 295 = q_dn G 1 oD := (hf_35 295 (by decide)).trans hc_27
      have hc_100 : σ_36 294 = q_ln G 1 (va_up oL 0 ((nI (s_rule g r1C 19)).toInt64)) := (hf_35 294 (by decide)).trans hc_2
      have e_r : r1C = r1M := q_nI_inj (by omega) (by omega) (Chre.symm.trans Mhre)
      subst e_r
      have e_x : x1C = x1M := q_nI_inj (by omega) (by omega) (Chxe.symm.trans Mhxe)
      subst e_x
      refine A_istore hg dL_law_2723 (by decide) (q_c1d rfl) ?_
      refine A_eq (ls2 := [some (.ref bS), some (.ref (q_h G + 0)), some (.ref (q_h G + 279)), some (.ref (q_h G + 294)), some (.ref (q_h G + 295)), some (.int (nI (i))), some (.int (nI (0))), some (.int (nI (s_rule g r1C 19))), none]) (st2 := []) (pc2 := 0) rfl rfl ?_
      refine A_aload_n hg dL_law_2725 rfl rfl ?_
      refine A_eV (kc2 := kc + 2) (ks2 := ks + 12) (As := []) (rest := []) hg lk_RL_170 in_X11_thrown se_X11_thrown rfl dL_law_2726 ⟨by decide, by decide⟩ rfl rfl (hfK 2 12 (by decide) (by decide)) hc_32 (by omega) rfl rfl (Nat.le_of_ble_eq_true rfl) (c_X11_thrown G false 296 σ_36 (upd (upd F 5 (nI (s_pmany m + 1))) 7 (nI (0))) hc_32 (by omega)) ?_
      refine A_top (w := .int (nI (0))) (congrArg Value.int rfl) ?_
      refine A_iload hg dL_law_2729 rfl ?_
      refine A_icmp_eqN (tgt := 2736) hg dL_law_2731 (by decide) (by decide) (by decide) (fun c2731 => ?_) (fun c2731 => False.elim (by omega))
      refine A_iload hg dL_law_2736 rfl ?_
      refine A_if_neN (tgt := 2753) hg dL_law_2738 (by decide) (by decide) (fun c2738 => absurd (by decide) c2738) (fun c2738 => ?_)
      refine A_aload_n hg dL_law_2741 rfl rfl ?_
      refine A_iconst (v := (nI (0))) hg dL_law_2742 (by decide) ?_
      refine A_lald (j := 0) hg dL_law_2743 hc_100 (by omega) (by decide) (by decide) ?_
      refine A_top (w := .long ((nI (s_rule g r1C 19)).toInt64)) (congrArg Value.long iv_up0) ?_
      refine A_iload hg dL_law_2744 rfl ?_
      refine A_i2l (v := (nI (s_rule g r1C 19)).toInt64) hg dL_law_2746 rfl ?_
      refine A_lcmp hg dL_law_2747 ?_
      refine A_top (w := .int (nI 0)) (congrArg Value.int (lc_self _)) ?_
      refine A_if_eqN (tgt := 2753) hg dL_law_2748 (by decide) (by decide) (fun c2748 => ?_) (fun c2748 => absurd (by decide) c2748)
      refine A_goto (tgt := 3062) hg dL_law_2753 (by decide) ?_
      refine A_drop 6 ?_
      refine A_drop 7 ?_
      refine A_eq (ls2 := [some (.ref bS), some (.ref (q_h G + 0)), some (.ref (q_h G + 279)), some (.ref (q_h G + 294)), some (.ref (q_h G + 295)), some (.int (nI (i))), none, none, none]) (st2 := []) (pc2 := 0) rfl rfl ?_
      refine A_wide (kc2 := kc + 8) (ks2 := ks + 48) (by omega) (by omega) ?_
      exact hnxt _ (iv_mk il z2 z3 f lo o (s_rset g r1C 19 x1C) ((nx + 1) % 8) (min (m + 1) 8) (x_psh m ps g) kp sn (upd (upd F 5 (nI (s_pmany m + 1))) 7 (nI (0))) wk as sh aqM fb nv ns mk va sp lp mc z ss ou (va_up oL 0 ((nI (s_rule g r1C 19)).toInt64)) oD hc_81 hc_82 hc_83 hc_84 hc_85 hc_86 hc_32 hc_33 hc_87 hc_88 hc_89 hc_34 hc_90 hc_91 hc_92 hc_93 hc_94 hc_95 hc_96 hc_97 hc_98 hc_100 hc_99 (x_lj_e (fun i _ _ => ((hf_35 i (by omega)).trans (hf_3 i (by omega)))) hL) (x_gm_e (fun i _ _ => (hf_35 i (by omega))) ChG2) (x_mx_e (fun i _ _ => ((hf_35 i (by omega)).trans (hf_3 i (by omega)))) hM) (x_hi_e (fun i _ _ => (hf_35 i (by omega))) ChHi2) (x_oj_e (fun i _ _ => ((hf_35 i (by omega)).trans (hf_3 i (by omega)))) hO) (x_pj_e (fun i _ _ => ((hf_35 i (by omega)).trans (hf_3 i (by omega)))) hT) (iv_hn (fun i _ _ => ((hf_35 i (by omega)).trans (hf_3 i (by omega)))) hH) (iv_Sn (fun i _ _ => ((hf_35 i (by omega)).trans (hf_3 i (by omega)))) hSn) (iv_Kp (fun i _ _ => ((hf_35 i (by omega)).trans (hf_3 i (by omega)))) hKp) (by omega) hfb (by omega) hou (x_gbd_set hg9 Chrl (Or.inr rfl) hgd) (iv_push hm8 hgd hps Mhnew Mhold) hk1 hkss hss hsn (congrArg nI (iv_pm hm8)) hF6 hF12 hF16 hF21 hF22 hF23 hF33 (by omega) hmk hTI hlo)
  · skip
    rw [he_4]
    refine (?_ : AJ G K Q (kc + 2) (ks + 12) false 296 2705 [some (.ref bS), some (.ref (q_h G + 0)), some (.ref (q_h G + 279)), some (.ref (q_h G + 294)), some (.ref (q_h G + 295)), some (.int (nI (i))), none, none, none] [.int (nI (1))] σ)
    refine A_istore hg dL_law_2705 (by decide) (q_c1d rfl) ?_
    refine A_eq (ls2 := [some (.ref bS), some (.ref (q_h G + 0)), some (.ref (q_h G + 279)), some (.ref (q_h G + 294)), some (.ref (q_h G + 295)), some (.int (nI (i))), some (.int (nI (1))), none, none]) (st2 := []) (pc2 := 0) rfl rfl ?_
    refine A_aload_n hg dL_law_2707 rfl rfl ?_
    refine A_aload_n hg dL_law_2708 rfl rfl ?_
    refine A_iload hg dL_law_2709 rfl ?_
    refine A_iconst (v := (nI (1))) hg dL_law_2711 (by decide) ?_
    refine A_iaddN hg dL_law_2712 ?_
    refine A_sld hg hX (i + 1) (by omega) dL_law_2713 ?_
    refine A_aload_n hg dL_law_2714 rfl rfl ?_
    refine A_iload hg dL_law_2715 rfl ?_
    refine A_iconst (v := (nI (2))) hg dL_law_2717 (by decide) ?_
    refine A_iaddN hg dL_law_2718 ?_
    refine A_sld hg hX (i + 2) (by omega) dL_law_2719 ?_
    refine A_hV (kc2 := kc + 2) (ks2 := ks + 12) (As := [.int (xs (i + 1)), .int (xs (i + 2))]) (rest := []) hg lk_RL_278 in_X11_setMost se_X11_setMost rfl dL_law_2720 ⟨by decide, by decide⟩ rfl rfl (hfK 2 12 (by decide) (by decide)) hv6 (by omega) rfl rfl (Nat.le_of_ble_eq_true rfl) (c_X11_setMost G false 296 σ F g a m (xs (i + 1)) (xs (i + 2)) hv6 hv7 hv11 (by omega) hg9 hF5 (by omega)) ?_
    rintro _ σ_109 (⟨rfl, Mhno, hc_101, hf_102⟩ | ⟨r1M, rfl, Mhre, Mhrl, Mhnw, hc_103, hf_104⟩ | ⟨r1M, x1M, aqM, rfl, Mhre, Mhrl, Mhxe, Mhxa, Mhxl, Mhnew, Mhold, hc_105, hc_106, hc_107, hf_108⟩)
    · skip
      refine (?_ : AJ G K Q (kc + 2) (ks + 12) false 296 2723 [some (.ref bS), some (.ref (q_h G + 0)), some (.ref (q_h G + 279)), some (.ref (q_h G + 294)), some (.ref (q_h G + 295)), some (.int (nI (i))), some (.int (nI (1))), none, none] [.int (nI (0))] σ_109)
      have hc_101 : σ_109 279 = o11 G (upd F 7 (nI (1))) := hc_101
      have hc_110 : σ_109 0 = o10 G (nI (il)) (z2) (z3) := (hf_102 0 (by decide)).trans hv0
      have hc_111 : σ_109 1 = q_an G 600 f := (hf_102 1 (by decide)).trans hv1
      have hc_112 : σ_109 23 = o5 G (23) (nI (lo)) := (hf_102 23 (by decide)).trans hv2
      have hc_113 : σ_109 24 = q_an G 256 o := (hf_102 24 (by decide)).trans hv3
      have hc_114 : σ_109 224 = q_rn G 2 2 (fun j => some (243 + 18 * j)) := (hf_102 224 (by decide)).trans hv4
      have hc_115 : σ_109 225 = q_bn G 2 kp := (hf_102 225 (by decide)).trans hv5
      have hc_116 : σ_109 280 = q_an G 265 g := (hf_102 280 (by decide)).trans hv7
      have hc_117 : σ_109 281 = q_an G 265 wk := (hf_102 281 (by decide)).trans hv8
      have hc_118 : σ_109 282 = q_an G 265 as := (hf_102 282 (by decide)).trans hv9
      have hc_119 : σ_109 283 = q_an G 530 sh := (hf_102 283 (by decide)).trans hv10
      have hc_120 : σ_109 284 = q_an G 2120 a := (hf_102 284 (by decide)).trans hv11
      have hc_121 : σ_109 285 = q_bn G 1681 fb := (hf_102 285 (by decide)).trans hv12
      have hc_122 : σ_109 286 = q_an G 1681 nv := (hf_102 286 (by decide)).trans hv13
      have hc_123 : σ_109 287 = q_an G 1681 ns := (hf_102 287 (by decide)).trans hv14
      have hc_124 : σ_109 288 = q_an G 2000 mk := (hf_102 288 (by decide)).trans hv15
      have hc_125 : σ_109 289 = q_an G 6724 va := (hf_102 289 (by decide)).trans hv16
      have hc_126 : σ_109 290 = q_an G 6724 sp := (hf_102 290 (by decide)).trans hv17
      have hc_127 : σ_109 291 = q_an G 80 lp := (hf_102 291 (by decide)).trans hv18
      have hc_128 : σ_109 292 = q_an G 600 f := (hf_102 292 (by decide)).trans hv19
      have hc_129 : σ_109 293 = q_an G 300 ou := (hf_102 293 (by decide)).trans hv20
      have hc_130 : σ_109 294 = q_ln G 1 oL := (hf_102 294 (by decide)).trans hv21
      have hc_131 : σ_109 295 = q_dn G 1 oD := (hf_102 295 (by decide)).trans hv22
      refine A_istore hg dL_law_2723 (by decide) (q_c1d rfl) ?_
      refine A_eq (ls2 := [some (.ref bS), some (.ref (q_h G + 0)), some (.ref (q_h G + 279)), some (.ref (q_h G + 294)), some (.ref (q_h G + 295)), some (.int (nI (i))), some (.int (nI (1))), some (.int (nI (0))), none]) (st2 := []) (pc2 := 0) rfl rfl ?_
      refine A_aload_n hg dL_law_2725 rfl rfl ?_
      refine A_eV (kc2 := kc + 2) (ks2 := ks + 12) (As := []) (rest := []) hg lk_RL_170 in_X11_thrown se_X11_thrown rfl dL_law_2726 ⟨by decide, by decide⟩ rfl rfl (hfK 2 12 (by decide) (by decide)) hc_101 (by omega) rfl rfl (Nat.le_of_ble_eq_true rfl) (c_X11_thrown G false 296 σ_109 (upd F 7 (nI (1))) hc_101 (by omega)) ?_
      refine A_top (w := .int (nI (1))) (congrArg Value.int rfl) ?_
      refine A_iload hg dL_law_2729 rfl ?_
      refine A_icmp_eqN (tgt := 2736) hg dL_law_2731 (by decide) (by decide) (by decide) (fun c2731 => ?_) (fun c2731 => False.elim (by omega))
      refine A_iload hg dL_law_2736 rfl ?_
      refine A_if_neN (tgt := 2753) hg dL_law_2738 (by decide) (by decide) (fun c2738 => ?_) (fun c2738 => absurd c2738 (by decide))
      refine A_goto (tgt := 3062) hg dL_law_2753 (by decide) ?_
      refine A_drop 6 ?_
      refine A_drop 7 ?_
      refine A_eq (ls2 := [some (.ref bS), some (.ref (q_h G + 0)), some (.ref (q_h G + 279)), some (.ref (q_h G + 294)), some (.ref (q_h G + 295)), some (.int (nI (i))), none, none, none]) (st2 := []) (pc2 := 0) rfl rfl ?_
      refine A_wide (kc2 := kc + 8) (ks2 := ks + 48) (by omega) (by omega) ?_
      exact hnxt _ (iv_mk il z2 z3 f lo o g nx m ps kp sn (upd F 7 (nI (1))) wk as sh a fb nv ns mk va sp lp mc z ss ou oL oD hc_110 hc_111 hc_112 hc_113 hc_114 hc_115 hc_101 hc_116 hc_117 hc_118 hc_119 hc_120 hc_121 hc_122 hc_123 hc_124 hc_125 hc_126 hc_127 hc_128 hc_129 hc_130 hc_131 (x_lj_e (fun i _ _ => (hf_102 i (by omega))) hL) (x_gm_e (fun i _ _ => (hf_102 i (by omega))) hG) (x_mx_e (fun i _ _ => (hf_102 i (by omega))) hM) (x_hi_e (fun i _ _ => (hf_102 i (by omega))) hHi) (x_oj_e (fun i _ _ => (hf_102 i (by omega))) hO) (x_pj_e (fun i _ _ => (hf_102 i (by omega))) hT) (iv_hn (fun i _ _ => (hf_102 i (by omega))) hH) (iv_Sn (fun i _ _ => (hf_102 i (by omega))) hSn) (iv_Kp (fun i _ _ => (hf_102 i (by omega))) hKp) (by omega) hfb (by omega) hou hgd hps hk1 hkss hss hsn hF5 hF6 hF12 hF16 hF21 hF22 hF23 hF33 (by omega) hmk hTI hlo)
    · skip
      refine (?_ : AJ G K Q (kc + 2) (ks + 12) false 296 2723 [some (.ref bS), some (.ref (q_h G + 0)), some (.ref (q_h G + 279)), some (.ref (q_h G + 294)), some (.ref (q_h G + 295)), some (.int (nI (i))), some (.int (nI (1))), none, none] [.int (nI (0))] σ_109)
      have hc_103 : σ_109 279 = o11 G (upd F 7 (nI (2))) := hc_103
      have hc_132 : σ_109 0 = o10 G (nI (il)) (z2) (z3) := (hf_104 0 (by decide)).trans hv0
      have hc_133 : σ_109 1 = q_an G 600 f := (hf_104 1 (by decide)).trans hv1
      have hc_134 : σ_109 23 = o5 G (23) (nI (lo)) := (hf_104 23 (by decide)).trans hv2
      have hc_135 : σ_109 24 = q_an G 256 o := (hf_104 24 (by decide)).trans hv3
      have hc_136 : σ_109 224 = q_rn G 2 2 (fun j => some (243 + 18 * j)) := (hf_104 224 (by decide)).trans hv4
      have hc_137 : σ_109 225 = q_bn G 2 kp := (hf_104 225 (by decide)).trans hv5
      have hc_138 : σ_109 280 = q_an G 265 g := (hf_104 280 (by decide)).trans hv7
      have hc_139 : σ_109 281 = q_an G 265 wk := (hf_104 281 (by decide)).trans hv8
      have hc_140 : σ_109 282 = q_an G 265 as := (hf_104 282 (by decide)).trans hv9
      have hc_141 : σ_109 283 = q_an G 530 sh := (hf_104 283 (by decide)).trans hv10
      have hc_142 : σ_109 284 = q_an G 2120 a := (hf_104 284 (by decide)).trans hv11
      have hc_143 : σ_109 285 = q_bn G 1681 fb := (hf_104 285 (by decide)).trans hv12
      have hc_144 : σ_109 286 = q_an G 1681 nv := (hf_104 286 (by decide)).trans hv13
      have hc_145 : σ_109 287 = q_an G 1681 ns := (hf_104 287 (by decide)).trans hv14
      have hc_146 : σ_109 288 = q_an G 2000 mk := (hf_104 288 (by decide)).trans hv15
      have hc_147 : σ_109 289 = q_an G 6724 va := (hf_104 289 (by decide)).trans hv16
      have hc_148 : σ_109 290 = q_an G 6724 sp := (hf_104 290 (by decide)).trans hv17
      have hc_149 : σ_109 291 = q_an G 80 lp := (hf_104 291 (by decide)).trans hv18
      have hc_150 : σ_109 292 = q_an G 600 f := (hf_104 292 (by decide)).trans hv19
      have hc_151 : σ_109 293 = q_an G 300 ou := (hf_104 293 (by decide)).trans hv20
      have hc_152 : σ_109 294 = q_ln G 1 oL := (hf_104 294 (by decide)).trans hv21
      have hc_153 : σ_109 295 = q_dn G 1 oD := (hf_104 295 (by decide)).trans hv22
      exact (Chxx r1M (by omega) Mhre).elim
    · skip
      refine (?_ : AJ G K Q (kc + 2) (ks + 12) false 296 2723 [some (.ref bS), some (.ref (q_h G + 0)), some (.ref (q_h G + 279)), some (.ref (q_h G + 294)), some (.ref (q_h G + 295)), some (.int (nI (i))), some (.int (nI (1))), none, none] [.int (nI (s_rule g r1M 19))] σ_109)
      have hc_105 : σ_109 279 = o11 G (upd (upd F 5 (nI (s_pmany m + 1))) 7 (nI (0))) := hc_105
      have hc_154 : σ_109 0 = o10 G (nI (il)) (z2) (z3) := (hf_108 0 (by decide)).trans hv0
      have hc_155 : σ_109 1 = q_an G 600 f := (hf_108 1 (by decide)).trans hv1
      have hc_156 : σ_109 23 = o5 G (23) (nI (lo)) := (hf_108 23 (by decide)).trans hv2
      have hc_157 : σ_109 24 = q_an G 256 o := (hf_108 24 (by decide)).trans hv3
      have hc_158 : σ_109 224 = q_rn G 2 2 (fun j => some (243 + 18 * j)) := (hf_108 224 (by decide)).trans hv4
      have hc_159 : σ_109 225 = q_bn G 2 kp := (hf_108 225 (by decide)).trans hv5
      have hc_160 : σ_109 281 = q_an G 265 wk := (hf_108 281 (by decide)).trans hv8
      have hc_161 : σ_109 282 = q_an G 265 as := (hf_108 282 (by decide)).trans hv9
      have hc_162 : σ_109 283 = q_an G 530 sh := (hf_108 283 (by decide)).trans hv10
      have hc_163 : σ_109 285 = q_bn G 1681 fb := (hf_108 285 (by decide)).trans hv12
      have hc_164 : σ_109 286 = q_an G 1681 nv := (hf_108 286 (by decide)).trans hv13
      have hc_165 : σ_109 287 = q_an G 1681 ns := (hf_108 287 (by decide)).trans hv14
      have hc_166 : σ_109 288 = q_an G 2000 mk := (hf_108 288 (by decide)).trans hv15
      have hc_167 : σ_109 289 = q_an G 6724 va := (hf_108 289 (by decide)).trans hv16
      have hc_168 : σ_109 290 = q_an G 6724 sp := (hf_108 290 (by decide)).trans hv17
      have hc_169 : σ_109 291 = q_an G 80 lp := (hf_108 291 (by decide)).trans hv18
      have hc_170 : σ_109 292 = q_an G 600 f := (hf_108 292 (by decide)).trans hv19
      have hc_171 : σ_109 293 = q_an G 300 ou := (hf_108 293 (by decide)).trans hv20
      have hc_172 : σ_109 294 = q_ln G 1 oL := (hf_108 294 (by decide)).trans hv21
      have hc_173 : σ_109 295 = q_dn G 1 oD := (hf_108 295 (by decide)).trans hv22
      exact (Chxx r1M (by omega) Mhre).elim
  · skip
    rw [he_5]
    refine (?_ : AJ G K Q (kc + 2) (ks + 12) false 296 2705 [some (.ref bS), some (.ref (q_h G + 0)), some (.ref (q_h G + 279)), some (.ref (q_h G + 294)), some (.ref (q_h G + 295)), some (.int (nI (i))), none, none, none] [.int (nI (2))] σ)
    obtain ⟨r1C, Chx0, Chx1, Chx2⟩ := Chxx
    refine A_istore hg dL_law_2705 (by decide) (q_c1d rfl) ?_
    refine A_eq (ls2 := [some (.ref bS), some (.ref (q_h G + 0)), some (.ref (q_h G + 279)), some (.ref (q_h G + 294)), some (.ref (q_h G + 295)), some (.int (nI (i))), some (.int (nI (2))), none, none]) (st2 := []) (pc2 := 0) rfl rfl ?_
    refine A_aload_n hg dL_law_2707 rfl rfl ?_
    refine A_aload_n hg dL_law_2708 rfl rfl ?_
    refine A_iload hg dL_law_2709 rfl ?_
    refine A_iconst (v := (nI (1))) hg dL_law_2711 (by decide) ?_
    refine A_iaddN hg dL_law_2712 ?_
    refine A_sld hg hX (i + 1) (by omega) dL_law_2713 ?_
    refine A_aload_n hg dL_law_2714 rfl rfl ?_
    refine A_iload hg dL_law_2715 rfl ?_
    refine A_iconst (v := (nI (2))) hg dL_law_2717 (by decide) ?_
    refine A_iaddN hg dL_law_2718 ?_
    refine A_sld hg hX (i + 2) (by omega) dL_law_2719 ?_
    refine A_hV (kc2 := kc + 2) (ks2 := ks + 12) (As := [.int (xs (i + 1)), .int (xs (i + 2))]) (rest := []) hg lk_RL_278 in_X11_setMost se_X11_setMost rfl dL_law_2720 ⟨by decide, by decide⟩ rfl rfl (hfK 2 12 (by decide) (by decide)) hv6 (by omega) rfl rfl (Nat.le_of_ble_eq_true rfl) (c_X11_setMost G false 296 σ F g a m (xs (i + 1)) (xs (i + 2)) hv6 hv7 hv11 (by omega) hg9 hF5 (by omega)) ?_
    rintro _ σ_182 (⟨rfl, Mhno, hc_174, hf_175⟩ | ⟨r1M, rfl, Mhre, Mhrl, Mhnw, hc_176, hf_177⟩ | ⟨r1M, x1M, aqM, rfl, Mhre, Mhrl, Mhxe, Mhxa, Mhxl, Mhnew, Mhold, hc_178, hc_179, hc_180, hf_181⟩)
    · skip
      refine (?_ : AJ G K Q (kc + 2) (ks + 12) false 296 2723 [some (.ref bS), some (.ref (q_h G + 0)), some (.ref (q_h G + 279)), some (.ref (q_h G + 294)), some (.ref (q_h G + 295)), some (.int (nI (i))), some (.int (nI (2))), none, none] [.int (nI (0))] σ_182)
      have hc_174 : σ_182 279 = o11 G (upd F 7 (nI (1))) := hc_174
      have hc_183 : σ_182 0 = o10 G (nI (il)) (z2) (z3) := (hf_175 0 (by decide)).trans hv0
      have hc_184 : σ_182 1 = q_an G 600 f := (hf_175 1 (by decide)).trans hv1
      have hc_185 : σ_182 23 = o5 G (23) (nI (lo)) := (hf_175 23 (by decide)).trans hv2
      have hc_186 : σ_182 24 = q_an G 256 o := (hf_175 24 (by decide)).trans hv3
      have hc_187 : σ_182 224 = q_rn G 2 2 (fun j => some (243 + 18 * j)) := (hf_175 224 (by decide)).trans hv4
      have hc_188 : σ_182 225 = q_bn G 2 kp := (hf_175 225 (by decide)).trans hv5
      have hc_189 : σ_182 280 = q_an G 265 g := (hf_175 280 (by decide)).trans hv7
      have hc_190 : σ_182 281 = q_an G 265 wk := (hf_175 281 (by decide)).trans hv8
      have hc_191 : σ_182 282 = q_an G 265 as := (hf_175 282 (by decide)).trans hv9
      have hc_192 : σ_182 283 = q_an G 530 sh := (hf_175 283 (by decide)).trans hv10
      have hc_193 : σ_182 284 = q_an G 2120 a := (hf_175 284 (by decide)).trans hv11
      have hc_194 : σ_182 285 = q_bn G 1681 fb := (hf_175 285 (by decide)).trans hv12
      have hc_195 : σ_182 286 = q_an G 1681 nv := (hf_175 286 (by decide)).trans hv13
      have hc_196 : σ_182 287 = q_an G 1681 ns := (hf_175 287 (by decide)).trans hv14
      have hc_197 : σ_182 288 = q_an G 2000 mk := (hf_175 288 (by decide)).trans hv15
      have hc_198 : σ_182 289 = q_an G 6724 va := (hf_175 289 (by decide)).trans hv16
      have hc_199 : σ_182 290 = q_an G 6724 sp := (hf_175 290 (by decide)).trans hv17
      have hc_200 : σ_182 291 = q_an G 80 lp := (hf_175 291 (by decide)).trans hv18
      have hc_201 : σ_182 292 = q_an G 600 f := (hf_175 292 (by decide)).trans hv19
      have hc_202 : σ_182 293 = q_an G 300 ou := (hf_175 293 (by decide)).trans hv20
      have hc_203 : σ_182 294 = q_ln G 1 oL := (hf_175 294 (by decide)).trans hv21
      have hc_204 : σ_182 295 = q_dn G 1 oD := (hf_175 295 (by decide)).trans hv22
      exact (Mhno r1C (by omega) Chx0).elim
    · skip
      refine (?_ : AJ G K Q (kc + 2) (ks + 12) false 296 2723 [some (.ref bS), some (.ref (q_h G + 0)), some (.ref (q_h G + 279)), some (.ref (q_h G + 294)), some (.ref (q_h G + 295)), some (.int (nI (i))), some (.int (nI (2))), none, none] [.int (nI (0))] σ_182)
      have hc_176 : σ_182 279 = o11 G (upd F 7 (nI (2))) := hc_176
      have hc_205 : σ_182 0 = o10 G (nI (il)) (z2) (z3) := (hf_177 0 (by decide)).trans hv0
      have hc_206 : σ_182 1 = q_an G 600 f := (hf_177 1 (by decide)).trans hv1
      have hc_207 : σ_182 23 = o5 G (23) (nI (lo)) := (hf_177 23 (by decide)).trans hv2
      have hc_208 : σ_182 24 = q_an G 256 o := (hf_177 24 (by decide)).trans hv3
      have hc_209 : σ_182 224 = q_rn G 2 2 (fun j => some (243 + 18 * j)) := (hf_177 224 (by decide)).trans hv4
      have hc_210 : σ_182 225 = q_bn G 2 kp := (hf_177 225 (by decide)).trans hv5
      have hc_211 : σ_182 280 = q_an G 265 g := (hf_177 280 (by decide)).trans hv7
      have hc_212 : σ_182 281 = q_an G 265 wk := (hf_177 281 (by decide)).trans hv8
      have hc_213 : σ_182 282 = q_an G 265 as := (hf_177 282 (by decide)).trans hv9
      have hc_214 : σ_182 283 = q_an G 530 sh := (hf_177 283 (by decide)).trans hv10
      have hc_215 : σ_182 284 = q_an G 2120 a := (hf_177 284 (by decide)).trans hv11
      have hc_216 : σ_182 285 = q_bn G 1681 fb := (hf_177 285 (by decide)).trans hv12
      have hc_217 : σ_182 286 = q_an G 1681 nv := (hf_177 286 (by decide)).trans hv13
      have hc_218 : σ_182 287 = q_an G 1681 ns := (hf_177 287 (by decide)).trans hv14
      have hc_219 : σ_182 288 = q_an G 2000 mk := (hf_177 288 (by decide)).trans hv15
      have hc_220 : σ_182 289 = q_an G 6724 va := (hf_177 289 (by decide)).trans hv16
      have hc_221 : σ_182 290 = q_an G 6724 sp := (hf_177 290 (by decide)).trans hv17
      have hc_222 : σ_182 291 = q_an G 80 lp := (hf_177 291 (by decide)).trans hv18
      have hc_223 : σ_182 292 = q_an G 600 f := (hf_177 292 (by decide)).trans hv19
      have hc_224 : σ_182 293 = q_an G 300 ou := (hf_177 293 (by decide)).trans hv20
      have hc_225 : σ_182 294 = q_ln G 1 oL := (hf_177 294 (by decide)).trans hv21
      have hc_226 : σ_182 295 = q_dn G 1 oD := (hf_177 295 (by decide)).trans hv22
      have e_r : r1C = r1M := q_nI_inj (by omega) (by omega) (Chx0.symm.trans Mhre)
      subst e_r
      refine A_istore hg dL_law_2723 (by decide) (q_c1d rfl) ?_
      refine A_eq (ls2 := [some (.ref bS), some (.ref (q_h G + 0)), some (.ref (q_h G + 279)), some (.ref (q_h G + 294)), some (.ref (q_h G + 295)), some (.int (nI (i))), some (.int (nI (2))), some (.int (nI (0))), none]) (st2 := []) (pc2 := 0) rfl rfl ?_
      refine A_aload_n hg dL_law_2725 rfl rfl ?_
      refine A_eV (kc2 := kc + 2) (ks2 := ks + 12) (As := []) (rest := []) hg lk_RL_170 in_X11_thrown se_X11_thrown rfl dL_law_2726 ⟨by decide, by decide⟩ rfl rfl (hfK 2 12 (by decide) (by decide)) hc_176 (by omega) rfl rfl (Nat.le_of_ble_eq_true rfl) (c_X11_thrown G false 296 σ_182 (upd F 7 (nI (2))) hc_176 (by omega)) ?_
      refine A_top (w := .int (nI (2))) (congrArg Value.int rfl) ?_
      refine A_iload hg dL_law_2729 rfl ?_
      refine A_icmp_eqN (tgt := 2736) hg dL_law_2731 (by decide) (by decide) (by decide) (fun c2731 => ?_) (fun c2731 => False.elim (by omega))
      refine A_iload hg dL_law_2736 rfl ?_
      refine A_if_neN (tgt := 2753) hg dL_law_2738 (by decide) (by decide) (fun c2738 => ?_) (fun c2738 => absurd c2738 (by decide))
      refine A_goto (tgt := 3062) hg dL_law_2753 (by decide) ?_
      refine A_drop 6 ?_
      refine A_drop 7 ?_
      refine A_eq (ls2 := [some (.ref bS), some (.ref (q_h G + 0)), some (.ref (q_h G + 279)), some (.ref (q_h G + 294)), some (.ref (q_h G + 295)), some (.int (nI (i))), none, none, none]) (st2 := []) (pc2 := 0) rfl rfl ?_
      refine A_wide (kc2 := kc + 8) (ks2 := ks + 48) (by omega) (by omega) ?_
      exact hnxt _ (iv_mk il z2 z3 f lo o g nx m ps kp sn (upd F 7 (nI (2))) wk as sh a fb nv ns mk va sp lp mc z ss ou oL oD hc_205 hc_206 hc_207 hc_208 hc_209 hc_210 hc_176 hc_211 hc_212 hc_213 hc_214 hc_215 hc_216 hc_217 hc_218 hc_219 hc_220 hc_221 hc_222 hc_223 hc_224 hc_225 hc_226 (x_lj_e (fun i _ _ => (hf_177 i (by omega))) hL) (x_gm_e (fun i _ _ => (hf_177 i (by omega))) hG) (x_mx_e (fun i _ _ => (hf_177 i (by omega))) hM) (x_hi_e (fun i _ _ => (hf_177 i (by omega))) hHi) (x_oj_e (fun i _ _ => (hf_177 i (by omega))) hO) (x_pj_e (fun i _ _ => (hf_177 i (by omega))) hT) (iv_hn (fun i _ _ => (hf_177 i (by omega))) hH) (iv_Sn (fun i _ _ => (hf_177 i (by omega))) hSn) (iv_Kp (fun i _ _ => (hf_177 i (by omega))) hKp) (by omega) hfb (by omega) hou hgd hps hk1 hkss hss hsn hF5 hF6 hF12 hF16 hF21 hF22 hF23 hF33 (by omega) hmk hTI hlo)
    · skip
      refine (?_ : AJ G K Q (kc + 2) (ks + 12) false 296 2723 [some (.ref bS), some (.ref (q_h G + 0)), some (.ref (q_h G + 279)), some (.ref (q_h G + 294)), some (.ref (q_h G + 295)), some (.int (nI (i))), some (.int (nI (2))), none, none] [.int (nI (s_rule g r1M 19))] σ_182)
      have hc_178 : σ_182 279 = o11 G (upd (upd F 5 (nI (s_pmany m + 1))) 7 (nI (0))) := hc_178
      have hc_227 : σ_182 0 = o10 G (nI (il)) (z2) (z3) := (hf_181 0 (by decide)).trans hv0
      have hc_228 : σ_182 1 = q_an G 600 f := (hf_181 1 (by decide)).trans hv1
      have hc_229 : σ_182 23 = o5 G (23) (nI (lo)) := (hf_181 23 (by decide)).trans hv2
      have hc_230 : σ_182 24 = q_an G 256 o := (hf_181 24 (by decide)).trans hv3
      have hc_231 : σ_182 224 = q_rn G 2 2 (fun j => some (243 + 18 * j)) := (hf_181 224 (by decide)).trans hv4
      have hc_232 : σ_182 225 = q_bn G 2 kp := (hf_181 225 (by decide)).trans hv5
      have hc_233 : σ_182 281 = q_an G 265 wk := (hf_181 281 (by decide)).trans hv8
      have hc_234 : σ_182 282 = q_an G 265 as := (hf_181 282 (by decide)).trans hv9
      have hc_235 : σ_182 283 = q_an G 530 sh := (hf_181 283 (by decide)).trans hv10
      have hc_236 : σ_182 285 = q_bn G 1681 fb := (hf_181 285 (by decide)).trans hv12
      have hc_237 : σ_182 286 = q_an G 1681 nv := (hf_181 286 (by decide)).trans hv13
      have hc_238 : σ_182 287 = q_an G 1681 ns := (hf_181 287 (by decide)).trans hv14
      have hc_239 : σ_182 288 = q_an G 2000 mk := (hf_181 288 (by decide)).trans hv15
      have hc_240 : σ_182 289 = q_an G 6724 va := (hf_181 289 (by decide)).trans hv16
      have hc_241 : σ_182 290 = q_an G 6724 sp := (hf_181 290 (by decide)).trans hv17
      have hc_242 : σ_182 291 = q_an G 80 lp := (hf_181 291 (by decide)).trans hv18
      have hc_243 : σ_182 292 = q_an G 600 f := (hf_181 292 (by decide)).trans hv19
      have hc_244 : σ_182 293 = q_an G 300 ou := (hf_181 293 (by decide)).trans hv20
      have hc_245 : σ_182 294 = q_ln G 1 oL := (hf_181 294 (by decide)).trans hv21
      have hc_246 : σ_182 295 = q_dn G 1 oD := (hf_181 295 (by decide)).trans hv22
      have e_r : r1C = r1M := q_nI_inj (by omega) (by omega) (Chx0.symm.trans Mhre)
      subst e_r
      exact (Chx2 x1M (by omega) (by omega) Mhxe).elim
set_option maxRecDepth 100000 in
set_option maxHeartbeats 4000000 in
theorem law_c39 (G : GL) (K : KC) (Q : State → Prop) (hh : List (Nat × Nat × Nat × Nat)) (hg : Gd G K RL code 9 ret room_1 hh) (bS L : Nat) (xs : Nat → Int32) (hX : q_scr G K bS L xs) (i kc ks J : Nat) (hi : i + 5 < L) (hL31 : L < 2 ^ 31) (hkc : kc + 8 ≤ 601024) (hks : ks + 48 ≤ 7293034) (σ : Nat → va_E) (hI : iv G σ J) (hJ : J < 512) (hfd : q_fdn) (hdd : q_ddn) (hf2 : q_f2n) (hds : q_dcs) (hnxt : ∀ σ9 : Nat → va_E, iv G σ9 (J + 1) → AJ G K Q (kc + 8) (ks + 48) false 296 3062 [some (.ref bS), some (.ref (q_h G + 0)), some (.ref (q_h G + 279)), some (.ref (q_h G + 294)), some (.ref (q_h G + 295)), some (.int (nI (i))), none, none, none] [] σ9) : AJ G K Q kc ks false 296 2756 [some (.ref bS), some (.ref (q_h G + 0)), some (.ref (q_h G + 279)), some (.ref (q_h G + 294)), some (.ref (q_h G + 295)), some (.int (nI (i))), none, none, none] [] σ := by
  refine iv_el hI ?_
  intro il z2 z3 f lo o g nx m ps kp sn F wk as sh a fb nv ns mk va sp lp mc z ss ou oL oD
  intro hv0 hv1 hv2 hv3 hv4 hv5 hv6 hv7 hv8 hv9 hv10 hv11 hv12 hv13 hv14 hv15 hv16 hv17 hv18 hv19 hv20 hv21 hv22
  intro hL hG hM hHi hO hT hH hSn hKp
  intro hil hfb hlo2 hou hgd hps hk1 hkss hss hsn hF5 hF6 hF12 hF16 hF21 hF22 hF23 hF33 hmc hmk hTI hlo
  have hfK : ∀ a b : Nat, a ≤ 8 → b ≤ 48 → kc + a ≤ room_1.cells ∧ ks + b ≤ room_1.slots := fun a b h1 h2 => ⟨by show kc + a ≤ 601024; omega, by show ks + b ≤ 7293034; omega⟩
  have hg9 := iv_g hG
  obtain ⟨hnx8, hm8, hc78⟩ := iv_hi hHi
  have hbb := iv_byte (m := il) hfb
  have hg90 := hg9.1
  have hg96 := hg9.2.2.2.2.1
  have hnp8 := s_np_le hg9
  refine A_aload_n hg dL_law_2756 rfl rfl ?_
  refine A_aload_n hg dL_law_2757 rfl rfl ?_
  refine A_iload hg dL_law_2758 rfl ?_
  refine A_iconst (v := (nI (1))) hg dL_law_2760 (by decide) ?_
  refine A_iaddN hg dL_law_2761 ?_
  refine A_sld hg hX (i + 1) (by omega) dL_law_2762 ?_
  refine A_aload_n hg dL_law_2763 rfl rfl ?_
  refine A_callSH (As := [.ref (q_h G + 0), .int (xs (i + 1)), .ref (q_h G + 294)]) (rest := []) hg lkH_279 stH_L_again dL_law_2764 ⟨by decide, by decide⟩ (hfK 1 6 (by decide) (by decide)) rfl rfl (Nat.le_of_ble_eq_true rfl) (c_L_again G 296 σ (nI (il)) z2 z3 g nx m ps (xs (i + 1)) oL hv0 hv21 (by omega) hG hM hHi (by omega)) ?_
  rintro _ σ_1 (⟨p1C, rfl, Chpe, Chpl, ChG2, ChHi2, ChM2, hc_2, hf_3⟩ | ⟨rfl, Chxx, he_4⟩)
  · skip
    refine (?_ : AJ G K Q (kc + 1) (ks + 6) false 296 2767 [some (.ref bS), some (.ref (q_h G + 0)), some (.ref (q_h G + 279)), some (.ref (q_h G + 294)), some (.ref (q_h G + 295)), some (.int (nI (i))), none, none, none] [.int (nI (0))] σ_1)
    have hc_5 : σ_1 0 = o10 G (nI (il)) (z2) (z3) := (hf_3 0 (by decide)).trans hv0
    have hc_6 : σ_1 1 = q_an G 600 f := (hf_3 1 (by decide)).trans hv1
    have hc_7 : σ_1 23 = o5 G (23) (nI (lo)) := (hf_3 23 (by decide)).trans hv2
    have hc_8 : σ_1 24 = q_an G 256 o := (hf_3 24 (by decide)).trans hv3
    have hc_9 : σ_1 224 = q_rn G 2 2 (fun j => some (243 + 18 * j)) := (hf_3 224 (by decide)).trans hv4
    have hc_10 : σ_1 225 = q_bn G 2 kp := (hf_3 225 (by decide)).trans hv5
    have hc_11 : σ_1 279 = o11 G F := (hf_3 279 (by decide)).trans hv6
    have hc_12 : σ_1 280 = q_an G 265 g := (hf_3 280 (by decide)).trans hv7
    have hc_13 : σ_1 281 = q_an G 265 wk := (hf_3 281 (by decide)).trans hv8
    have hc_14 : σ_1 282 = q_an G 265 as := (hf_3 282 (by decide)).trans hv9
    have hc_15 : σ_1 283 = q_an G 530 sh := (hf_3 283 (by decide)).trans hv10
    have hc_16 : σ_1 284 = q_an G 2120 a := (hf_3 284 (by decide)).trans hv11
    have hc_17 : σ_1 285 = q_bn G 1681 fb := (hf_3 285 (by decide)).trans hv12
    have hc_18 : σ_1 286 = q_an G 1681 nv := (hf_3 286 (by decide)).trans hv13
    have hc_19 : σ_1 287 = q_an G 1681 ns := (hf_3 287 (by decide)).trans hv14
    have hc_20 : σ_1 288 = q_an G 2000 mk := (hf_3 288 (by decide)).trans hv15
    have hc_21 : σ_1 289 = q_an G 6724 va := (hf_3 289 (by decide)).trans hv16
    have hc_22 : σ_1 290 = q_an G 6724 sp := (hf_3 290 (by decide)).trans hv17
    have hc_23 : σ_1 291 = q_an G 80 lp := (hf_3 291 (by decide)).trans hv18
    have hc_24 : σ_1 292 = q_an G 600 f := (hf_3 292 (by decide)).trans hv19
    have hc_25 : σ_1 293 = q_an G 300 ou := (hf_3 293 (by decide)).trans hv20
    have hc_26 : σ_1 295 = q_dn G 1 oD := (hf_3 295 (by decide)).trans hv22
    refine A_istore hg dL_law_2767 (by decide) (q_c1d rfl) ?_
    refine A_eq (ls2 := [some (.ref bS), some (.ref (q_h G + 0)), some (.ref (q_h G + 279)), some (.ref (q_h G + 294)), some (.ref (q_h G + 295)), some (.int (nI (i))), some (.int (nI (0))), none, none]) (st2 := []) (pc2 := 0) rfl rfl ?_
    refine A_aload_n hg dL_law_2769 rfl rfl ?_
    refine A_aload_n hg dL_law_2770 rfl rfl ?_
    refine A_iload hg dL_law_2771 rfl ?_
    refine A_iconst (v := (nI (1))) hg dL_law_2773 (by decide) ?_
    refine A_iaddN hg dL_law_2774 ?_
    refine A_sld hg hX (i + 1) (by omega) dL_law_2775 ?_
    refine A_hV (kc2 := kc + 1) (ks2 := ks + 6) (As := [.int (xs (i + 1))]) (rest := []) hg lk_RL_281 in_X11_again se_X11_again rfl dL_law_2776 ⟨by decide, by decide⟩ rfl rfl (hfK 1 6 (by decide) (by decide)) hc_11 (by omega) rfl rfl (Nat.le_of_ble_eq_true rfl) (c_X11_again G false 296 σ_1 F g fb nv ns mk va sp lp mc z a m (xs (i + 1)) hc_11 hc_12 hc_16 hc_17 hc_18 hc_19 hc_20 hc_21 hc_22 hc_23 (by omega) hg9 (by omega) hF12 hF16 hmk hTI hlo hF5 (by omega)) ?_
    rintro _ σ_40 (⟨rfl, Mhno, hc_27, hf_28⟩ | ⟨p1M, fqM, nvqM, nsqM, mkqM, vaqM, spqM, loqM, mcqM, zqM, aqM, rfl, Mhpe, Mhpl, MhTI, Mhmc, Mhmk, Mhlo, Mhnew, Mhold, hc_29, hc_30, hc_31, hc_32, hc_33, hc_34, hc_35, hc_36, hc_37, hc_38, hf_39⟩)
    · skip
      refine (?_ : AJ G K Q (kc + 1) (ks + 6) false 296 2779 [some (.ref bS), some (.ref (q_h G + 0)), some (.ref (q_h G + 279)), some (.ref (q_h G + 294)), some (.ref (q_h G + 295)), some (.int (nI (i))), some (.int (nI (0))), none, none] [.int (nI (0))] σ_40)
      have hc_27 : σ_40 279 = o11 G (upd F 7 (nI (1))) := hc_27
      have hc_41 : σ_40 0 = o10 G (nI (il)) (z2) (z3) := (hf_28 0 (by decide)).trans hc_5
      have hc_42 : σ_40 1 = q_an G 600 f := (hf_28 1 (by decide)).trans hc_6
      have hc_43 : σ_40 23 = o5 G (23) (nI (lo)) := (hf_28 23 (by decide)).trans hc_7
      have hc_44 : σ_40 24 = q_an G 256 o := (hf_28 24 (by decide)).trans hc_8
      have hc_45 : σ_40 224 = q_rn G 2 2 (fun j => some (243 + 18 * j)) := (hf_28 224 (by decide)).trans hc_9
      have hc_46 : σ_40 225 = q_bn G 2 kp := (hf_28 225 (by decide)).trans hc_10
      have hc_47 : σ_40 280 = q_an G 265 g := (hf_28 280 (by decide)).trans hc_12
      have hc_48 : σ_40 281 = q_an G 265 wk := (hf_28 281 (by decide)).trans hc_13
      have hc_49 : σ_40 282 = q_an G 265 as := (hf_28 282 (by decide)).trans hc_14
      have hc_50 : σ_40 283 = q_an G 530 sh := (hf_28 283 (by decide)).trans hc_15
      have hc_51 : σ_40 284 = q_an G 2120 a := (hf_28 284 (by decide)).trans hc_16
      have hc_52 : σ_40 285 = q_bn G 1681 fb := (hf_28 285 (by decide)).trans hc_17
      have hc_53 : σ_40 286 = q_an G 1681 nv := (hf_28 286 (by decide)).trans hc_18
      have hc_54 : σ_40 287 = q_an G 1681 ns := (hf_28 287 (by decide)).trans hc_19
      have hc_55 : σ_40 288 = q_an G 2000 mk := (hf_28 288 (by decide)).trans hc_20
      have hc_56 : σ_40 289 = q_an G 6724 va := (hf_28 289 (by decide)).trans hc_21
      have hc_57 : σ_40 290 = q_an G 6724 sp := (hf_28 290 (by decide)).trans hc_22
      have hc_58 : σ_40 291 = q_an G 80 lp := (hf_28 291 (by decide)).trans hc_23
      have hc_59 : σ_40 292 = q_an G 600 f := (hf_28 292 (by decide)).trans hc_24
      have hc_60 : σ_40 293 = q_an G 300 ou := (hf_28 293 (by decide)).trans hc_25
      have hc_61 : σ_40 295 = q_dn G 1 oD := (hf_28 295 (by decide)).trans hc_26
      have hc_62 : σ_40 294 = q_ln G 1 (va_up oL 0 ((nI (s_tot (s_again g p1C))).toInt64)) := (hf_28 294 (by decide)).trans hc_2
      exact (Mhno p1C (by omega) (by omega) Chpe).elim
    · skip
      refine (?_ : AJ G K Q (kc + 1) (ks + 6) false 296 2779 [some (.ref bS), some (.ref (q_h G + 0)), some (.ref (q_h G + 279)), some (.ref (q_h G + 294)), some (.ref (q_h G + 295)), some (.int (nI (i))), some (.int (nI (0))), none, none] [.int (nI (s_tot (s_again g p1M)))] σ_40)
      have hc_29 : σ_40 279 = o11 G (upd (upd (upd (upd F 5 (nI (s_pmany m + 1))) 7 (nI (0))) 12 (nI (mcqM))) 16 (nI (zqM))) := hc_29
      have hc_63 : σ_40 0 = o10 G (nI (il)) (z2) (z3) := (hf_39 0 (by decide)).trans hc_5
      have hc_64 : σ_40 1 = q_an G 600 f := (hf_39 1 (by decide)).trans hc_6
      have hc_65 : σ_40 23 = o5 G (23) (nI (lo)) := (hf_39 23 (by decide)).trans hc_7
      have hc_66 : σ_40 24 = q_an G 256 o := (hf_39 24 (by decide)).trans hc_8
      have hc_67 : σ_40 224 = q_rn G 2 2 (fun j => some (243 + 18 * j)) := (hf_39 224 (by decide)).trans hc_9
      have hc_68 : σ_40 225 = q_bn G 2 kp := (hf_39 225 (by decide)).trans hc_10
      have hc_69 : σ_40 281 = q_an G 265 wk := (hf_39 281 (by decide)).trans hc_13
      have hc_70 : σ_40 282 = q_an G 265 as := (hf_39 282 (by decide)).trans hc_14
      have hc_71 : σ_40 283 = q_an G 530 sh := (hf_39 283 (by decide)).trans hc_15
      have hc_72 : σ_40 292 = q_an G 600 f := (hf_39 292 (by decide)).trans hc_24
      have hc_73 : σ_40 293 = q_an G 300 ou := (hf_39 293 (by decide)).trans hc_25
      have hc_74 : σ_40 295 = q_dn G 1 oD := (hf_39 295 (by decide)).trans hc_26
      have hc_75 : σ_40 294 = q_ln G 1 (va_up oL 0 ((nI (s_tot (s_again g p1C))).toInt64)) := (hf_39 294 (by decide)).trans hc_2
      have e_p : p1C = p1M := q_nI_inj (by omega) (by omega) (Chpe.symm.trans Mhpe)
      subst e_p
      refine A_istore hg dL_law_2779 (by decide) (q_c1d rfl) ?_
      refine A_eq (ls2 := [some (.ref bS), some (.ref (q_h G + 0)), some (.ref (q_h G + 279)), some (.ref (q_h G + 294)), some (.ref (q_h G + 295)), some (.int (nI (i))), some (.int (nI (0))), some (.int (nI (s_tot (s_again g p1C)))), none]) (st2 := []) (pc2 := 0) rfl rfl ?_
      refine A_aload_n hg dL_law_2781 rfl rfl ?_
      refine A_eV (kc2 := kc + 1) (ks2 := ks + 6) (As := []) (rest := []) hg lk_RL_170 in_X11_thrown se_X11_thrown rfl dL_law_2782 ⟨by decide, by decide⟩ rfl rfl (hfK 1 6 (by decide) (by decide)) hc_29 (by omega) rfl rfl (Nat.le_of_ble_eq_true rfl) (c_X11_thrown G false 296 σ_40 (upd (upd (upd (upd F 5 (nI (s_pmany m + 1))) 7 (nI (0))) 12 (nI (mcqM))) 16 (nI (zqM))) hc_29 (by omega)) ?_
      refine A_top (w := .int (nI (0))) (congrArg Value.int rfl) ?_
      refine A_iload hg dL_law_2785 rfl ?_
      refine A_icmp_eqN (tgt := 2792) hg dL_law_2787 (by decide) (by decide) (by decide) (fun c2787 => ?_) (fun c2787 => False.elim (by omega))
      refine A_iload hg dL_law_2792 rfl ?_
      refine A_if_neN (tgt := 2809) hg dL_law_2794 (by decide) (by decide) (fun c2794 => absurd (by decide) c2794) (fun c2794 => ?_)
      refine A_aload_n hg dL_law_2797 rfl rfl ?_
      refine A_iconst (v := (nI (0))) hg dL_law_2798 (by decide) ?_
      refine A_lald (j := 0) hg dL_law_2799 hc_75 (by omega) (by decide) (by decide) ?_
      refine A_top (w := .long ((nI (s_tot (s_again g p1C))).toInt64)) (congrArg Value.long iv_up0) ?_
      refine A_iload hg dL_law_2800 rfl ?_
      refine A_i2l (v := (nI (s_tot (s_again g p1C))).toInt64) hg dL_law_2802 rfl ?_
      refine A_lcmp hg dL_law_2803 ?_
      refine A_top (w := .int (nI 0)) (congrArg Value.int (lc_self _)) ?_
      refine A_if_eqN (tgt := 2809) hg dL_law_2804 (by decide) (by decide) (fun c2804 => ?_) (fun c2804 => absurd (by decide) c2804)
      refine A_goto (tgt := 3062) hg dL_law_2809 (by decide) ?_
      refine A_drop 6 ?_
      refine A_drop 7 ?_
      refine A_eq (ls2 := [some (.ref bS), some (.ref (q_h G + 0)), some (.ref (q_h G + 279)), some (.ref (q_h G + 294)), some (.ref (q_h G + 295)), some (.int (nI (i))), none, none, none]) (st2 := []) (pc2 := 0) rfl rfl ?_
      refine A_wide (kc2 := kc + 8) (ks2 := ks + 48) (by omega) (by omega) ?_
      exact hnxt _ (iv_mk il z2 z3 f lo o (s_again g p1C) ((nx + 1) % 8) (min (m + 1) 8) (x_psh m ps g) kp sn (upd (upd (upd (upd F 5 (nI (s_pmany m + 1))) 7 (nI (0))) 12 (nI (mcqM))) 16 (nI (zqM))) wk as sh aqM fqM nvqM nsqM mkqM vaqM spqM loqM mcqM zqM ss ou (va_up oL 0 ((nI (s_tot (s_again g p1C))).toInt64)) oD hc_63 hc_64 hc_65 hc_66 hc_67 hc_68 hc_29 hc_30 hc_69 hc_70 hc_71 hc_31 hc_32 hc_33 hc_34 hc_35 hc_36 hc_37 hc_38 hc_72 hc_73 hc_75 hc_74 (x_lj_e (fun i _ _ => ((hf_39 i (by omega)).trans (hf_3 i (by omega)))) hL) (x_gm_e (fun i _ _ => (hf_39 i (by omega))) ChG2) (x_mx_e (fun i _ _ => (hf_39 i (by omega))) ChM2) (x_hi_e (fun i _ _ => (hf_39 i (by omega))) ChHi2) (x_oj_e (fun i _ _ => ((hf_39 i (by omega)).trans (hf_3 i (by omega)))) hO) (x_pj_e (fun i _ _ => ((hf_39 i (by omega)).trans (hf_3 i (by omega)))) hT) (iv_hn (fun i _ _ => ((hf_39 i (by omega)).trans (hf_3 i (by omega)))) hH) (iv_Sn (fun i _ _ => ((hf_39 i (by omega)).trans (hf_3 i (by omega)))) hSn) (iv_Kp (fun i _ _ => ((hf_39 i (by omega)).trans (hf_3 i (by omega)))) hKp) (by omega) hfb (by omega) hou (x_gbd_again hg9 hgd) (iv_push hm8 hgd hps Mhnew Mhold) hk1 hkss hss hsn (congrArg nI (iv_pm hm8)) hF6 rfl rfl hF21 hF22 hF23 hF33 (by omega) Mhmk MhTI Mhlo)
  · skip
    rw [he_4]
    refine (?_ : AJ G K Q (kc + 1) (ks + 6) false 296 2767 [some (.ref bS), some (.ref (q_h G + 0)), some (.ref (q_h G + 279)), some (.ref (q_h G + 294)), some (.ref (q_h G + 295)), some (.int (nI (i))), none, none, none] [.int (nI (1))] σ)
    refine A_istore hg dL_law_2767 (by decide) (q_c1d rfl) ?_
    refine A_eq (ls2 := [some (.ref bS), some (.ref (q_h G + 0)), some (.ref (q_h G + 279)), some (.ref (q_h G + 294)), some (.ref (q_h G + 295)), some (.int (nI (i))), some (.int (nI (1))), none, none]) (st2 := []) (pc2 := 0) rfl rfl ?_
    refine A_aload_n hg dL_law_2769 rfl rfl ?_
    refine A_aload_n hg dL_law_2770 rfl rfl ?_
    refine A_iload hg dL_law_2771 rfl ?_
    refine A_iconst (v := (nI (1))) hg dL_law_2773 (by decide) ?_
    refine A_iaddN hg dL_law_2774 ?_
    refine A_sld hg hX (i + 1) (by omega) dL_law_2775 ?_
    refine A_hV (kc2 := kc + 1) (ks2 := ks + 6) (As := [.int (xs (i + 1))]) (rest := []) hg lk_RL_281 in_X11_again se_X11_again rfl dL_law_2776 ⟨by decide, by decide⟩ rfl rfl (hfK 1 6 (by decide) (by decide)) hv6 (by omega) rfl rfl (Nat.le_of_ble_eq_true rfl) (c_X11_again G false 296 σ F g fb nv ns mk va sp lp mc z a m (xs (i + 1)) hv6 hv7 hv11 hv12 hv13 hv14 hv15 hv16 hv17 hv18 (by omega) hg9 (by omega) hF12 hF16 hmk hTI hlo hF5 (by omega)) ?_
    rintro _ σ_89 (⟨rfl, Mhno, hc_76, hf_77⟩ | ⟨p1M, fqM, nvqM, nsqM, mkqM, vaqM, spqM, loqM, mcqM, zqM, aqM, rfl, Mhpe, Mhpl, MhTI, Mhmc, Mhmk, Mhlo, Mhnew, Mhold, hc_78, hc_79, hc_80, hc_81, hc_82, hc_83, hc_84, hc_85, hc_86, hc_87, hf_88⟩)
    · skip
      refine (?_ : AJ G K Q (kc + 1) (ks + 6) false 296 2779 [some (.ref bS), some (.ref (q_h G + 0)), some (.ref (q_h G + 279)), some (.ref (q_h G + 294)), some (.ref (q_h G + 295)), some (.int (nI (i))), some (.int (nI (1))), none, none] [.int (nI (0))] σ_89)
      have hc_76 : σ_89 279 = o11 G (upd F 7 (nI (1))) := hc_76
      have hc_90 : σ_89 0 = o10 G (nI (il)) (z2) (z3) := (hf_77 0 (by decide)).trans hv0
      have hc_91 : σ_89 1 = q_an G 600 f := (hf_77 1 (by decide)).trans hv1
      have hc_92 : σ_89 23 = o5 G (23) (nI (lo)) := (hf_77 23 (by decide)).trans hv2
      have hc_93 : σ_89 24 = q_an G 256 o := (hf_77 24 (by decide)).trans hv3
      have hc_94 : σ_89 224 = q_rn G 2 2 (fun j => some (243 + 18 * j)) := (hf_77 224 (by decide)).trans hv4
      have hc_95 : σ_89 225 = q_bn G 2 kp := (hf_77 225 (by decide)).trans hv5
      have hc_96 : σ_89 280 = q_an G 265 g := (hf_77 280 (by decide)).trans hv7
      have hc_97 : σ_89 281 = q_an G 265 wk := (hf_77 281 (by decide)).trans hv8
      have hc_98 : σ_89 282 = q_an G 265 as := (hf_77 282 (by decide)).trans hv9
      have hc_99 : σ_89 283 = q_an G 530 sh := (hf_77 283 (by decide)).trans hv10
      have hc_100 : σ_89 284 = q_an G 2120 a := (hf_77 284 (by decide)).trans hv11
      have hc_101 : σ_89 285 = q_bn G 1681 fb := (hf_77 285 (by decide)).trans hv12
      have hc_102 : σ_89 286 = q_an G 1681 nv := (hf_77 286 (by decide)).trans hv13
      have hc_103 : σ_89 287 = q_an G 1681 ns := (hf_77 287 (by decide)).trans hv14
      have hc_104 : σ_89 288 = q_an G 2000 mk := (hf_77 288 (by decide)).trans hv15
      have hc_105 : σ_89 289 = q_an G 6724 va := (hf_77 289 (by decide)).trans hv16
      have hc_106 : σ_89 290 = q_an G 6724 sp := (hf_77 290 (by decide)).trans hv17
      have hc_107 : σ_89 291 = q_an G 80 lp := (hf_77 291 (by decide)).trans hv18
      have hc_108 : σ_89 292 = q_an G 600 f := (hf_77 292 (by decide)).trans hv19
      have hc_109 : σ_89 293 = q_an G 300 ou := (hf_77 293 (by decide)).trans hv20
      have hc_110 : σ_89 294 = q_ln G 1 oL := (hf_77 294 (by decide)).trans hv21
      have hc_111 : σ_89 295 = q_dn G 1 oD := (hf_77 295 (by decide)).trans hv22
      refine A_istore hg dL_law_2779 (by decide) (q_c1d rfl) ?_
      refine A_eq (ls2 := [some (.ref bS), some (.ref (q_h G + 0)), some (.ref (q_h G + 279)), some (.ref (q_h G + 294)), some (.ref (q_h G + 295)), some (.int (nI (i))), some (.int (nI (1))), some (.int (nI (0))), none]) (st2 := []) (pc2 := 0) rfl rfl ?_
      refine A_aload_n hg dL_law_2781 rfl rfl ?_
      refine A_eV (kc2 := kc + 1) (ks2 := ks + 6) (As := []) (rest := []) hg lk_RL_170 in_X11_thrown se_X11_thrown rfl dL_law_2782 ⟨by decide, by decide⟩ rfl rfl (hfK 1 6 (by decide) (by decide)) hc_76 (by omega) rfl rfl (Nat.le_of_ble_eq_true rfl) (c_X11_thrown G false 296 σ_89 (upd F 7 (nI (1))) hc_76 (by omega)) ?_
      refine A_top (w := .int (nI (1))) (congrArg Value.int rfl) ?_
      refine A_iload hg dL_law_2785 rfl ?_
      refine A_icmp_eqN (tgt := 2792) hg dL_law_2787 (by decide) (by decide) (by decide) (fun c2787 => ?_) (fun c2787 => False.elim (by omega))
      refine A_iload hg dL_law_2792 rfl ?_
      refine A_if_neN (tgt := 2809) hg dL_law_2794 (by decide) (by decide) (fun c2794 => ?_) (fun c2794 => absurd c2794 (by decide))
      refine A_goto (tgt := 3062) hg dL_law_2809 (by decide) ?_
      refine A_drop 6 ?_
      refine A_drop 7 ?_
      refine A_eq (ls2 := [some (.ref bS), some (.ref (q_h G + 0)), some (.ref (q_h G + 279)), some (.ref (q_h G + 294)), some (.ref (q_h G + 295)), some (.int (nI (i))), none, none, none]) (st2 := []) (pc2 := 0) rfl rfl ?_
      refine A_wide (kc2 := kc + 8) (ks2 := ks + 48) (by omega) (by omega) ?_
      exact hnxt _ (iv_mk il z2 z3 f lo o g nx m ps kp sn (upd F 7 (nI (1))) wk as sh a fb nv ns mk va sp lp mc z ss ou oL oD hc_90 hc_91 hc_92 hc_93 hc_94 hc_95 hc_76 hc_96 hc_97 hc_98 hc_99 hc_100 hc_101 hc_102 hc_103 hc_104 hc_105 hc_106 hc_107 hc_108 hc_109 hc_110 hc_111 (x_lj_e (fun i _ _ => (hf_77 i (by omega))) hL) (x_gm_e (fun i _ _ => (hf_77 i (by omega))) hG) (x_mx_e (fun i _ _ => (hf_77 i (by omega))) hM) (x_hi_e (fun i _ _ => (hf_77 i (by omega))) hHi) (x_oj_e (fun i _ _ => (hf_77 i (by omega))) hO) (x_pj_e (fun i _ _ => (hf_77 i (by omega))) hT) (iv_hn (fun i _ _ => (hf_77 i (by omega))) hH) (iv_Sn (fun i _ _ => (hf_77 i (by omega))) hSn) (iv_Kp (fun i _ _ => (hf_77 i (by omega))) hKp) (by omega) hfb (by omega) hou hgd hps hk1 hkss hss hsn hF5 hF6 hF12 hF16 hF21 hF22 hF23 hF33 (by omega) hmk hTI hlo)
    · skip
      refine (?_ : AJ G K Q (kc + 1) (ks + 6) false 296 2779 [some (.ref bS), some (.ref (q_h G + 0)), some (.ref (q_h G + 279)), some (.ref (q_h G + 294)), some (.ref (q_h G + 295)), some (.int (nI (i))), some (.int (nI (1))), none, none] [.int (nI (s_tot (s_again g p1M)))] σ_89)
      have hc_78 : σ_89 279 = o11 G (upd (upd (upd (upd F 5 (nI (s_pmany m + 1))) 7 (nI (0))) 12 (nI (mcqM))) 16 (nI (zqM))) := hc_78
      have hc_112 : σ_89 0 = o10 G (nI (il)) (z2) (z3) := (hf_88 0 (by decide)).trans hv0
      have hc_113 : σ_89 1 = q_an G 600 f := (hf_88 1 (by decide)).trans hv1
      have hc_114 : σ_89 23 = o5 G (23) (nI (lo)) := (hf_88 23 (by decide)).trans hv2
      have hc_115 : σ_89 24 = q_an G 256 o := (hf_88 24 (by decide)).trans hv3
      have hc_116 : σ_89 224 = q_rn G 2 2 (fun j => some (243 + 18 * j)) := (hf_88 224 (by decide)).trans hv4
      have hc_117 : σ_89 225 = q_bn G 2 kp := (hf_88 225 (by decide)).trans hv5
      have hc_118 : σ_89 281 = q_an G 265 wk := (hf_88 281 (by decide)).trans hv8
      have hc_119 : σ_89 282 = q_an G 265 as := (hf_88 282 (by decide)).trans hv9
      have hc_120 : σ_89 283 = q_an G 530 sh := (hf_88 283 (by decide)).trans hv10
      have hc_121 : σ_89 292 = q_an G 600 f := (hf_88 292 (by decide)).trans hv19
      have hc_122 : σ_89 293 = q_an G 300 ou := (hf_88 293 (by decide)).trans hv20
      have hc_123 : σ_89 294 = q_ln G 1 oL := (hf_88 294 (by decide)).trans hv21
      have hc_124 : σ_89 295 = q_dn G 1 oD := (hf_88 295 (by decide)).trans hv22
      exact (Chxx p1M (by omega) (by omega) Mhpe).elim
end
