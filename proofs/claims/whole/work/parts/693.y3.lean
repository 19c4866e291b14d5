section
set_option maxRecDepth 100000 in
set_option maxHeartbeats 4000000 in
theorem law_c12 (G : GL) (K : KC) (Q : State → Prop) (hh : List (Nat × Nat × Nat × Nat)) (hg : Gd G K RL code 9 ret room_1 hh) (bS L : Nat) (xs : Nat → Int32) (hX : q_scr G K bS L xs) (i kc ks J : Nat) (hi : i + 5 < L) (hL31 : L < 2 ^ 31) (hkc : kc + 8 ≤ 601024) (hks : ks + 48 ≤ 7293034) (σ : Nat → va_E) (hI : iv G σ J) (hJ : J < 512) (hfd : q_fdn) (hdd : q_ddn) (hf2 : q_f2n) (hds : q_dcs) (hnxt : ∀ σ9 : Nat → va_E, iv G σ9 (J + 1) → AJ G K Q (kc + 8) (ks + 48) false 296 3062 [some (.ref bS), some (.ref (q_h G + 0)), some (.ref (q_h G + 279)), some (.ref (q_h G + 294)), some (.ref (q_h G + 295)), some (.int (nI (i))), none, none, none] [] σ9) : AJ G K Q kc ks false 296 873 [some (.ref bS), some (.ref (q_h G + 0)), some (.ref (q_h G + 279)), some (.ref (q_h G + 294)), some (.ref (q_h G + 295)), some (.int (nI (i))), none, none, none] [] σ := by
  refine iv_el hI ?_
  intro il z2 z3 f lo o g nx m ps kp sn F wk as sh a fb nv ns mk va sp lp mc z ss ou oL oD
  intro hv0 hv1 hv2 hv3 hv4 hv5 hv6 hv7 hv8 hv9 hv10 hv11 hv12 hv13 hv14 hv15 hv16 hv17 hv18 hv19 hv20 hv21 hv22
  intro hL hG hM hHi hO hT hH hSn hKp
  intro hil hfb hlo2 hou hgd hps hk1 hkss hss hsn hF5 hF6 hF12 hF16 hF21 hF22 hF23 hF33 hmc hmk hTI hlo
  have hfK : ∀ a b : Nat, a ≤ 8 → b ≤ 48 → kc + a ≤ room_1.cells ∧ ks + b ≤ room_1.slots := fun a b h1 h2 => ⟨by show kc + a ≤ 601024; omega, by show ks + b ≤ 7293034; omega⟩
  have hg9 := iv_g hG
  obtain ⟨hnx8, hm8, hc78⟩ := iv_hi hHi
  have hbb := iv_byte (m := il) hfb
  have hg90 := hg9.1
  have hg96 := hg9.2.2.2.2.1
  have hnp8 := s_np_le hg9
  refine A_aload_n hg dL_law_873 rfl rfl ?_
  refine A_aload_n hg dL_law_874 rfl rfl ?_
  refine A_iload hg dL_law_875 rfl ?_
  refine A_iconst (v := (nI (1))) hg dL_law_877 (by decide) ?_
  refine A_iaddN hg dL_law_878 ?_
  refine A_sld hg hX (i + 1) (by omega) dL_law_879 ?_
  refine A_aload_n hg dL_law_880 rfl rfl ?_
  refine A_iload hg dL_law_881 rfl ?_
  refine A_iconst (v := (nI (2))) hg dL_law_883 (by decide) ?_
  refine A_iaddN hg dL_law_884 ?_
  refine A_sld hg hX (i + 2) (by omega) dL_law_885 ?_
  refine A_aload_n hg dL_law_886 rfl rfl ?_
  refine A_callSH (As := [.ref (q_h G + 0), .int (xs (i + 1)), .int (xs (i + 2)), .ref (q_h G + 294)]) (rest := []) hg lkH_193 stH_L_part dL_law_887 ⟨by decide, by decide⟩ (hfK 2 12 (by decide) (by decide)) rfl rfl (Nat.le_of_ble_eq_true rfl) (c_L_part G 296 σ (nI (il)) z2 z3 g (xs (i + 1)) (xs (i + 2)) oL hv0 hv21 (by omega) hG hM (by omega)) ?_
  rintro _ σ_1 (⟨p1C, x1C, rfl, Chpe, Chpl, Chxe, Chxl, ChM2, hc_2, hf_3⟩ | ⟨rfl, Chxx, he_4⟩ | ⟨rfl, Chxx, he_5⟩)
  · skip
    refine (?_ : AJ G K Q (kc + 2) (ks + 12) false 296 890 [some (.ref bS), some (.ref (q_h G + 0)), some (.ref (q_h G + 279)), some (.ref (q_h G + 294)), some (.ref (q_h G + 295)), some (.int (nI (i))), none, none, none] [.int (nI (0))] σ_1)
    have hc_6 : σ_1 0 = o10 G (nI (il)) (z2) (z3) := (hf_3 0 (by decide)).trans hv0
    have hc_7 : σ_1 1 = q_an G 600 f := (hf_3 1 (by decide)).trans hv1
    have hc_8 : σ_1 23 = o5 G (23) (nI (lo)) := (hf_3 23 (by decide)).trans hv2
    have hc_9 : σ_1 24 = q_an G 256 o := (hf_3 24 (by decide)).trans hv3
    have hc_10 : σ_1 224 = q_rn G 2 2 (fun j => some (243 + 18 * j)) := (hf_3 224 (by decide)).trans hv4
    have hc_11 : σ_1 225 = q_bn G 2 kp := (hf_3 225 (by decide)).trans hv5
    have hc_12 : σ_1 279 = o11 G F := (hf_3 279 (by decide)).trans hv6
    have hc_13 : σ_1 280 = q_an G 265 g := (hf_3 280 (by decide)).trans hv7
    have hc_14 : σ_1 281 = q_an G 265 wk := (hf_3 281 (by decide)).trans hv8
    have hc_15 : σ_1 282 = q_an G 265 as := (hf_3 282 (by decide)).trans hv9
    have hc_16 : σ_1 283 = q_an G 530 sh := (hf_3 283 (by decide)).trans hv10
    have hc_17 : σ_1 284 = q_an G 2120 a := (hf_3 284 (by decide)).trans hv11
    have hc_18 : σ_1 285 = q_bn G 1681 fb := (hf_3 285 (by decide)).trans hv12
    have hc_19 : σ_1 286 = q_an G 1681 nv := (hf_3 286 (by decide)).trans hv13
    have hc_20 : σ_1 287 = q_an G 1681 ns := (hf_3 287 (by decide)).trans hv14
    have hc_21 : σ_1 288 = q_an G 2000 mk := (hf_3 288 (by decide)).trans hv15
    have hc_22 : σ_1 289 = q_an G 6724 va := (hf_3 289 (by decide)).trans hv16
    have hc_23 : σ_1 290 = q_an G 6724 sp := (hf_3 290 (by decide)).trans hv17
    have hc_24 : σ_1 291 = q_an G 80 lp := (hf_3 291 (by decide)).trans hv18
    have hc_25 : σ_1 292 = q_an G 600 f := (hf_3 292 (by decide)).trans hv19
    have hc_26 : σ_1 293 = q_an G 300 ou := (hf_3 293 (by decide)).trans hv20
    have hc_27 : σ_1 295 = q_dn G 1 oD := (hf_3 295 (by decide)).trans hv22
    refine A_istore hg dL_law_890 (by decide) (q_c1d rfl) ?_
    refine A_eq (ls2 := [some (.ref bS), some (.ref (q_h G + 0)), some (.ref (q_h G + 279)), some (.ref (q_h G + 294)), some (.ref (q_h G + 295)), some (.int (nI (i))), some (.int (nI (0))), none, none]) (st2 := []) (pc2 := 0) rfl rfl ?_
    refine A_aload_n hg dL_law_892 rfl rfl ?_
    refine A_aload_n hg dL_law_893 rfl rfl ?_
    refine A_iload hg dL_law_894 rfl ?_
    refine A_iconst (v := (nI (1))) hg dL_law_896 (by decide) ?_
    refine A_iaddN hg dL_law_897 ?_
    refine A_sld hg hX (i + 1) (by omega) dL_law_898 ?_
    refine A_aload_n hg dL_law_899 rfl rfl ?_
    refine A_iload hg dL_law_900 rfl ?_
    refine A_iconst (v := (nI (2))) hg dL_law_902 (by decide) ?_
    refine A_iaddN hg dL_law_903 ?_
    refine A_sld hg hX (i + 2) (by omega) dL_law_904 ?_
    refine A_hV (kc2 := kc + 2) (ks2 := ks + 12) (As := [.int (xs (i + 1)), .int (xs (i + 2))]) (rest := []) hg lk_RL_195 in_X11_part se_X11_part rfl dL_law_905 ⟨by decide, by decide⟩ rfl rfl (hfK 2 12 (by decide) (by decide)) hc_12 (by omega) rfl rfl (Nat.le_of_ble_eq_true rfl) (c_X11_part G false 296 σ_1 F g fb nv ns mk va sp lp mc z (xs (i + 1)) (xs (i + 2)) hc_12 hc_13 hc_18 hc_19 hc_20 hc_21 hc_22 hc_23 hc_24 (by omega) hg9 (by omega) hF12 hF16 hmk hTI hlo) ?_
    rintro _ σ_41 (⟨rfl, Mhno, hc_28, hf_29⟩ | ⟨p1M, rfl, Mhpe, Mhpl, Mhnw, hc_30, hf_31⟩ | ⟨p1M, x1M, fqM, nvqM, nsqM, mkqM, vaqM, spqM, loqM, mcqM, zqM, rfl, Mhpe, Mhpl, Mhxe, Mhxl, MhTI, Mhmc, Mhmk, Mhlo, hc_32, hc_33, hc_34, hc_35, hc_36, hc_37, hc_38, hc_39, hf_40⟩)
    · skip
      refine (?_ : AJ G K Q (kc + 2) (ks + 12) false 296 908 [some (.ref bS), some (.ref (q_h G + 0)), some (.ref (q_h G + 279)), some (.ref (q_h G + 294)), some (.ref (q_h G + 295)), some (.int (nI (i))), some (.int (nI (0))), none, none] [.int (nI (0))] σ_41)
      have hc_28 : σ_41 279 = o11 G (upd F 7 (nI (1))) := hc_28
      have hc_42 : σ_41 0 = o10 G (nI (il)) (z2) (z3) := (hf_29 0 (by decide)).trans hc_6
      have hc_43 : σ_41 1 = q_an G 600 f := (hf_29 1 (by decide)).trans hc_7
      have hc_44 : σ_41 23 = o5 G (23) (nI (lo)) := (hf_29 23 (by decide)).trans hc_8
      have hc_45 : σ_41 24 = q_an G 256 o := (hf_29 24 (by decide)).trans hc_9
      have hc_46 : σ_41 224 = q_rn G 2 2 (fun j => some (243 + 18 * j)) := (hf_29 224 (by decide)).trans hc_10
      have hc_47 : σ_41 225 = q_bn G 2 kp := (hf_29 225 (by decide)).trans hc_11
      have hc_48 : σ_41 280 = q_an G 265 g := (hf_29 280 (by decide)).trans hc_13
      have hc_49 : σ_41 281 = q_an G 265 wk := (hf_29 281 (by decide)).trans hc_14
      have hc_50 : σ_41 282 = q_an G 265 as := (hf_29 282 (by decide)).trans hc_15
      have hc_51 : σ_41 283 = q_an G 530 sh := (hf_29 283 (by decide)).trans hc_16
      have hc_52 : σ_41 284 = q_an G 2120 a := (hf_29 284 (by decide)).trans hc_17
      have hc_53 : σ_41 285 = q_bn G 1681 fb := (hf_29 285 (by decide)).trans hc_18
      have hc_54 : σ_41 286 = q_an G 1681 nv := (hf_29 286 (by decide)).trans hc_19
      have hc_55 : σ_41 287 = q_an G 1681 ns := (hf_29 287 (by decide)).trans hc_20
      have hc_56 : σ_41 288 = q_an G 2000 mk := (hf_29 288 (by decide)).trans hc_21
      have hc_57 : σ_41 289 = q_an G 6724 va := (hf_29 289 (by decide)).trans hc_22
      have hc_58 : σ_41 290 = q_an G 6724 sp := (hf_29 290 (by decide)).trans hc_23
      have hc_59 : σ_41 291 = q_an G 80 lp := (hf_29 291 (by decide)).trans hc_24
      have hc_60 : σ_41 292 = q_an G 600 f := (hf_29 292 (by decide)).trans hc_25
      have hc_61 : σ_41 293 = q_an G 300 ou := (hf_29 293 (by decide)).trans hc_26
      have hc_62 : σ_41 295 = q_dn G 1 oD := (hf_29 295 (by decide)).trans hc_27
      have hc_63 : σ_41 294 = q_ln G 1 (va_up oL 0 ((s_partA g p1C x1C).toInt64)) := (hf_29 294 (by decide)).trans hc_2
      exact (Mhno p1C (by omega) Chpe).elim
    · skip
      refine (?_ : AJ G K Q (kc + 2) (ks + 12) false 296 908 [some (.ref bS), some (.ref (q_h G + 0)), some (.ref (q_h G + 279)), some (.ref (q_h G + 294)), some (.ref (q_h G + 295)), some (.int (nI (i))), some (.int (nI (0))), none, none] [.int (nI (0))] σ_41)
      have hc_30 : σ_41 279 = o11 G (upd F 7 (nI (2))) := hc_30
      have hc_64 : σ_41 0 = o10 G (nI (il)) (z2) (z3) := (hf_31 0 (by decide)).trans hc_6
      have hc_65 : σ_41 1 = q_an G 600 f := (hf_31 1 (by decide)).trans hc_7
      have hc_66 : σ_41 23 = o5 G (23) (nI (lo)) := (hf_31 23 (by decide)).trans hc_8
      have hc_67 : σ_41 24 = q_an G 256 o := (hf_31 24 (by decide)).trans hc_9
      have hc_68 : σ_41 224 = q_rn G 2 2 (fun j => some (243 + 18 * j)) := (hf_31 224 (by decide)).trans hc_10
      have hc_69 : σ_41 225 = q_bn G 2 kp := (hf_31 225 (by decide)).trans hc_11
      have hc_70 : σ_41 280 = q_an G 265 g := (hf_31 280 (by decide)).trans hc_13
      have hc_71 : σ_41 281 = q_an G 265 wk := (hf_31 281 (by decide)).trans hc_14
      have hc_72 : σ_41 282 = q_an G 265 as := (hf_31 282 (by decide)).trans hc_15
      have hc_73 : σ_41 283 = q_an G 530 sh := (hf_31 283 (by decide)).trans hc_16
      have hc_74 : σ_41 284 = q_an G 2120 a := (hf_31 284 (by decide)).trans hc_17
      have hc_75 : σ_41 285 = q_bn G 1681 fb := (hf_31 285 (by decide)).trans hc_18
      have hc_76 : σ_41 286 = q_an G 1681 nv := (hf_31 286 (by decide)).trans hc_19
      have hc_77 : σ_41 287 = q_an G 1681 ns := (hf_31 287 (by decide)).trans hc_20
      have hc_78 : σ_41 288 = q_an G 2000 mk := (hf_31 288 (by decide)).trans hc_21
      have hc_79 : σ_41 289 = q_an G 6724 va := (hf_31 289 (by decide)).trans hc_22
      have hc_80 : σ_41 290 = q_an G 6724 sp := (hf_31 290 (by decide)).trans hc_23
      have hc_81 : σ_41 291 = q_an G 80 lp := (hf_31 291 (by decide)).trans hc_24
      have hc_82 : σ_41 292 = q_an G 600 f := (hf_31 292 (by decide)).trans hc_25
      have hc_83 : σ_41 293 = q_an G 300 ou := (hf_31 293 (by decide)).trans hc_26
      have hc_84 : σ_41 295 = q_dn G 1 oD := (hf_31 295 (by decide)).trans hc_27
      have hc_85 : σ_41 294 = q_ln G 1 (va_up oL 0 ((s_partA g p1C x1C).toInt64)) := (hf_31 294 (by decide)).trans hc_2
      have e_p : p1C = p1M := q_nI_inj (by omega) (by omega) (Chpe.symm.trans Mhpe)
      subst e_p
      exact (Mhnw x1C (by omega) (by omega) Chxe).elim
    · skip
      refine (?_ : AJ G K Q (kc + 2) (ks + 12) false 296 908 [some (.ref bS), some (.ref (q_h G + 0)), some (.ref (q_h G + 279)), some (.ref (q_h G + 294)), some (.ref (q_h G + 295)), some (.int (nI (i))), some (.int (nI (0))), none, none] [.int (s_partA g p1M x1M)] σ_41)
      have hc_32 : σ_41 279 = o11 G (upd (upd (upd F 7 (nI (0))) 12 (nI (mcqM))) 16 (nI (zqM))) := hc_32
      have hc_86 : σ_41 0 = o10 G (nI (il)) (z2) (z3) := (hf_40 0 (by decide)).trans hc_6
      have hc_87 : σ_41 1 = q_an G 600 f := (hf_40 1 (by decide)).trans hc_7
      have hc_88 : σ_41 23 = o5 G (23) (nI (lo)) := (hf_40 23 (by decide)).trans hc_8
      have hc_89 : σ_41 24 = q_an G 256 o := (hf_40 24 (by decide)).trans hc_9
      have hc_90 : σ_41 224 = q_rn G 2 2 (fun j => some (243 + 18 * j)) := (hf_40 224 (by decide)).trans hc_10
      have hc_91 : σ_41 225 = q_bn G 2 kp := (hf_40 225 (by decide)).trans hc_11
      have hc_92 : σ_41 280 = q_an G 265 g := (hf_40 280 (by decide)).trans hc_13
      have hc_93 : σ_41 281 = q_an G 265 wk := (hf_40 281 (by decide)).trans hc_14
      have hc_94 : σ_41 282 = q_an G 265 as := (hf_40 282 (by decide)).trans hc_15
      have hc_95 : σ_41 283 = q_an G 530 sh := (hf_40 283 (by decide)).trans hc_16
      have hc_96 : σ_41 284 = q_an G 2120 a := (hf_40 284 (by decide)).trans hc_17
      have hc_97 : σ_41 292 = q_an G 600 f := (hf_40 292 (by decide)).trans hc_25
      have hc_98 : σ_41 293 = q_an G 300 ou := (hf_40 293 (by decide)).trans hc_26
      have hc_99 : σ_41 295 = q_dn G 1 oD := (hf_40 295 (by decide)).trans hc_27
      have hc_100 : σ_41 294 = q_ln G 1 (va_up oL 0 ((s_partA g p1C x1C).toInt64)) := (hf_40 294 (by decide)).trans hc_2
      have e_p : p1C = p1M := q_nI_inj (by omega) (by omega) (Chpe.symm.trans Mhpe)
      subst e_p
      have e_x : x1C = x1M := q_nI_inj (by omega) (by omega) (Chxe.symm.trans Mhxe)
      subst e_x
      refine A_istore hg dL_law_908 (by decide) (q_c1d rfl) ?_
      refine A_eq (ls2 := [some (.ref bS), some (.ref (q_h G + 0)), some (.ref (q_h G + 279)), some (.ref (q_h G + 294)), some (.ref (q_h G + 295)), some (.int (nI (i))), some (.int (nI (0))), some (.int (s_partA g p1C x1C)), none]) (st2 := []) (pc2 := 0) rfl rfl ?_
      refine A_aload_n hg dL_law_910 rfl rfl ?_
      refine A_eV (kc2 := kc + 2) (ks2 := ks + 12) (As := []) (rest := []) hg lk_RL_170 in_X11_thrown se_X11_thrown rfl dL_law_911 ⟨by decide, by decide⟩ rfl rfl (hfK 2 12 (by decide) (by decide)) hc_32 (by omega) rfl rfl (Nat.le_of_ble_eq_true rfl) (c_X11_thrown G false 296 σ_41 (upd (upd (upd F 7 (nI (0))) 12 (nI (mcqM))) 16 (nI (zqM))) hc_32 (by omega)) ?_
      refine A_top (w := .int (nI (0))) (congrArg Value.int rfl) ?_
      refine A_iload hg dL_law_914 rfl ?_
      refine A_icmp_eqN (tgt := 921) hg dL_law_916 (by decide) (by decide) (by decide) (fun c916 => ?_) (fun c916 => False.elim (by omega))
      refine A_iload hg dL_law_921 rfl ?_
      refine A_if_neN (tgt := 938) hg dL_law_923 (by decide) (by decide) (fun c923 => absurd (by decide) c923) (fun c923 => ?_)
      refine A_aload_n hg dL_law_926 rfl rfl ?_
      refine A_iconst (v := (nI (0))) hg dL_law_927 (by decide) ?_
      refine A_lald (j := 0) hg dL_law_928 hc_100 (by omega) (by decide) (by decide) ?_
      refine A_top (w := .long ((s_partA g p1C x1C).toInt64)) (congrArg Value.long iv_up0) ?_
      refine A_iload hg dL_law_929 rfl ?_
      refine A_i2l (v := (s_partA g p1C x1C).toInt64) hg dL_law_931 rfl ?_
      refine A_lcmp hg dL_law_932 ?_
      refine A_top (w := .int (nI 0)) (congrArg Value.int (lc_self _)) ?_
      refine A_if_eqN (tgt := 938) hg dL_law_933 (by decide) (by decide) (fun c933 => ?_) (fun c933 => absurd (by decide) c933)
      refine A_goto (tgt := 3062) hg dL_law_938 (by decide) ?_
      refine A_drop 6 ?_
      refine A_drop 7 ?_
      refine A_eq (ls2 := [some (.ref bS), some (.ref (q_h G + 0)), some (.ref (q_h G + 279)), some (.ref (q_h G + 294)), some (.ref (q_h G + 295)), some (.int (nI (i))), none, none, none]) (st2 := []) (pc2 := 0) rfl rfl ?_
      refine A_wide (kc2 := kc + 8) (ks2 := ks + 48) (by omega) (by omega) ?_
      exact hnxt _ (iv_mk il z2 z3 f lo o g nx m ps kp sn (upd (upd (upd F 7 (nI (0))) 12 (nI (mcqM))) 16 (nI (zqM))) wk as sh a fqM nvqM nsqM mkqM vaqM spqM loqM mcqM zqM ss ou (va_up oL 0 ((s_partA g p1C x1C).toInt64)) oD hc_86 hc_87 hc_88 hc_89 hc_90 hc_91 hc_32 hc_92 hc_93 hc_94 hc_95 hc_96 hc_33 hc_34 hc_35 hc_36 hc_37 hc_38 hc_39 hc_97 hc_98 hc_100 hc_99 (x_lj_e (fun i _ _ => ((hf_40 i (by omega)).trans (hf_3 i (by omega)))) hL) (x_gm_e (fun i _ _ => ((hf_40 i (by omega)).trans (hf_3 i (by omega)))) hG) (x_mx_e (fun i _ _ => (hf_40 i (by omega))) ChM2) (x_hi_e (fun i _ _ => ((hf_40 i (by omega)).trans (hf_3 i (by omega)))) hHi) (x_oj_e (fun i _ _ => ((hf_40 i (by omega)).trans (hf_3 i (by omega)))) hO) (x_pj_e (fun i _ _ => ((hf_40 i (by omega)).trans (hf_3 i (by omega)))) hT) (iv_hn (fun i _ _ => ((hf_40 i (by omega)).trans (hf_3 i (by omega)))) hH) (iv_Sn (fun i _ _ => ((hf_40 i (by omega)).trans (hf_3 i (by omega)))) hSn) (iv_Kp (fun i _ _ => ((hf_40 i (by omega)).trans (hf_3 i (by omega)))) hKp) (by omega) hfb (by omega) hou hgd hps hk1 hkss hss hsn hF5 hF6 rfl rfl hF21 hF22 hF23 hF33 (by omega) Mhmk MhTI Mhlo)
  · skip
    rw [he_4]
    refine (?_ : AJ G K Q (kc + 2) (ks + 12) false 296 890 [some (.ref bS), some (.ref (q_h G + 0)), some (.ref (q_h G + 279)), some (.ref (q_h G + 294)), some (.ref (q_h G + 295)), some (.int (nI (i))), none, none, none] [.int (nI (1))] σ)
    refine A_istore hg dL_law_890 (by decide) (q_c1d rfl) ?_
    refine A_eq (ls2 := [some (.ref bS), some (.ref (q_h G + 0)), some (.ref (q_h G + 279)), some (.ref (q_h G + 294)), some (.ref (q_h G + 295)), some (.int (nI (i))), some (.int (nI (1))), none, none]) (st2 := []) (pc2 := 0) rfl rfl ?_
    refine A_aload_n hg dL_law_892 rfl rfl ?_
    refine A_aload_n hg dL_law_893 rfl rfl ?_
    refine A_iload hg dL_law_894 rfl ?_
    refine A_iconst (v := (nI (1))) hg dL_law_896 (by decide) ?_
    refine A_iaddN hg dL_law_897 ?_
    refine A_sld hg hX (i + 1) (by omega) dL_law_898 ?_
    refine A_aload_n hg dL_law_899 rfl rfl ?_
    refine A_iload hg dL_law_900 rfl ?_
    refine A_iconst (v := (nI (2))) hg dL_law_902 (by decide) ?_
    refine A_iaddN hg dL_law_903 ?_
    refine A_sld hg hX (i + 2) (by omega) dL_law_904 ?_
    refine A_hV (kc2 := kc + 2) (ks2 := ks + 12) (As := [.int (xs (i + 1)), .int (xs (i + 2))]) (rest := []) hg lk_RL_195 in_X11_part se_X11_part rfl dL_law_905 ⟨by decide, by decide⟩ rfl rfl (hfK 2 12 (by decide) (by decide)) hv6 (by omega) rfl rfl (Nat.le_of_ble_eq_true rfl) (c_X11_part G false 296 σ F g fb nv ns mk va sp lp mc z (xs (i + 1)) (xs (i + 2)) hv6 hv7 hv12 hv13 hv14 hv15 hv16 hv17 hv18 (by omega) hg9 (by omega) hF12 hF16 hmk hTI hlo) ?_
    rintro _ σ_114 (⟨rfl, Mhno, hc_101, hf_102⟩ | ⟨p1M, rfl, Mhpe, Mhpl, Mhnw, hc_103, hf_104⟩ | ⟨p1M, x1M, fqM, nvqM, nsqM, mkqM, vaqM, spqM, loqM, mcqM, zqM, rfl, Mhpe, Mhpl, Mhxe, Mhxl, MhTI, Mhmc, Mhmk, Mhlo, hc_105, hc_106, hc_107, hc_108, hc_109, hc_110, hc_111, hc_112, hf_113⟩)
    · skip
      refine (?_ : AJ G K Q (kc + 2) (ks + 12) false 296 908 [some (.ref bS), some (.ref (q_h G + 0)), some (.ref (q_h G + 279)), some (.ref (q_h G + 294)), some (.ref (q_h G + 295)), some (.int (nI (i))), some (.int (nI (1))), none, none] [.int (nI (0))] σ_114)
      have hc_101 : σ_114 279 = o11 G (upd F 7 (nI (1))) := hc_101
      have hc_115 : σ_114 0 = o10 G (nI (il)) (z2) (z3) := (hf_102 0 (by decide)).trans hv0
      have hc_116 : σ_114 1 = q_an G 600 f := (hf_102 1 (by decide)).trans hv1
      have hc_117 : σ_114 23 = o5 G (23) (nI (lo)) := (hf_102 23 (by decide)).trans hv2
      have hc_118 : σ_114 24 = q_an G 256 o := (hf_102 24 (by decide)).trans hv3
      have hc_119 : σ_114 224 = q_rn G 2 2 (fun j => some (243 + 18 * j)) := (hf_102 224 (by decide)).trans hv4
      have hc_120 : σ_114 225 = q_bn G 2 kp := (hf_102 225 (by decide)).trans hv5
      have hc_121 : σ_114 280 = q_an G 265 g := (hf_102 280 (by decide)).trans hv7
      have hc_122 : σ_114 281 = q_an G 265 wk := (hf_102 281 (by decide)).trans hv8
      have hc_123 : σ_114 282 = q_an G 265 as := (hf_102 282 (by decide)).trans hv9
      have hc_124 : σ_114 283 = q_an G 530 sh := (hf_102 283 (by decide)).trans hv10
      have hc_125 : σ_114 284 = q_an G 2120 a := (hf_102 284 (by decide)).trans hv11
      have hc_126 : σ_114 285 = q_bn G 1681 fb := (hf_102 285 (by decide)).trans hv12
      have hc_127 : σ_114 286 = q_an G 1681 nv := (hf_102 286 (by decide)).trans hv13
      have hc_128 : σ_114 287 = q_an G 1681 ns := (hf_102 287 (by decide)).trans hv14
      have hc_129 : σ_114 288 = q_an G 2000 mk := (hf_102 288 (by decide)).trans hv15
      have hc_130 : σ_114 289 = q_an G 6724 va := (hf_102 289 (by decide)).trans hv16
      have hc_131 : σ_114 290 = q_an G 6724 sp := (hf_102 290 (by decide)).trans hv17
      have hc_132 : σ_114 291 = q_an G 80 lp := (hf_102 291 (by decide)).trans hv18
      have hc_133 : σ_114 292 = q_an G 600 f := (hf_102 292 (by decide)).trans hv19
      have hc_134 : σ_114 293 = q_an G 300 ou := (hf_102 293 (by decide)).trans hv20
      have hc_135 : σ_114 294 = q_ln G 1 oL := (hf_102 294 (by decide)).trans hv21
      have hc_136 : σ_114 295 = q_dn G 1 oD := (hf_102 295 (by decide)).trans hv22
      refine A_istore hg dL_law_908 (by decide) (q_c1d rfl) ?_
      refine A_eq (ls2 := [some (.ref bS), some (.ref (q_h G + 0)), some (.ref (q_h G + 279)), some (.ref (q_h G + 294)), some (.ref (q_h G + 295)), some (.int (nI (i))), some (.int (nI (1))), some (.int (nI (0))), none]) (st2 := []) (pc2 := 0) rfl rfl ?_
      refine A_aload_n hg dL_law_910 rfl rfl ?_
      refine A_eV (kc2 := kc + 2) (ks2 := ks + 12) (As := []) (rest := []) hg lk_RL_170 in_X11_thrown se_X11_thrown rfl dL_law_911 ⟨by decide, by decide⟩ rfl rfl (hfK 2 12 (by decide) (by decide)) hc_101 (by omega) rfl rfl (Nat.le_of_ble_eq_true rfl) (c_X11_thrown G false 296 σ_114 (upd F 7 (nI (1))) hc_101 (by omega)) ?_
      refine A_top (w := .int (nI (1))) (congrArg Value.int rfl) ?_
      refine A_iload hg dL_law_914 rfl ?_
      refine A_icmp_eqN (tgt := 921) hg dL_law_916 (by decide) (by decide) (by decide) (fun c916 => ?_) (fun c916 => False.elim (by omega))
      refine A_iload hg dL_law_921 rfl ?_
      refine A_if_neN (tgt := 938) hg dL_law_923 (by decide) (by decide) (fun c923 => ?_) (fun c923 => absurd c923 (by decide))
      refine A_goto (tgt := 3062) hg dL_law_938 (by decide) ?_
      refine A_drop 6 ?_
      refine A_drop 7 ?_
      refine A_eq (ls2 := [some (.ref bS), some (.ref (q_h G + 0)), some (.ref (q_h G + 279)), some (.ref (q_h G + 294)), some (.ref (q_h G + 295)), some (.int (nI (i))), none, none, none]) (st2 := []) (pc2 := 0) rfl rfl ?_
      refine A_wide (kc2 := kc + 8) (ks2 := ks + 48) (by omega) (by omega) ?_
      exact hnxt _ (iv_mk il z2 z3 f lo o g nx m ps kp sn (upd F 7 (nI (1))) wk as sh a fb nv ns mk va sp lp mc z ss ou oL oD hc_115 hc_116 hc_117 hc_118 hc_119 hc_120 hc_101 hc_121 hc_122 hc_123 hc_124 hc_125 hc_126 hc_127 hc_128 hc_129 hc_130 hc_131 hc_132 hc_133 hc_134 hc_135 hc_136 (x_lj_e (fun i _ _ => (hf_102 i (by omega))) hL) (x_gm_e (fun i _ _ => (hf_102 i (by omega))) hG) (x_mx_e (fun i _ _ => (hf_102 i (by omega))) hM) (x_hi_e (fun i _ _ => (hf_102 i (by omega))) hHi) (x_oj_e (fun i _ _ => (hf_102 i (by omega))) hO) (x_pj_e (fun i _ _ => (hf_102 i (by omega))) hT) (iv_hn (fun i _ _ => (hf_102 i (by omega))) hH) (iv_Sn (fun i _ _ => (hf_102 i (by omega))) hSn) (iv_Kp (fun i _ _ => (hf_102 i (by omega))) hKp) (by omega) hfb (by omega) hou hgd hps hk1 hkss hss hsn hF5 hF6 hF12 hF16 hF21 hF22 hF23 hF33 (by omega) hmk hTI hlo)
    · skip
      refine (?_ : AJ G K Q (kc + 2) (ks + 12) false 296 908 [some (.ref bS), some (.ref (q_h G + 0)), some (.ref (q_h G + 279)), some (.ref (q_h G + 294)), some (.ref (q_h G + 295)), some (.int (nI (i))), some (.int (nI (1))), none, none] [.int (nI (0))] σ_114)
      have hc_103 : σ_114 279 = o11 G (upd F 7 (nI (2))) := hc_103
      have hc_137 : σ_114 0 = o10 G (nI (il)) (z2) (z3) := (hf_104 0 (by decide)).trans hv0
      have hc_138 : σ_114 1 = q_an G 600 f := (hf_104 1 (by decide)).trans hv1
      have hc_139 : σ_114 23 = o5 G (23) (nI (lo)) := (hf_104 23 (by decide)).trans hv2
      have hc_140 : σ_114 24 = q_an G 256 o := (hf_104 24 (by decide)).trans hv3
      have hc_141 : σ_114 224 = q_rn G 2 2 (fun j => some (243 + 18 * j)) := (hf_104 224 (by decide)).trans hv4
      have hc_142 : σ_114 225 = q_bn G 2 kp := (hf_104 225 (by decide)).trans hv5
      have hc_143 : σ_114 280 = q_an G 265 g := (hf_104 280 (by decide)).trans hv7
      have hc_144 : σ_114 281 = q_an G 265 wk := (hf_104 281 (by decide)).trans hv8
      have hc_145 : σ_114 282 = q_an G 265 as := (hf_104 282 (by decide)).trans hv9
      have hc_146 : σ_114 283 = q_an G 530 sh := (hf_104 283 (by decide)).trans hv10
      have hc_147 : σ_114 284 = q_an G 2120 a := (hf_104 284 (by decide)).trans hv11
      have hc_148 : σ_114 285 = q_bn G 1681 fb := (hf_104 285 (by decide)).trans hv12
      have hc_149 : σ_114 286 = q_an G 1681 nv := (hf_104 286 (by decide)).trans hv13
      have hc_150 : σ_114 287 = q_an G 1681 ns := (hf_104 287 (by decide)).trans hv14
      have hc_151 : σ_114 288 = q_an G 2000 mk := (hf_104 288 (by decide)).trans hv15
      have hc_152 : σ_114 289 = q_an G 6724 va := (hf_104 289 (by decide)).trans hv16
      have hc_153 : σ_114 290 = q_an G 6724 sp := (hf_104 290 (by decide)).trans hv17
      have hc_154 : σ_114 291 = q_an G 80 lp := (hf_104 291 (by decide)).trans hv18
      have hc_155 : σ_114 292 = q_an G 600 f := (hf_104 292 (by decide)).trans hv19
      have hc_156 : σ_114 293 = q_an G 300 ou := (hf_104 293 (by decide)).trans hv20
      have hc_157 : σ_114 294 = q_ln G 1 oL := (hf_104 294 (by decide)).trans hv21
      have hc_158 : σ_114 295 = q_dn G 1 oD := (hf_104 295 (by decide)).trans hv22
      exact (Chxx p1M (by omega) Mhpe).elim
    · skip
      refine (?_ : AJ G K Q (kc + 2) (ks + 12) false 296 908 [some (.ref bS), some (.ref (q_h G + 0)), some (.ref (q_h G + 279)), some (.ref (q_h G + 294)), some (.ref (q_h G + 295)), some (.int (nI (i))), some (.int (nI (1))), none, none] [.int (s_partA g p1M x1M)] σ_114)
      have hc_105 : σ_114 279 = o11 G (upd (upd (upd F 7 (nI (0))) 12 (nI (mcqM))) 16 (nI (zqM))) := hc_105
      have hc_159 : σ_114 0 = o10 G (nI (il)) (z2) (z3) := (hf_113 0 (by decide)).trans hv0
      have hc_160 : σ_114 1 = q_an G 600 f := (hf_113 1 (by decide)).trans hv1
      have hc_161 : σ_114 23 = o5 G (23) (nI (lo)) := (hf_113 23 (by decide)).trans hv2
      have hc_162 : σ_114 24 = q_an G 256 o := (hf_113 24 (by decide)).trans hv3
      have hc_163 : σ_114 224 = q_rn G 2 2 (fun j => some (243 + 18 * j)) := (hf_113 224 (by decide)).trans hv4
      have hc_164 : σ_114 225 = q_bn G 2 kp := (hf_113 225 (by decide)).trans hv5
      have hc_165 : σ_114 280 = q_an G 265 g := (hf_113 280 (by decide)).trans hv7
      have hc_166 : σ_114 281 = q_an G 265 wk := (hf_113 281 (by decide)).trans hv8
      have hc_167 : σ_114 282 = q_an G 265 as := (hf_113 282 (by decide)).trans hv9
      have hc_168 : σ_114 283 = q_an G 530 sh := (hf_113 283 (by decide)).trans hv10
      have hc_169 : σ_114 284 = q_an G 2120 a := (hf_113 284 (by decide)).trans hv11
      have hc_170 : σ_114 292 = q_an G 600 f := (hf_113 292 (by decide)).trans hv19
      have hc_171 : σ_114 293 = q_an G 300 ou := (hf_113 293 (by decide)).trans hv20
      have hc_172 : σ_114 294 = q_ln G 1 oL := (hf_113 294 (by decide)).trans hv21
      have hc_173 : σ_114 295 = q_dn G 1 oD := (hf_113 295 (by decide)).trans hv22
      exact (Chxx p1M (by omega) Mhpe).elim
  · skip
    rw [he_5]
    refine (?_ : AJ G K Q (kc + 2) (ks + 12) false 296 890 [some (.ref bS), some (.ref (q_h G + 0)), some (.ref (q_h G + 279)), some (.ref (q_h G + 294)), some (.ref (q_h G + 295)), some (.int (nI (i))), none, none, none] [.int (nI (2))] σ)
    obtain ⟨p1C, Chx0, Chx1, Chx2⟩ := Chxx
    refine A_istore hg dL_law_890 (by decide) (q_c1d rfl) ?_
    refine A_eq (ls2 := [some (.ref bS), some (.ref (q_h G + 0)), some (.ref (q_h G + 279)), some (.ref (q_h G + 294)), some (.ref (q_h G + 295)), some (.int (nI (i))), some (.int (nI (2))), none, none]) (st2 := []) (pc2 := 0) rfl rfl ?_
    refine A_aload_n hg dL_law_892 rfl rfl ?_
    refine A_aload_n hg dL_law_893 rfl rfl ?_
    refine A_iload hg dL_law_894 rfl ?_
    refine A_iconst (v := (nI (1))) hg dL_law_896 (by decide) ?_
    refine A_iaddN hg dL_law_897 ?_
    refine A_sld hg hX (i + 1) (by omega) dL_law_898 ?_
    refine A_aload_n hg dL_law_899 rfl rfl ?_
    refine A_iload hg dL_law_900 rfl ?_
    refine A_iconst (v := (nI (2))) hg dL_law_902 (by decide) ?_
    refine A_iaddN hg dL_law_903 ?_
    refine A_sld hg hX (i + 2) (by omega) dL_law_904 ?_
    refine A_hV (kc2 := kc + 2) (ks2 := ks + 12) (As := [.int (xs (i + 1)), .int (xs (i + 2))]) (rest := []) hg lk_RL_195 in_X11_part se_X11_part rfl dL_law_905 ⟨by decide, by decide⟩ rfl rfl (hfK 2 12 (by decide) (by decide)) hv6 (by omega) rfl rfl (Nat.le_of_ble_eq_true rfl) (c_X11_part G false 296 σ F g fb nv ns mk va sp lp mc z (xs (i + 1)) (xs (i + 2)) hv6 hv7 hv12 hv13 hv14 hv15 hv16 hv17 hv18 (by omega) hg9 (by omega) hF12 hF16 hmk hTI hlo) ?_
    rintro _ σ_187 (⟨rfl, Mhno, hc_174, hf_175⟩ | ⟨p1M, rfl, Mhpe, Mhpl, Mhnw, hc_176, hf_177⟩ | ⟨p1M, x1M, fqM, nvqM, nsqM, mkqM, vaqM, spqM, loqM, mcqM, zqM, rfl, Mhpe, Mhpl, Mhxe, Mhxl, MhTI, Mhmc, Mhmk, Mhlo, hc_178, hc_179, hc_180, hc_181, hc_182, hc_183, hc_184, hc_185, hf_186⟩)
    · skip
      refine (?_ : AJ G K Q (kc + 2) (ks + 12) false 296 908 [some (.ref bS), some (.ref (q_h G + 0)), some (.ref (q_h G + 279)), some (.ref (q_h G + 294)), some (.ref (q_h G + 295)), some (.int (nI (i))), some (.int (nI (2))), none, none] [.int (nI (0))] σ_187)
      have hc_174 : σ_187 279 = o11 G (upd F 7 (nI (1))) := hc_174
      have hc_188 : σ_187 0 = o10 G (nI (il)) (z2) (z3) := (hf_175 0 (by decide)).trans hv0
      have hc_189 : σ_187 1 = q_an G 600 f := (hf_175 1 (by decide)).trans hv1
      have hc_190 : σ_187 23 = o5 G (23) (nI (lo)) := (hf_175 23 (by decide)).trans hv2
      have hc_191 : σ_187 24 = q_an G 256 o := (hf_175 24 (by decide)).trans hv3
      have hc_192 : σ_187 224 = q_rn G 2 2 (fun j => some (243 + 18 * j)) := (hf_175 224 (by decide)).trans hv4
      have hc_193 : σ_187 225 = q_bn G 2 kp := (hf_175 225 (by decide)).trans hv5
      have hc_194 : σ_187 280 = q_an G 265 g := (hf_175 280 (by decide)).trans hv7
      have hc_195 : σ_187 281 = q_an G 265 wk := (hf_175 281 (by decide)).trans hv8
      have hc_196 : σ_187 282 = q_an G 265 as := (hf_175 282 (by decide)).trans hv9
      have hc_197 : σ_187 283 = q_an G 530 sh := (hf_175 283 (by decide)).trans hv10
      have hc_198 : σ_187 284 = q_an G 2120 a := (hf_175 284 (by decide)).trans hv11
      have hc_199 : σ_187 285 = q_bn G 1681 fb := (hf_175 285 (by decide)).trans hv12
      have hc_200 : σ_187 286 = q_an G 1681 nv := (hf_175 286 (by decide)).trans hv13
      have hc_201 : σ_187 287 = q_an G 1681 ns := (hf_175 287 (by decide)).trans hv14
      have hc_202 : σ_187 288 = q_an G 2000 mk := (hf_175 288 (by decide)).trans hv15
      have hc_203 : σ_187 289 = q_an G 6724 va := (hf_175 289 (by decide)).trans hv16
      have hc_204 : σ_187 290 = q_an G 6724 sp := (hf_175 290 (by decide)).trans hv17
      have hc_205 : σ_187 291 = q_an G 80 lp := (hf_175 291 (by decide)).trans hv18
      have hc_206 : σ_187 292 = q_an G 600 f := (hf_175 292 (by decide)).trans hv19
      have hc_207 : σ_187 293 = q_an G 300 ou := (hf_175 293 (by decide)).trans hv20
      have hc_208 : σ_187 294 = q_ln G 1 oL := (hf_175 294 (by decide)).trans hv21
      have hc_209 : σ_187 295 = q_dn G 1 oD := (hf_175 295 (by decide)).trans hv22
      exact (Mhno p1C (by omega) Chx0).elim
    · skip
      refine (?_ : AJ G K Q (kc + 2) (ks + 12) false 296 908 [some (.ref bS), some (.ref (q_h G + 0)), some (.ref (q_h G + 279)), some (.ref (q_h G + 294)), some (.ref (q_h G + 295)), some (.int (nI (i))), some (.int (nI (2))), none, none] [.int (nI (0))] σ_187)
      have hc_176 : σ_187 279 = o11 G (upd F 7 (nI (2))) := hc_176
      have hc_210 : σ_187 0 = o10 G (nI (il)) (z2) (z3) := (hf_177 0 (by decide)).trans hv0
      have hc_211 : σ_187 1 = q_an G 600 f := (hf_177 1 (by decide)).trans hv1
      have hc_212 : σ_187 23 = o5 G (23) (nI (lo)) := (hf_177 23 (by decide)).trans hv2
      have hc_213 : σ_187 24 = q_an G 256 o := (hf_177 24 (by decide)).trans hv3
      have hc_214 : σ_187 224 = q_rn G 2 2 (fun j => some (243 + 18 * j)) := (hf_177 224 (by decide)).trans hv4
      have hc_215 : σ_187 225 = q_bn G 2 kp := (hf_177 225 (by decide)).trans hv5
      have hc_216 : σ_187 280 = q_an G 265 g := (hf_177 280 (by decide)).trans hv7
      have hc_217 : σ_187 281 = q_an G 265 wk := (hf_177 281 (by decide)).trans hv8
      have hc_218 : σ_187 282 = q_an G 265 as := (hf_177 282 (by decide)).trans hv9
      have hc_219 : σ_187 283 = q_an G 530 sh := (hf_177 283 (by decide)).trans hv10
      have hc_220 : σ_187 284 = q_an G 2120 a := (hf_177 284 (by decide)).trans hv11
      have hc_221 : σ_187 285 = q_bn G 1681 fb := (hf_177 285 (by decide)).trans hv12
      have hc_222 : σ_187 286 = q_an G 1681 nv := (hf_177 286 (by decide)).trans hv13
      have hc_223 : σ_187 287 = q_an G 1681 ns := (hf_177 287 (by decide)).trans hv14
      have hc_224 : σ_187 288 = q_an G 2000 mk := (hf_177 288 (by decide)).trans hv15
      have hc_225 : σ_187 289 = q_an G 6724 va := (hf_177 289 (by decide)).trans hv16
      have hc_226 : σ_187 290 = q_an G 6724 sp := (hf_177 290 (by decide)).trans hv17
      have hc_227 : σ_187 291 = q_an G 80 lp := (hf_177 291 (by decide)).trans hv18
      have hc_228 : σ_187 292 = q_an G 600 f := (hf_177 292 (by decide)).trans hv19
      have hc_229 : σ_187 293 = q_an G 300 ou := (hf_177 293 (by decide)).trans hv20
      have hc_230 : σ_187 294 = q_ln G 1 oL := (hf_177 294 (by decide)).trans hv21
      have hc_231 : σ_187 295 = q_dn G 1 oD := (hf_177 295 (by decide)).trans hv22
      have e_p : p1C = p1M := q_nI_inj (by omega) (by omega) (Chx0.symm.trans Mhpe)
      subst e_p
      refine A_istore hg dL_law_908 (by decide) (q_c1d rfl) ?_
      refine A_eq (ls2 := [some (.ref bS), some (.ref (q_h G + 0)), some (.ref (q_h G + 279)), some (.ref (q_h G + 294)), some (.ref (q_h G + 295)), some (.int (nI (i))), some (.int (nI (2))), some (.int (nI (0))), none]) (st2 := []) (pc2 := 0) rfl rfl ?_
      refine A_aload_n hg dL_law_910 rfl rfl ?_
      refine A_eV (kc2 := kc + 2) (ks2 := ks + 12) (As := []) (rest := []) hg lk_RL_170 in_X11_thrown se_X11_thrown rfl dL_law_911 ⟨by decide, by decide⟩ rfl rfl (hfK 2 12 (by decide) (by decide)) hc_176 (by omega) rfl rfl (Nat.le_of_ble_eq_true rfl) (c_X11_thrown G false 296 σ_187 (upd F 7 (nI (2))) hc_176 (by omega)) ?_
      refine A_top (w := .int (nI (2))) (congrArg Value.int rfl) ?_
      refine A_iload hg dL_law_914 rfl ?_
      refine A_icmp_eqN (tgt := 921) hg dL_law_916 (by decide) (by decide) (by decide) (fun c916 => ?_) (fun c916 => False.elim (by omega))
      refine A_iload hg dL_law_921 rfl ?_
      refine A_if_neN (tgt := 938) hg dL_law_923 (by decide) (by decide) (fun c923 => ?_) (fun c923 => absurd c923 (by decide))
      refine A_goto (tgt := 3062) hg dL_law_938 (by decide) ?_
      refine A_drop 6 ?_
      refine A_drop 7 ?_
      refine A_eq (ls2 := [some (.ref bS), some (.ref (q_h G + 0)), some (.ref (q_h G + 279)), some (.ref (q_h G + 294)), some (.ref (q_h G + 295)), some (.int (nI (i))), none, none, none]) (st2 := []) (pc2 := 0) rfl rfl ?_
      refine A_wide (kc2 := kc + 8) (ks2 := ks + 48) (by omega) (by omega) ?_
      exact hnxt _ (iv_mk il z2 z3 f lo o g nx m ps kp sn (upd F 7 (nI (2))) wk as sh a fb nv ns mk va sp lp mc z ss ou oL oD hc_210 hc_211 hc_212 hc_213 hc_214 hc_215 hc_176 hc_216 hc_217 hc_218 hc_219 hc_220 hc_221 hc_222 hc_223 hc_224 hc_225 hc_226 hc_227 hc_228 hc_229 hc_230 hc_231 (x_lj_e (fun i _ _ => (hf_177 i (by omega))) hL) (x_gm_e (fun i _ _ => (hf_177 i (by omega))) hG) (x_mx_e (fun i _ _ => (hf_177 i (by omega))) hM) (x_hi_e (fun i _ _ => (hf_177 i (by omega))) hHi) (x_oj_e (fun i _ _ => (hf_177 i (by omega))) hO) (x_pj_e (fun i _ _ => (hf_177 i (by omega))) hT) (iv_hn (fun i _ _ => (hf_177 i (by omega))) hH) (iv_Sn (fun i _ _ => (hf_177 i (by omega))) hSn) (iv_Kp (fun i _ _ => (hf_177 i (by omega))) hKp) (by omega) hfb (by omega) hou hgd hps hk1 hkss hss hsn hF5 hF6 hF12 hF16 hF21 hF22 hF23 hF33 (by omega) hmk hTI hlo)
    · skip
      refine (?_ : AJ G K Q (kc + 2) (ks + 12) false 296 908 [some (.ref bS), some (.ref (q_h G + 0)), some (.ref (q_h G + 279)), some (.ref (q_h G + 294)), some (.ref (q_h G + 295)), some (.int (nI (i))), some (.int (nI (2))), none, none] [.int (s_partA g p1M x1M)] σ_187)
      have hc_178 : σ_187 279 = o11 G (upd (upd (upd F 7 (nI (0))) 12 (nI (mcqM))) 16 (nI (zqM))) := hc_178
      have hc_232 : σ_187 0 = o10 G (nI (il)) (z2) (z3) := (hf_186 0 (by decide)).trans hv0
      have hc_233 : σ_187 1 = q_an G 600 f := (hf_186 1 (by decide)).trans hv1
      have hc_234 : σ_187 23 = o5 G (23) (nI (lo)) := (hf_186 23 (by decide)).trans hv2
      have hc_235 : σ_187 24 = q_an G 256 o := (hf_186 24 (by decide)).trans hv3
      have hc_236 : σ_187 224 = q_rn G 2 2 (fun j => some (243 + 18 * j)) := (hf_186 224 (by decide)).trans hv4
      have hc_237 : σ_187 225 = q_bn G 2 kp := (hf_186 225 (by decide)).trans hv5
      have hc_238 : σ_187 280 = q_an G 265 g := (hf_186 280 (by decide)).trans hv7
      have hc_239 : σ_187 281 = q_an G 265 wk := (hf_186 281 (by decide)).trans hv8
      have hc_240 : σ_187 282 = q_an G 265 as := (hf_186 282 (by decide)).trans hv9
      have hc_241 : σ_187 283 = q_an G 530 sh := (hf_186 283 (by decide)).trans hv10
      have hc_242 : σ_187 284 = q_an G 2120 a := (hf_186 284 (by decide)).trans hv11
      have hc_243 : σ_187 292 = q_an G 600 f := (hf_186 292 (by decide)).trans hv19
      have hc_244 : σ_187 293 = q_an G 300 ou := (hf_186 293 (by decide)).trans hv20
      have hc_245 : σ_187 294 = q_ln G 1 oL := (hf_186 294 (by decide)).trans hv21
      have hc_246 : σ_187 295 = q_dn G 1 oD := (hf_186 295 (by decide)).trans hv22
      have e_p : p1C = p1M := q_nI_inj (by omega) (by omega) (Chx0.symm.trans Mhpe)
      subst e_p
      exact (Chx2 x1M (by omega) (by omega) Mhxe).elim
set_option maxRecDepth 100000 in
set_option maxHeartbeats 4000000 in
theorem law_c13 (G : GL) (K : KC) (Q : State → Prop) (hh : List (Nat × Nat × Nat × Nat)) (hg : Gd G K RL code 9 ret room_1 hh) (bS L : Nat) (xs : Nat → Int32) (hX : q_scr G K bS L xs) (i kc ks J : Nat) (hi : i + 5 < L) (hL31 : L < 2 ^ 31) (hkc : kc + 8 ≤ 601024) (hks : ks + 48 ≤ 7293034) (σ : Nat → va_E) (hI : iv G σ J) (hJ : J < 512) (hfd : q_fdn) (hdd : q_ddn) (hf2 : q_f2n) (hds : q_dcs) (hnxt : ∀ σ9 : Nat → va_E, iv G σ9 (J + 1) → AJ G K Q (kc + 8) (ks + 48) false 296 3062 [some (.ref bS), some (.ref (q_h G + 0)), some (.ref (q_h G + 279)), some (.ref (q_h G + 294)), some (.ref (q_h G + 295)), some (.int (nI (i))), none, none, none] [] σ9) : AJ G K Q kc ks false 296 941 [some (.ref bS), some (.ref (q_h G + 0)), some (.ref (q_h G + 279)), some (.ref (q_h G + 294)), some (.ref (q_h G + 295)), some (.int (nI (i))), none, none, none] [] σ := by
  refine iv_el hI ?_
  intro il z2 z3 f lo o g nx m ps kp sn F wk as sh a fb nv ns mk va sp lp mc z ss ou oL oD
  intro hv0 hv1 hv2 hv3 hv4 hv5 hv6 hv7 hv8 hv9 hv10 hv11 hv12 hv13 hv14 hv15 hv16 hv17 hv18 hv19 hv20 hv21 hv22
  intro hL hG hM hHi hO hT hH hSn hKp
  intro hil hfb hlo2 hou hgd hps hk1 hkss hss hsn hF5 hF6 hF12 hF16 hF21 hF22 hF23 hF33 hmc hmk hTI hlo
  have hfK : ∀ a b : Nat, a ≤ 8 → b ≤ 48 → kc + a ≤ room_1.cells ∧ ks + b ≤ room_1.slots := fun a b h1 h2 => ⟨by show kc + a ≤ 601024; omega, by show ks + b ≤ 7293034; omega⟩
  have hg9 := iv_g hG
  obtain ⟨hnx8, hm8, hc78⟩ := iv_hi hHi
  have hbb := iv_byte (m := il) hfb
  have hg90 := hg9.1
  have hg96 := hg9.2.2.2.2.1
  have hnp8 := s_np_le hg9
  refine A_aload_n hg dL_law_941 rfl rfl ?_
  refine A_aload_n hg dL_law_942 rfl rfl ?_
  refine A_iload hg dL_law_943 rfl ?_
  refine A_iconst (v := (nI (1))) hg dL_law_945 (by decide) ?_
  refine A_iaddN hg dL_law_946 ?_
  refine A_sld hg hX (i + 1) (by omega) dL_law_947 ?_
  refine A_aload_n hg dL_law_948 rfl rfl ?_
  refine A_iload hg dL_law_949 rfl ?_
  refine A_iconst (v := (nI (2))) hg dL_law_951 (by decide) ?_
  refine A_iaddN hg dL_law_952 ?_
  refine A_sld hg hX (i + 2) (by omega) dL_law_953 ?_
  refine A_aload_n hg dL_law_954 rfl rfl ?_
  refine A_iload hg dL_law_955 rfl ?_
  refine A_iconst (v := (nI (3))) hg dL_law_957 (by decide) ?_
  refine A_iaddN hg dL_law_958 ?_
  refine A_sld hg hX (i + 3) (by omega) dL_law_959 ?_
  refine A_aload_n hg dL_law_960 rfl rfl ?_
  refine A_callSH (As := [.ref (q_h G + 0), .int (xs (i + 1)), .int (xs (i + 2)), .int (xs (i + 3)), .ref (q_h G + 294)]) (rest := []) hg lkH_196 stH_L_allows dL_law_961 ⟨by decide, by decide⟩ (hfK 3 18 (by decide) (by decide)) rfl rfl (Nat.le_of_ble_eq_true rfl) (c_L_allows G 296 σ (nI (il)) z2 z3 g (xs (i + 1)) (xs (i + 2)) (xs (i + 3)) oL hv0 hv21 (by omega) hG (by omega)) ?_
  rintro _ σ_1 (⟨r1C, a1C, b1C, rfl, Chre, Chrl, Chke, Chle, Chkl, Chll, hc_2, hf_3⟩ | ⟨rfl, Chxx, he_4⟩ | ⟨rfl, Chxx, he_5⟩)
  · skip
    refine (?_ : AJ G K Q (kc + 3) (ks + 18) false 296 964 [some (.ref bS), some (.ref (q_h G + 0)), some (.ref (q_h G + 279)), some (.ref (q_h G + 294)), some (.ref (q_h G + 295)), some (.int (nI (i))), none, none, none] [.int (nI (0))] σ_1)
    have hc_6 : σ_1 0 = o10 G (nI (il)) (z2) (z3) := (hf_3 0 (by decide)).trans hv0
    have hc_7 : σ_1 1 = q_an G 600 f := (hf_3 1 (by decide)).trans hv1
    have hc_8 : σ_1 23 = o5 G (23) (nI (lo)) := (hf_3 23 (by decide)).trans hv2
    have hc_9 : σ_1 24 = q_an G 256 o := (hf_3 24 (by decide)).trans hv3
    have hc_10 : σ_1 224 = q_rn G 2 2 (fun j => some (243 + 18 * j)) := (hf_3 224 (by decide)).trans hv4
    have hc_11 : σ_1 225 = q_bn G 2 kp := (hf_3 225 (by decide)).trans hv5
    have hc_12 : σ_1 279 = o11 G F := (hf_3 279 (by decide)).trans hv6
    have hc_13 : σ_1 280 = q_an G 265 g := (hf_3 280 (by decide)).trans hv7
    have hc_14 : σ_1 281 = q_an G 265 wk := (hf_3 281 (by decide)).trans hv8
    have hc_15 : σ_1 282 = q_an G 265 as := (hf_3 282 (by decide)).trans hv9
    have hc_16 : σ_1 283 = q_an G 530 sh := (hf_3 283 (by decide)).trans hv10
    have hc_17 : σ_1 284 = q_an G 2120 a := (hf_3 284 (by decide)).trans hv11
    have hc_18 : σ_1 285 = q_bn G 1681 fb := (hf_3 285 (by decide)).trans hv12
    have hc_19 : σ_1 286 = q_an G 1681 nv := (hf_3 286 (by decide)).trans hv13
    have hc_20 : σ_1 287 = q_an G 1681 ns := (hf_3 287 (by decide)).trans hv14
    have hc_21 : σ_1 288 = q_an G 2000 mk := (hf_3 288 (by decide)).trans hv15
    have hc_22 : σ_1 289 = q_an G 6724 va := (hf_3 289 (by decide)).trans hv16
    have hc_23 : σ_1 290 = q_an G 6724 sp := (hf_3 290 (by decide)).trans hv17
    have hc_24 : σ_1 291 = q_an G 80 lp := (hf_3 291 (by decide)).trans hv18
    have hc_25 : σ_1 292 = q_an G 600 f := (hf_3 292 (by decide)).trans hv19
    have hc_26 : σ_1 293 = q_an G 300 ou := (hf_3 293 (by decide)).trans hv20
    have hc_27 : σ_1 295 = q_dn G 1 oD := (hf_3 295 (by decide)).trans hv22
    refine A_istore hg dL_law_964 (by decide) (q_c1d rfl) ?_
    refine A_eq (ls2 := [some (.ref bS), some (.ref (q_h G + 0)), some (.ref (q_h G + 279)), some (.ref (q_h G + 294)), some (.ref (q_h G + 295)), some (.int (nI (i))), some (.int (nI (0))), none, none]) (st2 := []) (pc2 := 0) rfl rfl ?_
    refine A_aload_n hg dL_law_966 rfl rfl ?_
    refine A_aload_n hg dL_law_967 rfl rfl ?_
    refine A_iload hg dL_law_968 rfl ?_
    refine A_iconst (v := (nI (1))) hg dL_law_970 (by decide) ?_
    refine A_iaddN hg dL_law_971 ?_
    refine A_sld hg hX (i + 1) (by omega) dL_law_972 ?_
    refine A_aload_n hg dL_law_973 rfl rfl ?_
    refine A_iload hg dL_law_974 rfl ?_
    refine A_iconst (v := (nI (2))) hg dL_law_976 (by decide) ?_
    refine A_iaddN hg dL_law_977 ?_
    refine A_sld hg hX (i + 2) (by omega) dL_law_978 ?_
    refine A_aload_n hg dL_law_979 rfl rfl ?_
    refine A_iload hg dL_law_980 rfl ?_
    refine A_iconst (v := (nI (3))) hg dL_law_982 (by decide) ?_
    refine A_iaddN hg dL_law_983 ?_
    refine A_sld hg hX (i + 3) (by omega) dL_law_984 ?_
    refine A_hV (kc2 := kc + 3) (ks2 := ks + 18) (As := [.int (xs (i + 1)), .int (xs (i + 2)), .int (xs (i + 3))]) (rest := []) hg lk_RL_199 in_X11_allows se_X11_allows rfl dL_law_985 ⟨by decide, by decide⟩ rfl rfl (hfK 3 18 (by decide) (by decide)) hc_12 (by omega) rfl rfl (Nat.le_of_ble_eq_true rfl) (c_X11_allows G false 296 σ_1 F g (xs (i + 1)) (xs (i + 2)) (xs (i + 3)) hc_12 hc_13 (by omega) hg9) ?_
    rintro _ σ_34 (⟨rfl, Mhno, hc_28, hf_29⟩ | ⟨r1M, rfl, Mhre, Mhrl, Mhnp, hc_30, hf_31⟩ | ⟨r1M, a1M, b1M, rfl, Mhre, Mhrl, Mhke, Mhle, Mhkl, Mhll, hc_32, hf_33⟩)
    · skip
      refine (?_ : AJ G K Q (kc + 3) (ks + 18) false 296 988 [some (.ref bS), some (.ref (q_h G + 0)), some (.ref (q_h G + 279)), some (.ref (q_h G + 294)), some (.ref (q_h G + 295)), some (.int (nI (i))), some (.int (nI (0))), none, none] [.int (nI (0))] σ_34)
      have hc_28 : σ_34 279 = o11 G (upd F 7 (nI (1))) := hc_28
      have hc_35 : σ_34 0 = o10 G (nI (il)) (z2) (z3) := (hf_29 0 (by decide)).trans hc_6
      have hc_36 : σ_34 1 = q_an G 600 f := (hf_29 1 (by decide)).trans hc_7
      have hc_37 : σ_34 23 = o5 G (23) (nI (lo)) := (hf_29 23 (by decide)).trans hc_8
      have hc_38 : σ_34 24 = q_an G 256 o := (hf_29 24 (by decide)).trans hc_9
      have hc_39 : σ_34 224 = q_rn G 2 2 (fun j => some (243 + 18 * j)) := (hf_29 224 (by decide)).trans hc_10
      have hc_40 : σ_34 225 = q_bn G 2 kp := (hf_29 225 (by decide)).trans hc_11
      have hc_41 : σ_34 280 = q_an G 265 g := (hf_29 280 (by decide)).trans hc_13
      have hc_42 : σ_34 281 = q_an G 265 wk := (hf_29 281 (by decide)).trans hc_14
      have hc_43 : σ_34 282 = q_an G 265 as := (hf_29 282 (by decide)).trans hc_15
      have hc_44 : σ_34 283 = q_an G 530 sh := (hf_29 283 (by decide)).trans hc_16
      have hc_45 : σ_34 284 = q_an G 2120 a := (hf_29 284 (by decide)).trans hc_17
      have hc_46 : σ_34 285 = q_bn G 1681 fb := (hf_29 285 (by decide)).trans hc_18
      have hc_47 : σ_34 286 = q_an G 1681 nv := (hf_29 286 (by decide)).trans hc_19
      have hc_48 : σ_34 287 = q_an G 1681 ns := (hf_29 287 (by decide)).trans hc_20
      have hc_49 : σ_34 288 = q_an G 2000 mk := (hf_29 288 (by decide)).trans hc_21
      have hc_50 : σ_34 289 = q_an G 6724 va := (hf_29 289 (by decide)).trans hc_22
      have hc_51 : σ_34 290 = q_an G 6724 sp := (hf_29 290 (by decide)).trans hc_23
      have hc_52 : σ_34 291 = q_an G 80 lp := (hf_29 291 (by decide)).trans hc_24
      have hc_53 : σ_34 292 = q_an G 600 f := (hf_29 292 (by decide)).trans hc_25
      have hc_54 : σ_34 293 = q_an G 300 ou := (hf_29 293 (by decide)).trans hc_26
      have hc_55 : σ_34 295 = q_dn G 1 oD := (hf_29 295 (by decide)).trans hc_27
      have hc_56 : σ_34 294 = q_ln G 1 (va_up oL 0 (lN (if s_al (s_rule g r1C) a1C b1C = true then 1 else 0))) := (hf_29 294 (by decide)).trans hc_2
      exact (Mhno r1C (by omega) Chre).elim
    · skip
      refine (?_ : AJ G K Q (kc + 3) (ks + 18) false 296 988 [some (.ref bS), some (.ref (q_h G + 0)), some (.ref (q_h G + 279)), some (.ref (q_h G + 294)), some (.ref (q_h G + 295)), some (.int (nI (i))), some (.int (nI (0))), none, none] [.int (nI (0))] σ_34)
      have hc_30 : σ_34 279 = o11 G (upd F 7 (nI (2))) := hc_30
      have hc_57 : σ_34 0 = o10 G (nI (il)) (z2) (z3) := (hf_31 0 (by decide)).trans hc_6
      have hc_58 : σ_34 1 = q_an G 600 f := (hf_31 1 (by decide)).trans hc_7
      have hc_59 : σ_34 23 = o5 G (23) (nI (lo)) := (hf_31 23 (by decide)).trans hc_8
      have hc_60 : σ_34 24 = q_an G 256 o := (hf_31 24 (by decide)).trans hc_9
      have hc_61 : σ_34 224 = q_rn G 2 2 (fun j => some (243 + 18 * j)) := (hf_31 224 (by decide)).trans hc_10
      have hc_62 : σ_34 225 = q_bn G 2 kp := (hf_31 225 (by decide)).trans hc_11
      have hc_63 : σ_34 280 = q_an G 265 g := (hf_31 280 (by decide)).trans hc_13
      have hc_64 : σ_34 281 = q_an G 265 wk := (hf_31 281 (by decide)).trans hc_14
      have hc_65 : σ_34 282 = q_an G 265 as := (hf_31 282 (by decide)).trans hc_15
      have hc_66 : σ_34 283 = q_an G 530 sh := (hf_31 283 (by decide)).trans hc_16
      have hc_67 : σ_34 284 = q_an G 2120 a := (hf_31 284 (by decide)).trans hc_17
      have hc_68 : σ_34 285 = q_bn G 1681 fb := (hf_31 285 (by decide)).trans hc_18
      have hc_69 : σ_34 286 = q_an G 1681 nv := (hf_31 286 (by decide)).trans hc_19
      have hc_70 : σ_34 287 = q_an G 1681 ns := (hf_31 287 (by decide)).trans hc_20
      have hc_71 : σ_34 288 = q_an G 2000 mk := (hf_31 288 (by decide)).trans hc_21
      have hc_72 : σ_34 289 = q_an G 6724 va := (hf_31 289 (by decide)).trans hc_22
      have hc_73 : σ_34 290 = q_an G 6724 sp := (hf_31 290 (by decide)).trans hc_23
      have hc_74 : σ_34 291 = q_an G 80 lp := (hf_31 291 (by decide)).trans hc_24
      have hc_75 : σ_34 292 = q_an G 600 f := (hf_31 292 (by decide)).trans hc_25
      have hc_76 : σ_34 293 = q_an G 300 ou := (hf_31 293 (by decide)).trans hc_26
      have hc_77 : σ_34 295 = q_dn G 1 oD := (hf_31 295 (by decide)).trans hc_27
      have hc_78 : σ_34 294 = q_ln G 1 (va_up oL 0 (lN (if s_al (s_rule g r1C) a1C b1C = true then 1 else 0))) := (hf_31 294 (by decide)).trans hc_2
      have e_r : r1C = r1M := q_nI_inj (by omega) (by omega) (Chre.symm.trans Mhre)
      subst e_r
      exact (Mhnp a1C b1C (by omega) (by omega) Chke Chle).elim
    · skip
      refine (?_ : AJ G K Q (kc + 3) (ks + 18) false 296 988 [some (.ref bS), some (.ref (q_h G + 0)), some (.ref (q_h G + 279)), some (.ref (q_h G + 294)), some (.ref (q_h G + 295)), some (.int (nI (i))), some (.int (nI (0))), none, none] [.int (q_b (s_al (s_rule g r1M) a1M b1M))] σ_34)
      have hc_32 : σ_34 279 = o11 G (upd F 7 (nI (0))) := hc_32
      have hc_79 : σ_34 0 = o10 G (nI (il)) (z2) (z3) := (hf_33 0 (by decide)).trans hc_6
      have hc_80 : σ_34 1 = q_an G 600 f := (hf_33 1 (by decide)).trans hc_7
      have hc_81 : σ_34 23 = o5 G (23) (nI (lo)) := (hf_33 23 (by decide)).trans hc_8
      have hc_82 : σ_34 24 = q_an G 256 o := (hf_33 24 (by decide)).trans hc_9
      have hc_83 : σ_34 224 = q_rn G 2 2 (fun j => some (243 + 18 * j)) := (hf_33 224 (by decide)).trans hc_10
      have hc_84 : σ_34 225 = q_bn G 2 kp := (hf_33 225 (by decide)).trans hc_11
      have hc_85 : σ_34 280 = q_an G 265 g := (hf_33 280 (by decide)).trans hc_13
      have hc_86 : σ_34 281 = q_an G 265 wk := (hf_33 281 (by decide)).trans hc_14
      have hc_87 : σ_34 282 = q_an G 265 as := (hf_33 282 (by decide)).trans hc_15
      have hc_88 : σ_34 283 = q_an G 530 sh := (hf_33 283 (by decide)).trans hc_16
      have hc_89 : σ_34 284 = q_an G 2120 a := (hf_33 284 (by decide)).trans hc_17
      have hc_90 : σ_34 285 = q_bn G 1681 fb := (hf_33 285 (by decide)).trans hc_18
      have hc_91 : σ_34 286 = q_an G 1681 nv := (hf_33 286 (by decide)).trans hc_19
      have hc_92 : σ_34 287 = q_an G 1681 ns := (hf_33 287 (by decide)).trans hc_20
      have hc_93 : σ_34 288 = q_an G 2000 mk := (hf_33 288 (by decide)).trans hc_21
      have hc_94 : σ_34 289 = q_an G 6724 va := (hf_33 289 (by decide)).trans hc_22
      have hc_95 : σ_34 290 = q_an G 6724 sp := (hf_33 290 (by decide)).trans hc_23
      have hc_96 : σ_34 291 = q_an G 80 lp := (hf_33 291 (by decide)).trans hc_24
      have hc_97 : σ_34 292 = q_an G 600 f := (hf_33 292 (by decide)).trans hc_25
      have hc_98 : σ_34 293 = q_an G 300 ou := (hf_33 293 (by decide)).trans hc_26
      have hc_99 : σ_34 295 = q_dn G 1 oD := (hf_33 295 (by decide)).trans hc_27
      have hc_100 : σ_34 294 = q_ln G 1 (va_up oL 0 (lN (if s_al (s_rule g r1C) a1C b1C = true then 1 else 0))) := (hf_33 294 (by decide)).trans hc_2
      have e_r : r1C = r1M := q_nI_inj (by omega) (by omega) (Chre.symm.trans Mhre)
      subst e_r
      have e_k : a1C = a1M := q_nI_inj (by omega) (by omega) (Chke.symm.trans Mhke)
      subst e_k
      have e_l : b1C = b1M := q_nI_inj (by omega) (by omega) (Chle.symm.trans Mhle)
      subst e_l
      refine A_istore hg dL_law_988 (by decide) (q_c1d rfl) ?_
      refine A_eq (ls2 := [some (.ref bS), some (.ref (q_h G + 0)), some (.ref (q_h G + 279)), some (.ref (q_h G + 294)), some (.ref (q_h G + 295)), some (.int (nI (i))), some (.int (nI (0))), some (.int (q_b (s_al (s_rule g r1C) a1C b1C))), none]) (st2 := []) (pc2 := 0) rfl rfl ?_
      refine A_aload_n hg dL_law_990 rfl rfl ?_
      refine A_eV (kc2 := kc + 3) (ks2 := ks + 18) (As := []) (rest := []) hg lk_RL_170 in_X11_thrown se_X11_thrown rfl dL_law_991 ⟨by decide, by decide⟩ rfl rfl (hfK 3 18 (by decide) (by decide)) hc_32 (by omega) rfl rfl (Nat.le_of_ble_eq_true rfl) (c_X11_thrown G false 296 σ_34 (upd F 7 (nI (0))) hc_32 (by omega)) ?_
      refine A_top (w := .int (nI (0))) (congrArg Value.int rfl) ?_
      refine A_iload hg dL_law_994 rfl ?_
      refine A_icmp_eqN (tgt := 1001) hg dL_law_996 (by decide) (by decide) (by decide) (fun c996 => ?_) (fun c996 => False.elim (by omega))
      refine A_iload hg dL_law_1001 rfl ?_
      refine A_if_neN (tgt := 1025) hg dL_law_1003 (by decide) (by decide) (fun c1003 => absurd (by decide) c1003) (fun c1003 => ?_)
      refine A_aload_n hg dL_law_1006 rfl rfl ?_
      refine A_iconst (v := (nI (0))) hg dL_law_1007 (by decide) ?_
      refine A_lald (j := 0) hg dL_law_1008 hc_100 (by omega) (by decide) (by decide) ?_
      refine A_top (w := .long (lN (if s_al (s_rule g r1C) a1C b1C = true then 1 else 0))) (congrArg Value.long iv_up0) ?_
      refine A_iload hg dL_law_1009 rfl ?_
      refine A_if_eqB (tgt := 1018) hg dL_law_1011 (by decide) (fun c1011 => ?_) (fun c1011 => ?_)
      · skip
        refine A_lconst (v := (lN (0))) hg dL_law_1018 (by decide) ?_
        refine A_lcmp hg dL_law_1019 ?_
        refine A_top (w := .int (nI 0)) (congrArg Value.int ((congrArg (lg_cmp (lN (if s_al (s_rule g r1C) a1C b1C = true then 1 else 0))) (congrArg lN (by rw [c1011]; rfl))).trans (lc_self _))) ?_
        refine A_if_eqN (tgt := 1025) hg dL_law_1020 (by decide) (by decide) (fun c1020 => ?_) (fun c1020 => absurd (by decide) c1020)
        refine A_goto (tgt := 3062) hg dL_law_1025 (by decide) ?_
        refine A_drop 6 ?_
        refine A_drop 7 ?_
        refine A_eq (ls2 := [some (.ref bS), some (.ref (q_h G + 0)), some (.ref (q_h G + 279)), some (.ref (q_h G + 294)), some (.ref (q_h G + 295)), some (.int (nI (i))), none, none, none]) (st2 := []) (pc2 := 0) rfl rfl ?_
        refine A_wide (kc2 := kc + 8) (ks2 := ks + 48) (by omega) (by omega) ?_
        exact hnxt _ (iv_mk il z2 z3 f lo o g nx m ps kp sn (upd F 7 (nI (0))) wk as sh a fb nv ns mk va sp lp mc z ss ou (va_up oL 0 (lN (if s_al (s_rule g r1C) a1C b1C = true then 1 else 0))) oD hc_79 hc_80 hc_81 hc_82 hc_83 hc_84 hc_32 hc_85 hc_86 hc_87 hc_88 hc_89 hc_90 hc_91 hc_92 hc_93 hc_94 hc_95 hc_96 hc_97 hc_98 hc_100 hc_99 (x_lj_e (fun i _ _ => ((hf_33 i (by omega)).trans (hf_3 i (by omega)))) hL) (x_gm_e (fun i _ _ => ((hf_33 i (by omega)).trans (hf_3 i (by omega)))) hG) (x_mx_e (fun i _ _ => ((hf_33 i (by omega)).trans (hf_3 i (by omega)))) hM) (x_hi_e (fun i _ _ => ((hf_33 i (by omega)).trans (hf_3 i (by omega)))) hHi) (x_oj_e (fun i _ _ => ((hf_33 i (by omega)).trans (hf_3 i (by omega)))) hO) (x_pj_e (fun i _ _ => ((hf_33 i (by omega)).trans (hf_3 i (by omega)))) hT) (iv_hn (fun i _ _ => ((hf_33 i (by omega)).trans (hf_3 i (by omega)))) hH) (iv_Sn (fun i _ _ => ((hf_33 i (by omega)).trans (hf_3 i (by omega)))) hSn) (iv_Kp (fun i _ _ => ((hf_33 i (by omega)).trans (hf_3 i (by omega)))) hKp) (by omega) hfb (by omega) hou hgd hps hk1 hkss hss hsn hF5 hF6 hF12 hF16 hF21 hF22 hF23 hF33 (by omega) hmk hTI hlo)
      · skip
        refine A_lconst (v := (lN (1))) hg dL_law_1014 (by decide) ?_
        refine A_goto (tgt := 1019) hg dL_law_1015 (by decide) ?_
        refine A_lcmp hg dL_law_1019 ?_
        refine A_top (w := .int (nI 0)) (congrArg Value.int ((congrArg (lg_cmp (lN (if s_al (s_rule g r1C) a1C b1C = true then 1 else 0))) (congrArg lN (by rw [c1011]; rfl))).trans (lc_self _))) ?_
        refine A_if_eqN (tgt := 1025) hg dL_law_1020 (by decide) (by decide) (fun c1020 => ?_) (fun c1020 => absurd (by decide) c1020)
        refine A_goto (tgt := 3062) hg dL_law_1025 (by decide) ?_
        refine A_drop 6 ?_
        refine A_drop 7 ?_
        refine A_eq (ls2 := [some (.ref bS), some (.ref (q_h G + 0)), some (.ref (q_h G + 279)), some (.ref (q_h G + 294)), some (.ref (q_h G + 295)), some (.int (nI (i))), none, none, none]) (st2 := []) (pc2 := 0) rfl rfl ?_
        refine A_wide (kc2 := kc + 8) (ks2 := ks + 48) (by omega) (by omega) ?_
        exact hnxt _ (iv_mk il z2 z3 f lo o g nx m ps kp sn (upd F 7 (nI (0))) wk as sh a fb nv ns mk va sp lp mc z ss ou (va_up oL 0 (lN (if s_al (s_rule g r1C) a1C b1C = true then 1 else 0))) oD hc_79 hc_80 hc_81 hc_82 hc_83 hc_84 hc_32 hc_85 hc_86 hc_87 hc_88 hc_89 hc_90 hc_91 hc_92 hc_93 hc_94 hc_95 hc_96 hc_97 hc_98 hc_100 hc_99 (x_lj_e (fun i _ _ => ((hf_33 i (by omega)).trans (hf_3 i (by omega)))) hL) (x_gm_e (fun i _ _ => ((hf_33 i (by omega)).trans (hf_3 i (by omega)))) hG) (x_mx_e (fun i _ _ => ((hf_33 i (by omega)).trans (hf_3 i (by omega)))) hM) (x_hi_e (fun i _ _ => ((hf_33 i (by omega)).trans (hf_3 i (by omega)))) hHi) (x_oj_e (fun i _ _ => ((hf_33 i (by omega)).trans (hf_3 i (by omega)))) hO) (x_pj_e (fun i _ _ => ((hf_33 i (by omega)).trans (hf_3 i (by omega)))) hT) (iv_hn (fun i _ _ => ((hf_33 i (by omega)).trans (hf_3 i (by omega)))) hH) (iv_Sn (fun i _ _ => ((hf_33 i (by omega)).trans (hf_3 i (by omega)))) hSn) (iv_Kp (fun i _ _ => ((hf_33 i (by omega)).trans (hf_3 i (by omega)))) hKp) (by omega) hfb (by omega) hou hgd hps hk1 hkss hss hsn hF5 hF6 hF12 hF16 hF21 hF22 hF23 hF33 (by omega) hmk hTI hlo)
  · skip
    rw [he_4]
    refine (?_ : AJ G K Q (kc + 3) (ks + 18) false 296 964 [some (.ref bS), some (.ref (q_h G + 0)), some (.ref (q_h G + 279)), some (.ref (q_h G + 294)), some (.ref (q_h G + 295)), some (.int (nI (i))), none, none, none] [.int (nI (1))] σ)
    refine A_istore hg dL_law_964 (by decide) (q_c1d rfl) ?_
    refine A_eq (ls2 := [some (.ref bS), some (.ref (q_h G + 0)), some (.ref (q_h G + 279)), some (.ref (q_h G + 294)), some (.ref (q_h G + 295)), some (.int (nI (i))), some (.int (nI (1))), none, none]) (st2 := []) (pc2 := 0) rfl rfl ?_
    refine A_aload_n hg dL_law_966 rfl rfl ?_
    refine A_aload_n hg dL_law_967 rfl rfl ?_
    refine A_iload hg dL_law_968 rfl ?_
    refine A_iconst (v := (nI (1))) hg dL_law_970 (by decide) ?_
    refine A_iaddN hg dL_law_971 ?_
    refine A_sld hg hX (i + 1) (by omega) dL_law_972 ?_
    refine A_aload_n hg dL_law_973 rfl rfl ?_
    refine A_iload hg dL_law_974 rfl ?_
    refine A_iconst (v := (nI (2))) hg dL_law_976 (by decide) ?_
    refine A_iaddN hg dL_law_977 ?_
    refine A_sld hg hX (i + 2) (by omega) dL_law_978 ?_
    refine A_aload_n hg dL_law_979 rfl rfl ?_
    refine A_iload hg dL_law_980 rfl ?_
    refine A_iconst (v := (nI (3))) hg dL_law_982 (by decide) ?_
    refine A_iaddN hg dL_law_983 ?_
    refine A_sld hg hX (i + 3) (by omega) dL_law_984 ?_
    refine A_hV (kc2 := kc + 3) (ks2 := ks + 18) (As := [.int (xs (i + 1)), .int (xs (i + 2)), .int (xs (i + 3))]) (rest := []) hg lk_RL_199 in_X11_allows se_X11_allows rfl dL_law_985 ⟨by decide, by decide⟩ rfl rfl (hfK 3 18 (by decide) (by decide)) hv6 (by omega) rfl rfl (Nat.le_of_ble_eq_true rfl) (c_X11_allows G false 296 σ F g (xs (i + 1)) (xs (i + 2)) (xs (i + 3)) hv6 hv7 (by omega) hg9) ?_
    rintro _ σ_107 (⟨rfl, Mhno, hc_101, hf_102⟩ | ⟨r1M, rfl, Mhre, Mhrl, Mhnp, hc_103, hf_104⟩ | ⟨r1M, a1M, b1M, rfl, Mhre, Mhrl, Mhke, Mhle, Mhkl, Mhll, hc_105, hf_106⟩)
    · skip
      refine (?_ : AJ G K Q (kc + 3) (ks + 18) false 296 988 [some (.ref bS), some (.ref (q_h G + 0)), some (.ref (q_h G + 279)), some (.ref (q_h G + 294)), some (.ref (q_h G + 295)), some (.int (nI (i))), some (.int (nI (1))), none, none] [.int (nI (0))] σ_107)
      have hc_101 : σ_107 279 = o11 G (upd F 7 (nI (1))) := hc_101
      have hc_108 : σ_107 0 = o10 G (nI (il)) (z2) (z3) := (hf_102 0 (by decide)).trans hv0
      have hc_109 : σ_107 1 = q_an G 600 f := (hf_102 1 (by decide)).trans hv1
      have hc_110 : σ_107 23 = o5 G (23) (nI (lo)) := (hf_102 23 (by decide)).trans hv2
      have hc_111 : σ_107 24 = q_an G 256 o := (hf_102 24 (by decide)).trans hv3
      have hc_112 : σ_107 224 = q_rn G 2 2 (fun j => some (243 + 18 * j)) := (hf_102 224 (by decide)).trans hv4
      have hc_113 : σ_107 225 = q_bn G 2 kp := (hf_102 225 (by decide)).trans hv5
      have hc_114 : σ_107 280 = q_an G 265 g := (hf_102 280 (by decide)).trans hv7
      have hc_115 : σ_107 281 = q_an G 265 wk := (hf_102 281 (by decide)).trans hv8
      have hc_116 : σ_107 282 = q_an G 265 as := (hf_102 282 (by decide)).trans hv9
      have hc_117 : σ_107 283 = q_an G 530 sh := (hf_102 283 (by decide)).trans hv10
      have hc_118 : σ_107 284 = q_an G 2120 a := (hf_102 284 (by decide)).trans hv11
      have hc_119 : σ_107 285 = q_bn G 1681 fb := (hf_102 285 (by decide)).trans hv12
      have hc_120 : σ_107 286 = q_an G 1681 nv := (hf_102 286 (by decide)).trans hv13
      have hc_121 : σ_107 287 = q_an G 1681 ns := (hf_102 287 (by decide)).trans hv14
      have hc_122 : σ_107 288 = q_an G 2000 mk := (hf_102 288 (by decide)).trans hv15
      have hc_123 : σ_107 289 = q_an G 6724 va := (hf_102 289 (by decide)).trans hv16
      have hc_124 : σ_107 290 = q_an G 6724 sp := (hf_102 290 (by decide)).trans hv17
      have hc_125 : σ_107 291 = q_an G 80 lp := (hf_102 291 (by decide)).trans hv18
      have hc_126 : σ_107 292 = q_an G 600 f := (hf_102 292 (by decide)).trans hv19
      have hc_127 : σ_107 293 = q_an G 300 ou := (hf_102 293 (by decide)).trans hv20
      have hc_128 : σ_107 294 = q_ln G 1 oL := (hf_102 294 (by decide)).trans hv21
      have hc_129 : σ_107 295 = q_dn G 1 oD := (hf_102 295 (by decide)).trans hv22
      refine A_istore hg dL_law_988 (by decide) (q_c1d rfl) ?_
      refine A_eq (ls2 := [some (.ref bS), some (.ref (q_h G + 0)), some (.ref (q_h G + 279)), some (.ref (q_h G + 294)), some (.ref (q_h G + 295)), some (.int (nI (i))), some (.int (nI (1))), some (.int (nI (0))), none]) (st2 := []) (pc2 := 0) rfl rfl ?_
      refine A_aload_n hg dL_law_990 rfl rfl ?_
      refine A_eV (kc2 := kc + 3) (ks2 := ks + 18) (As := []) (rest := []) hg lk_RL_170 in_X11_thrown se_X11_thrown rfl dL_law_991 ⟨by decide, by decide⟩ rfl rfl (hfK 3 18 (by decide) (by decide)) hc_101 (by omega) rfl rfl (Nat.le_of_ble_eq_true rfl) (c_X11_thrown G false 296 σ_107 (upd F 7 (nI (1))) hc_101 (by omega)) ?_
      refine A_top (w := .int (nI (1))) (congrArg Value.int rfl) ?_
      refine A_iload hg dL_law_994 rfl ?_
      refine A_icmp_eqN (tgt := 1001) hg dL_law_996 (by decide) (by decide) (by decide) (fun c996 => ?_) (fun c996 => False.elim (by omega))
      refine A_iload hg dL_law_1001 rfl ?_
      refine A_if_neN (tgt := 1025) hg dL_law_1003 (by decide) (by decide) (fun c1003 => ?_) (fun c1003 => absurd c1003 (by decide))
      refine A_goto (tgt := 3062) hg dL_law_1025 (by decide) ?_
      refine A_drop 6 ?_
      refine A_drop 7 ?_
      refine A_eq (ls2 := [some (.ref bS), some (.ref (q_h G + 0)), some (.ref (q_h G + 279)), some (.ref (q_h G + 294)), some (.ref (q_h G + 295)), some (.int (nI (i))), none, none, none]) (st2 := []) (pc2 := 0) rfl rfl ?_
      refine A_wide (kc2 := kc + 8) (ks2 := ks + 48) (by omega) (by omega) ?_
      exact hnxt _ (iv_mk il z2 z3 f lo o g nx m ps kp sn (upd F 7 (nI (1))) wk as sh a fb nv ns mk va sp lp mc z ss ou oL oD hc_108 hc_109 hc_110 hc_111 hc_112 hc_113 hc_101 hc_114 hc_115 hc_116 hc_117 hc_118 hc_119 hc_120 hc_121 hc_122 hc_123 hc_124 hc_125 hc_126 hc_127 hc_128 hc_129 (x_lj_e (fun i _ _ => (hf_102 i (by omega))) hL) (x_gm_e (fun i _ _ => (hf_102 i (by omega))) hG) (x_mx_e (fun i _ _ => (hf_102 i (by omega))) hM) (x_hi_e (fun i _ _ => (hf_102 i (by omega))) hHi) (x_oj_e (fun i _ _ => (hf_102 i (by omega))) hO) (x_pj_e (fun i _ _ => (hf_102 i (by omega))) hT) (iv_hn (fun i _ _ => (hf_102 i (by omega))) hH) (iv_Sn (fun i _ _ => (hf_102 i (by omega))) hSn) (iv_Kp (fun i _ _ => (hf_102 i (by omega))) hKp) (by omega) hfb (by omega) hou hgd hps hk1 hkss hss hsn hF5 hF6 hF12 hF16 hF21 hF22 hF23 hF33 (by omega) hmk hTI hlo)
    · skip
      refine (?_ : AJ G K Q (kc + 3) (ks + 18) false 296 988 [some (.ref bS), some (.ref (q_h G + 0)), some (.ref (q_h G + 279)), some (.ref (q_h G + 294)), some (.ref (q_h G + 295)), some (.int (nI (i))), some (.int (nI (1))), none, none] [.int (nI (0))] σ_107)
      have hc_103 : σ_107 279 = o11 G (upd F 7 (nI (2))) := hc_103
      have hc_130 : σ_107 0 = o10 G (nI (il)) (z2) (z3) := (hf_104 0 (by decide)).trans hv0
      have hc_131 : σ_107 1 = q_an G 600 f := (hf_104 1 (by decide)).trans hv1
      have hc_132 : σ_107 23 = o5 G (23) (nI (lo)) := (hf_104 23 (by decide)).trans hv2
      have hc_133 : σ_107 24 = q_an G 256 o := (hf_104 24 (by decide)).trans hv3
      have hc_134 : σ_107 224 = q_rn G 2 2 (fun j => some (243 + 18 * j)) := (hf_104 224 (by decide)).trans hv4
      have hc_135 : σ_107 225 = q_bn G 2 kp := (hf_104 225 (by decide)).trans hv5
      have hc_136 : σ_107 280 = q_an G 265 g := (hf_104 280 (by decide)).trans hv7
      have hc_137 : σ_107 281 = q_an G 265 wk := (hf_104 281 (by decide)).trans hv8
      have hc_138 : σ_107 282 = q_an G 265 as := (hf_104 282 (by decide)).trans hv9
      have hc_139 : σ_107 283 = q_an G 530 sh := (hf_104 283 (by decide)).trans hv10
      have hc_140 : σ_107 284 = q_an G 2120 a := (hf_104 284 (by decide)).trans hv11
      have hc_141 : σ_107 285 = q_bn G 1681 fb := (hf_104 285 (by decide)).trans hv12
      have hc_142 : σ_107 286 = q_an G 1681 nv := (hf_104 286 (by decide)).trans hv13
      have hc_143 : σ_107 287 = q_an G 1681 ns := (hf_104 287 (by decide)).trans hv14
      have hc_144 : σ_107 288 = q_an G 2000 mk := (hf_104 288 (by decide)).trans hv15
      have hc_145 : σ_107 289 = q_an G 6724 va := (hf_104 289 (by decide)).trans hv16
      have hc_146 : σ_107 290 = q_an G 6724 sp := (hf_104 290 (by decide)).trans hv17
      have hc_147 : σ_107 291 = q_an G 80 lp := (hf_104 291 (by decide)).trans hv18
      have hc_148 : σ_107 292 = q_an G 600 f := (hf_104 292 (by decide)).trans hv19
      have hc_149 : σ_107 293 = q_an G 300 ou := (hf_104 293 (by decide)).trans hv20
      have hc_150 : σ_107 294 = q_ln G 1 oL := (hf_104 294 (by decide)).trans hv21
      have hc_151 : σ_107 295 = q_dn G 1 oD := (hf_104 295 (by decide)).trans hv22
      exact (Chxx r1M (by omega) Mhre).elim
    · skip
      refine (?_ : AJ G K Q (kc + 3) (ks + 18) false 296 988 [some (.ref bS), some (.ref (q_h G + 0)), some (.ref (q_h G + 279)), some (.ref (q_h G + 294)), some (.ref (q_h G + 295)), some (.int (nI (i))), some (.int (nI (1))), none, none] [.int (q_b (s_al (s_rule g r1M) a1M b1M))] σ_107)
      have hc_105 : σ_107 279 = o11 G (upd F 7 (nI (0))) := hc_105
      have hc_152 : σ_107 0 = o10 G (nI (il)) (z2) (z3) := (hf_106 0 (by decide)).trans hv0
      have hc_153 : σ_107 1 = q_an G 600 f := (hf_106 1 (by decide)).trans hv1
      have hc_154 : σ_107 23 = o5 G (23) (nI (lo)) := (hf_106 23 (by decide)).trans hv2
      have hc_155 : σ_107 24 = q_an G 256 o := (hf_106 24 (by decide)).trans hv3
      have hc_156 : σ_107 224 = q_rn G 2 2 (fun j => some (243 + 18 * j)) := (hf_106 224 (by decide)).trans hv4
      have hc_157 : σ_107 225 = q_bn G 2 kp := (hf_106 225 (by decide)).trans hv5
      have hc_158 : σ_107 280 = q_an G 265 g := (hf_106 280 (by decide)).trans hv7
      have hc_159 : σ_107 281 = q_an G 265 wk := (hf_106 281 (by decide)).trans hv8
      have hc_160 : σ_107 282 = q_an G 265 as := (hf_106 282 (by decide)).trans hv9
      have hc_161 : σ_107 283 = q_an G 530 sh := (hf_106 283 (by decide)).trans hv10
      have hc_162 : σ_107 284 = q_an G 2120 a := (hf_106 284 (by decide)).trans hv11
      have hc_163 : σ_107 285 = q_bn G 1681 fb := (hf_106 285 (by decide)).trans hv12
      have hc_164 : σ_107 286 = q_an G 1681 nv := (hf_106 286 (by decide)).trans hv13
      have hc_165 : σ_107 287 = q_an G 1681 ns := (hf_106 287 (by decide)).trans hv14
      have hc_166 : σ_107 288 = q_an G 2000 mk := (hf_106 288 (by decide)).trans hv15
      have hc_167 : σ_107 289 = q_an G 6724 va := (hf_106 289 (by decide)).trans hv16
      have hc_168 : σ_107 290 = q_an G 6724 sp := (hf_106 290 (by decide)).trans hv17
      have hc_169 : σ_107 291 = q_an G 80 lp := (hf_106 291 (by decide)).trans hv18
      have hc_170 : σ_107 292 = q_an G 600 f := (hf_106 292 (by decide)).trans hv19
      have hc_171 : σ_107 293 = q_an G 300 ou := (hf_106 293 (by decide)).trans hv20
      have hc_172 : σ_107 294 = q_ln G 1 oL := (hf_106 294 (by decide)).trans hv21
      have hc_173 : σ_107 295 = q_dn G 1 oD := (hf_106 295 (by decide)).trans hv22
      exact (Chxx r1M (by omega) Mhre).elim
  · skip
    rw [he_5]
    refine (?_ : AJ G K Q (kc + 3) (ks + 18) false 296 964 [some (.ref bS), some (.ref (q_h G + 0)), some (.ref (q_h G + 279)), some (.ref (q_h G + 294)), some (.ref (q_h G + 295)), some (.int (nI (i))), none, none, none] [.int (nI (2))] σ)
    obtain ⟨r1C, Chx0, Chx1, Chx2⟩ := Chxx
    refine A_istore hg dL_law_964 (by decide) (q_c1d rfl) ?_
    refine A_eq (ls2 := [some (.ref bS), some (.ref (q_h G + 0)), some (.ref (q_h G + 279)), some (.ref (q_h G + 294)), some (.ref (q_h G + 295)), some (.int (nI (i))), some (.int (nI (2))), none, none]) (st2 := []) (pc2 := 0) rfl rfl ?_
    refine A_aload_n hg dL_law_966 rfl rfl ?_
    refine A_aload_n hg dL_law_967 rfl rfl ?_
    refine A_iload hg dL_law_968 rfl ?_
    refine A_iconst (v := (nI (1))) hg dL_law_970 (by decide) ?_
    refine A_iaddN hg dL_law_971 ?_
    refine A_sld hg hX (i + 1) (by omega) dL_law_972 ?_
    refine A_aload_n hg dL_law_973 rfl rfl ?_
    refine A_iload hg dL_law_974 rfl ?_
    refine A_iconst (v := (nI (2))) hg dL_law_976 (by decide) ?_
    refine A_iaddN hg dL_law_977 ?_
    refine A_sld hg hX (i + 2) (by omega) dL_law_978 ?_
    refine A_aload_n hg dL_law_979 rfl rfl ?_
    refine A_iload hg dL_law_980 rfl ?_
    refine A_iconst (v := (nI (3))) hg dL_law_982 (by decide) ?_
    refine A_iaddN hg dL_law_983 ?_
    refine A_sld hg hX (i + 3) (by omega) dL_law_984 ?_
    refine A_hV (kc2 := kc + 3) (ks2 := ks + 18) (As := [.int (xs (i + 1)), .int (xs (i + 2)), .int (xs (i + 3))]) (rest := []) hg lk_RL_199 in_X11_allows se_X11_allows rfl dL_law_985 ⟨by decide, by decide⟩ rfl rfl (hfK 3 18 (by decide) (by decide)) hv6 (by omega) rfl rfl (Nat.le_of_ble_eq_true rfl) (c_X11_allows G false 296 σ F g (xs (i + 1)) (xs (i + 2)) (xs (i + 3)) hv6 hv7 (by omega) hg9) ?_
    rintro _ σ_180 (⟨rfl, Mhno, hc_174, hf_175⟩ | ⟨r1M, rfl, Mhre, Mhrl, Mhnp, hc_176, hf_177⟩ | ⟨r1M, a1M, b1M, rfl, Mhre, Mhrl, Mhke, Mhle, Mhkl, Mhll, hc_178, hf_179⟩)
    · skip
      refine (?_ : AJ G K Q (kc + 3) (ks + 18) false 296 988 [some (.ref bS), some (.ref (q_h G + 0)), some (.ref (q_h G + 279)), some (.ref (q_h G + 294)), some (.ref (q_h G + 295)), some (.int (nI (i))), some (.int (nI (2))), none, none] [.int (nI (0))] σ_180)
      have hc_174 : σ_180 279 = o11 G (upd F 7 (nI (1))) := hc_174
      have hc_181 : σ_180 0 = o10 G (nI (il)) (z2) (z3) := (hf_175 0 (by decide)).trans hv0
      have hc_182 : σ_180 1 = q_an G 600 f := (hf_175 1 (by decide)).trans hv1
      have hc_183 : σ_180 23 = o5 G (23) (nI (lo)) := (hf_175 23 (by decide)).trans hv2
      have hc_184 : σ_180 24 = q_an G 256 o := (hf_175 24 (by decide)).trans hv3
      have hc_185 : σ_180 224 = q_rn G 2 2 (fun j => some (243 + 18 * j)) := (hf_175 224 (by decide)).trans hv4
      have hc_186 : σ_180 225 = q_bn G 2 kp := (hf_175 225 (by decide)).trans hv5
      have hc_187 : σ_180 280 = q_an G 265 g := (hf_175 280 (by decide)).trans hv7
      have hc_188 : σ_180 281 = q_an G 265 wk := (hf_175 281 (by decide)).trans hv8
      have hc_189 : σ_180 282 = q_an G 265 as := (hf_175 282 (by decide)).trans hv9
      have hc_190 : σ_180 283 = q_an G 530 sh := (hf_175 283 (by decide)).trans hv10
      have hc_191 : σ_180 284 = q_an G 2120 a := (hf_175 284 (by decide)).trans hv11
      have hc_192 : σ_180 285 = q_bn G 1681 fb := (hf_175 285 (by decide)).trans hv12
      have hc_193 : σ_180 286 = q_an G 1681 nv := (hf_175 286 (by decide)).trans hv13
      have hc_194 : σ_180 287 = q_an G 1681 ns := (hf_175 287 (by decide)).trans hv14
      have hc_195 : σ_180 288 = q_an G 2000 mk := (hf_175 288 (by decide)).trans hv15
      have hc_196 : σ_180 289 = q_an G 6724 va := (hf_175 289 (by decide)).trans hv16
      have hc_197 : σ_180 290 = q_an G 6724 sp := (hf_175 290 (by decide)).trans hv17
      have hc_198 : σ_180 291 = q_an G 80 lp := (hf_175 291 (by decide)).trans hv18
      have hc_199 : σ_180 292 = q_an G 600 f := (hf_175 292 (by decide)).trans hv19
      have hc_200 : σ_180 293 = q_an G 300 ou := (hf_175 293 (by decide)).trans hv20
      have hc_201 : σ_180 294 = q_ln G 1 oL := (hf_175 294 (by decide)).trans hv21
      have hc_202 : σ_180 295 = q_dn G 1 oD := (hf_175 295 (by decide)).trans hv22
      exact (Mhno r1C (by omega) Chx0).elim
    · skip
      refine (?_ : AJ G K Q (kc + 3) (ks + 18) false 296 988 [some (.ref bS), some (.ref (q_h G + 0)), some (.ref (q_h G + 279)), some (.ref (q_h G + 294)), some (.ref (q_h G + 295)), some (.int (nI (i))), some (.int (nI (2))), none, none] [.int (nI (0))] σ_180)
      have hc_176 : σ_180 279 = o11 G (upd F 7 (nI (2))) := hc_176
      have hc_203 : σ_180 0 = o10 G (nI (il)) (z2) (z3) := (hf_177 0 (by decide)).trans hv0
      have hc_204 : σ_180 1 = q_an G 600 f := (hf_177 1 (by decide)).trans hv1
      have hc_205 : σ_180 23 = o5 G (23) (nI (lo)) := (hf_177 23 (by decide)).trans hv2
      have hc_206 : σ_180 24 = q_an G 256 o := (hf_177 24 (by decide)).trans hv3
      have hc_207 : σ_180 224 = q_rn G 2 2 (fun j => some (243 + 18 * j)) := (hf_177 224 (by decide)).trans hv4
      have hc_208 : σ_180 225 = q_bn G 2 kp := (hf_177 225 (by decide)).trans hv5
      have hc_209 : σ_180 280 = q_an G 265 g := (hf_177 280 (by decide)).trans hv7
      have hc_210 : σ_180 281 = q_an G 265 wk := (hf_177 281 (by decide)).trans hv8
      have hc_211 : σ_180 282 = q_an G 265 as := (hf_177 282 (by decide)).trans hv9
      have hc_212 : σ_180 283 = q_an G 530 sh := (hf_177 283 (by decide)).trans hv10
      have hc_213 : σ_180 284 = q_an G 2120 a := (hf_177 284 (by decide)).trans hv11
      have hc_214 : σ_180 285 = q_bn G 1681 fb := (hf_177 285 (by decide)).trans hv12
      have hc_215 : σ_180 286 = q_an G 1681 nv := (hf_177 286 (by decide)).trans hv13
      have hc_216 : σ_180 287 = q_an G 1681 ns := (hf_177 287 (by decide)).trans hv14
      have hc_217 : σ_180 288 = q_an G 2000 mk := (hf_177 288 (by decide)).trans hv15
      have hc_218 : σ_180 289 = q_an G 6724 va := (hf_177 289 (by decide)).trans hv16
      have hc_219 : σ_180 290 = q_an G 6724 sp := (hf_177 290 (by decide)).trans hv17
      have hc_220 : σ_180 291 = q_an G 80 lp := (hf_177 291 (by decide)).trans hv18
      have hc_221 : σ_180 292 = q_an G 600 f := (hf_177 292 (by decide)).trans hv19
      have hc_222 : σ_180 293 = q_an G 300 ou := (hf_177 293 (by decide)).trans hv20
      have hc_223 : σ_180 294 = q_ln G 1 oL := (hf_177 294 (by decide)).trans hv21
      have hc_224 : σ_180 295 = q_dn G 1 oD := (hf_177 295 (by decide)).trans hv22
      have e_r : r1C = r1M := q_nI_inj (by omega) (by omega) (Chx0.symm.trans Mhre)
      subst e_r
      refine A_istore hg dL_law_988 (by decide) (q_c1d rfl) ?_
      refine A_eq (ls2 := [some (.ref bS), some (.ref (q_h G + 0)), some (.ref (q_h G + 279)), some (.ref (q_h G + 294)), some (.ref (q_h G + 295)), some (.int (nI (i))), some (.int (nI (2))), some (.int (nI (0))), none]) (st2 := []) (pc2 := 0) rfl rfl ?_
      refine A_aload_n hg dL_law_990 rfl rfl ?_
      refine A_eV (kc2 := kc + 3) (ks2 := ks + 18) (As := []) (rest := []) hg lk_RL_170 in_X11_thrown se_X11_thrown rfl dL_law_991 ⟨by decide, by decide⟩ rfl rfl (hfK 3 18 (by decide) (by decide)) hc_176 (by omega) rfl rfl (Nat.le_of_ble_eq_true rfl) (c_X11_thrown G false 296 σ_180 (upd F 7 (nI (2))) hc_176 (by omega)) ?_
      refine A_top (w := .int (nI (2))) (congrArg Value.int rfl) ?_
      refine A_iload hg dL_law_994 rfl ?_
      refine A_icmp_eqN (tgt := 1001) hg dL_law_996 (by decide) (by decide) (by decide) (fun c996 => ?_) (fun c996 => False.elim (by omega))
      refine A_iload hg dL_law_1001 rfl ?_
      refine A_if_neN (tgt := 1025) hg dL_law_1003 (by decide) (by decide) (fun c1003 => ?_) (fun c1003 => absurd c1003 (by decide))
      refine A_goto (tgt := 3062) hg dL_law_1025 (by decide) ?_
      refine A_drop 6 ?_
      refine A_drop 7 ?_
      refine A_eq (ls2 := [some (.ref bS), some (.ref (q_h G + 0)), some (.ref (q_h G + 279)), some (.ref (q_h G + 294)), some (.ref (q_h G + 295)), some (.int (nI (i))), none, none, none]) (st2 := []) (pc2 := 0) rfl rfl ?_
      refine A_wide (kc2 := kc + 8) (ks2 := ks + 48) (by omega) (by omega) ?_
      exact hnxt _ (iv_mk il z2 z3 f lo o g nx m ps kp sn (upd F 7 (nI (2))) wk as sh a fb nv ns mk va sp lp mc z ss ou oL oD hc_203 hc_204 hc_205 hc_206 hc_207 hc_208 hc_176 hc_209 hc_210 hc_211 hc_212 hc_213 hc_214 hc_215 hc_216 hc_217 hc_218 hc_219 hc_220 hc_221 hc_222 hc_223 hc_224 (x_lj_e (fun i _ _ => (hf_177 i (by omega))) hL) (x_gm_e (fun i _ _ => (hf_177 i (by omega))) hG) (x_mx_e (fun i _ _ => (hf_177 i (by omega))) hM) (x_hi_e (fun i _ _ => (hf_177 i (by omega))) hHi) (x_oj_e (fun i _ _ => (hf_177 i (by omega))) hO) (x_pj_e (fun i _ _ => (hf_177 i (by omega))) hT) (iv_hn (fun i _ _ => (hf_177 i (by omega))) hH) (iv_Sn (fun i _ _ => (hf_177 i (by omega))) hSn) (iv_Kp (fun i _ _ => (hf_177 i (by omega))) hKp) (by omega) hfb (by omega) hou hgd hps hk1 hkss hss hsn hF5 hF6 hF12 hF16 hF21 hF22 hF23 hF33 (by omega) hmk hTI hlo)
    · skip
      refine (?_ : AJ G K Q (kc + 3) (ks + 18) false 296 988 [some (.ref bS), some (.ref (q_h G + 0)), some (.ref (q_h G + 279)), some (.ref (q_h G + 294)), some (.ref (q_h G + 295)), some (.int (nI (i))), some (.int (nI (2))), none, none] [.int (q_b (s_al (s_rule g r1M) a1M b1M))] σ_180)
      have hc_178 : σ_180 279 = o11 G (upd F 7 (nI (0))) := hc_178
      have hc_225 : σ_180 0 = o10 G (nI (il)) (z2) (z3) := (hf_179 0 (by decide)).trans hv0
      have hc_226 : σ_180 1 = q_an G 600 f := (hf_179 1 (by decide)).trans hv1
      have hc_227 : σ_180 23 = o5 G (23) (nI (lo)) := (hf_179 23 (by decide)).trans hv2
      have hc_228 : σ_180 24 = q_an G 256 o := (hf_179 24 (by decide)).trans hv3
      have hc_229 : σ_180 224 = q_rn G 2 2 (fun j => some (243 + 18 * j)) := (hf_179 224 (by decide)).trans hv4
      have hc_230 : σ_180 225 = q_bn G 2 kp := (hf_179 225 (by decide)).trans hv5
      have hc_231 : σ_180 280 = q_an G 265 g := (hf_179 280 (by decide)).trans hv7
      have hc_232 : σ_180 281 = q_an G 265 wk := (hf_179 281 (by decide)).trans hv8
      have hc_233 : σ_180 282 = q_an G 265 as := (hf_179 282 (by decide)).trans hv9
      have hc_234 : σ_180 283 = q_an G 530 sh := (hf_179 283 (by decide)).trans hv10
      have hc_235 : σ_180 284 = q_an G 2120 a := (hf_179 284 (by decide)).trans hv11
      have hc_236 : σ_180 285 = q_bn G 1681 fb := (hf_179 285 (by decide)).trans hv12
      have hc_237 : σ_180 286 = q_an G 1681 nv := (hf_179 286 (by decide)).trans hv13
      have hc_238 : σ_180 287 = q_an G 1681 ns := (hf_179 287 (by decide)).trans hv14
      have hc_239 : σ_180 288 = q_an G 2000 mk := (hf_179 288 (by decide)).trans hv15
      have hc_240 : σ_180 289 = q_an G 6724 va := (hf_179 289 (by decide)).trans hv16
      have hc_241 : σ_180 290 = q_an G 6724 sp := (hf_179 290 (by decide)).trans hv17
      have hc_242 : σ_180 291 = q_an G 80 lp := (hf_179 291 (by decide)).trans hv18
      have hc_243 : σ_180 292 = q_an G 600 f := (hf_179 292 (by decide)).trans hv19
      have hc_244 : σ_180 293 = q_an G 300 ou := (hf_179 293 (by decide)).trans hv20
      have hc_245 : σ_180 294 = q_ln G 1 oL := (hf_179 294 (by decide)).trans hv21
      have hc_246 : σ_180 295 = q_dn G 1 oD := (hf_179 295 (by decide)).trans hv22
      have e_r : r1C = r1M := q_nI_inj (by omega) (by omega) (Chx0.symm.trans Mhre)
      subst e_r
      exact (Chx2 a1M b1M (by omega) (by omega) Mhke Mhle).elim
set_option maxRecDepth 100000 in
set_option maxHeartbeats 4000000 in
theorem law_c14 (G : GL) (K : KC) (Q : State → Prop) (hh : List (Nat × Nat × Nat × Nat)) (hg : Gd G K RL code 9 ret room_1 hh) (bS L : Nat) (xs : Nat → Int32) (hX : q_scr G K bS L xs) (i kc ks J : Nat) (hi : i + 5 < L) (hL31 : L < 2 ^ 31) (hkc : kc + 8 ≤ 601024) (hks : ks + 48 ≤ 7293034) (σ : Nat → va_E) (hI : iv G σ J) (hJ : J < 512) (hfd : q_fdn) (hdd : q_ddn) (hf2 : q_f2n) (hds : q_dcs) (hnxt : ∀ σ9 : Nat → va_E, iv G σ9 (J + 1) → AJ G K Q (kc + 8) (ks + 48) false 296 3062 [some (.ref bS), some (.ref (q_h G + 0)), some (.ref (q_h G + 279)), some (.ref (q_h G + 294)), some (.ref (q_h G + 295)), some (.int (nI (i))), none, none, none] [] σ9) : AJ G K Q kc ks false 296 1028 [some (.ref bS), some (.ref (q_h G + 0)), some (.ref (q_h G + 279)), some (.ref (q_h G + 294)), some (.ref (q_h G + 295)), some (.int (nI (i))), none, none, none] [] σ := by
  refine iv_el hI ?_
  intro il z2 z3 f lo o g nx m ps kp sn F wk as sh a fb nv ns mk va sp lp mc z ss ou oL oD
  intro hv0 hv1 hv2 hv3 hv4 hv5 hv6 hv7 hv8 hv9 hv10 hv11 hv12 hv13 hv14 hv15 hv16 hv17 hv18 hv19 hv20 hv21 hv22
  intro hL hG hM hHi hO hT hH hSn hKp
  intro hil hfb hlo2 hou hgd hps hk1 hkss hss hsn hF5 hF6 hF12 hF16 hF21 hF22 hF23 hF33 hmc hmk hTI hlo
  have hfK : ∀ a b : Nat, a ≤ 8 → b ≤ 48 → kc + a ≤ room_1.cells ∧ ks + b ≤ room_1.slots := fun a b h1 h2 => ⟨by show kc + a ≤ 601024; omega, by show ks + b ≤ 7293034; omega⟩
  have hg9 := iv_g hG
  obtain ⟨hnx8, hm8, hc78⟩ := iv_hi hHi
  have hbb := iv_byte (m := il) hfb
  have hg90 := hg9.1
  have hg96 := hg9.2.2.2.2.1
  have hnp8 := s_np_le hg9
  refine A_aload_n hg dL_law_1028 rfl rfl ?_
  refine A_aload_n hg dL_law_1029 rfl rfl ?_
  refine A_iload hg dL_law_1030 rfl ?_
  refine A_iconst (v := (nI (1))) hg dL_law_1032 (by decide) ?_
  refine A_iaddN hg dL_law_1033 ?_
  refine A_sld hg hX (i + 1) (by omega) dL_law_1034 ?_
  refine A_aload_n hg dL_law_1035 rfl rfl ?_
  refine A_iload hg dL_law_1036 rfl ?_
  refine A_iconst (v := (nI (2))) hg dL_law_1038 (by decide) ?_
  refine A_iaddN hg dL_law_1039 ?_
  refine A_sld hg hX (i + 2) (by omega) dL_law_1040 ?_
  refine A_aload_n hg dL_law_1041 rfl rfl ?_
  refine A_iload hg dL_law_1042 rfl ?_
  refine A_iconst (v := (nI (3))) hg dL_law_1044 (by decide) ?_
  refine A_iaddN hg dL_law_1045 ?_
  refine A_sld hg hX (i + 3) (by omega) dL_law_1046 ?_
  refine A_aload_n hg dL_law_1047 rfl rfl ?_
  refine A_callSH (As := [.ref (q_h G + 0), .int (xs (i + 1)), .int (xs (i + 2)), .int (xs (i + 3)), .ref (q_h G + 294)]) (rest := []) hg lkH_200 stH_L_whyNot dL_law_1048 ⟨by decide, by decide⟩ (hfK 1 6 (by decide) (by decide)) rfl rfl (Nat.le_of_ble_eq_true rfl) (c_L_whyNot G 296 σ (nI (il)) z2 z3 g (xs (i + 1)) (xs (i + 2)) (xs (i + 3)) oL hv0 hv21 (by omega) hG (by omega)) ?_
  rintro _ σ_1 (⟨p1C, rfl, Chpe, Chpl, hc_2, hf_3⟩ | ⟨rfl, Chxx, he_4⟩)
  · skip
    refine (?_ : AJ G K Q (kc + 1) (ks + 6) false 296 1051 [some (.ref bS), some (.ref (q_h G + 0)), some (.ref (q_h G + 279)), some (.ref (q_h G + 294)), some (.ref (q_h G + 295)), some (.int (nI (i))), none, none, none] [.int (nI (0))] σ_1)
    have hc_5 : σ_1 0 = o10 G (nI (il)) (z2) (z3) := (hf_3 0 (by decide)).trans hv0
    have hc_6 : σ_1 1 = q_an G 600 f := (hf_3 1 (by decide)).trans hv1
    have hc_7 : σ_1 23 = o5 G (23) (nI (lo)) := (hf_3 23 (by decide)).trans hv2
    have hc_8 : σ_1 24 = q_an G 256 o := (hf_3 24 (by decide)).trans hv3
    have hc_9 : σ_1 224 = q_rn G 2 2 (fun j => some (243 + 18 * j)) := (hf_3 224 (by decide)).trans hv4
    have hc_10 : σ_1 225 = q_bn G 2 kp := (hf_3 225 (by decide)).trans hv5
    have hc_11 : σ_1 279 = o11 G F := (hf_3 279 (by decide)).trans hv6
    have hc_12 : σ_1 280 = q_an G 265 g := (hf_3 280 (by decide)).trans hv7
    have hc_13 : σ_1 281 = q_an G 265 wk := (hf_3 281 (by decide)).trans hv8
    have hc_14 : σ_1 282 = q_an G 265 as := (hf_3 282 (by decide)).trans hv9
    have hc_15 : σ_1 283 = q_an G 530 sh := (hf_3 283 (by decide)).trans hv10
    have hc_16 : σ_1 284 = q_an G 2120 a := (hf_3 284 (by decide)).trans hv11
    have hc_17 : σ_1 285 = q_bn G 1681 fb := (hf_3 285 (by decide)).trans hv12
    have hc_18 : σ_1 286 = q_an G 1681 nv := (hf_3 286 (by decide)).trans hv13
    have hc_19 : σ_1 287 = q_an G 1681 ns := (hf_3 287 (by decide)).trans hv14
    have hc_20 : σ_1 288 = q_an G 2000 mk := (hf_3 288 (by decide)).trans hv15
    have hc_21 : σ_1 289 = q_an G 6724 va := (hf_3 289 (by decide)).trans hv16
    have hc_22 : σ_1 290 = q_an G 6724 sp := (hf_3 290 (by decide)).trans hv17
    have hc_23 : σ_1 291 = q_an G 80 lp := (hf_3 291 (by decide)).trans hv18
    have hc_24 : σ_1 292 = q_an G 600 f := (hf_3 292 (by decide)).trans hv19
    have hc_25 : σ_1 293 = q_an G 300 ou := (hf_3 293 (by decide)).trans hv20
    have hc_26 : σ_1 295 = q_dn G 1 oD := (hf_3 295 (by decide)).trans hv22
    refine A_istore hg dL_law_1051 (by decide) (q_c1d rfl) ?_
    refine A_eq (ls2 := [some (.ref bS), some (.ref (q_h G + 0)), some (.ref (q_h G + 279)), some (.ref (q_h G + 294)), some (.ref (q_h G + 295)), some (.int (nI (i))), some (.int (nI (0))), none, none]) (st2 := []) (pc2 := 0) rfl rfl ?_
    refine A_aload_n hg dL_law_1053 rfl rfl ?_
    refine A_aload_n hg dL_law_1054 rfl rfl ?_
    refine A_iload hg dL_law_1055 rfl ?_
    refine A_iconst (v := (nI (1))) hg dL_law_1057 (by decide) ?_
    refine A_iaddN hg dL_law_1058 ?_
    refine A_sld hg hX (i + 1) (by omega) dL_law_1059 ?_
    refine A_aload_n hg dL_law_1060 rfl rfl ?_
    refine A_iload hg dL_law_1061 rfl ?_
    refine A_iconst (v := (nI (2))) hg dL_law_1063 (by decide) ?_
    refine A_iaddN hg dL_law_1064 ?_
    refine A_sld hg hX (i + 2) (by omega) dL_law_1065 ?_
    refine A_aload_n hg dL_law_1066 rfl rfl ?_
    refine A_iload hg dL_law_1067 rfl ?_
    refine A_iconst (v := (nI (3))) hg dL_law_1069 (by decide) ?_
    refine A_iaddN hg dL_law_1070 ?_
    refine A_sld hg hX (i + 3) (by omega) dL_law_1071 ?_
    refine A_hV (kc2 := kc + 1) (ks2 := ks + 6) (As := [.int (xs (i + 1)), .int (xs (i + 2)), .int (xs (i + 3))]) (rest := []) hg lk_RL_202 in_X11_whyNot se_X11_whyNot rfl dL_law_1072 ⟨by decide, by decide⟩ rfl rfl (hfK 1 6 (by decide) (by decide)) hc_11 (by omega) rfl rfl (Nat.le_of_ble_eq_true rfl) (c_X11_whyNot G false 296 σ_1 F g (xs (i + 1)) (xs (i + 2)) (xs (i + 3)) hc_11 hc_12 (by omega) hg9) ?_
    rintro _ σ_31 (⟨rfl, Mhno, hc_27, hf_28⟩ | ⟨p1M, rfl, Mhpe, Mhpl, hc_29, hf_30⟩)
    · skip
      refine (?_ : AJ G K Q (kc + 1) (ks + 6) false 296 1075 [some (.ref bS), some (.ref (q_h G + 0)), some (.ref (q_h G + 279)), some (.ref (q_h G + 294)), some (.ref (q_h G + 295)), some (.int (nI (i))), some (.int (nI (0))), none, none] [.int (nI (0))] σ_31)
      have hc_27 : σ_31 279 = o11 G (upd F 7 (nI (1))) := hc_27
      have hc_32 : σ_31 0 = o10 G (nI (il)) (z2) (z3) := (hf_28 0 (by decide)).trans hc_5
      have hc_33 : σ_31 1 = q_an G 600 f := (hf_28 1 (by decide)).trans hc_6
      have hc_34 : σ_31 23 = o5 G (23) (nI (lo)) := (hf_28 23 (by decide)).trans hc_7
      have hc_35 : σ_31 24 = q_an G 256 o := (hf_28 24 (by decide)).trans hc_8
      have hc_36 : σ_31 224 = q_rn G 2 2 (fun j => some (243 + 18 * j)) := (hf_28 224 (by decide)).trans hc_9
      have hc_37 : σ_31 225 = q_bn G 2 kp := (hf_28 225 (by decide)).trans hc_10
      have hc_38 : σ_31 280 = q_an G 265 g := (hf_28 280 (by decide)).trans hc_12
      have hc_39 : σ_31 281 = q_an G 265 wk := (hf_28 281 (by decide)).trans hc_13
      have hc_40 : σ_31 282 = q_an G 265 as := (hf_28 282 (by decide)).trans hc_14
      have hc_41 : σ_31 283 = q_an G 530 sh := (hf_28 283 (by decide)).trans hc_15
      have hc_42 : σ_31 284 = q_an G 2120 a := (hf_28 284 (by decide)).trans hc_16
      have hc_43 : σ_31 285 = q_bn G 1681 fb := (hf_28 285 (by decide)).trans hc_17
      have hc_44 : σ_31 286 = q_an G 1681 nv := (hf_28 286 (by decide)).trans hc_18
      have hc_45 : σ_31 287 = q_an G 1681 ns := (hf_28 287 (by decide)).trans hc_19
      have hc_46 : σ_31 288 = q_an G 2000 mk := (hf_28 288 (by decide)).trans hc_20
      have hc_47 : σ_31 289 = q_an G 6724 va := (hf_28 289 (by decide)).trans hc_21
      have hc_48 : σ_31 290 = q_an G 6724 sp := (hf_28 290 (by decide)).trans hc_22
      have hc_49 : σ_31 291 = q_an G 80 lp := (hf_28 291 (by decide)).trans hc_23
      have hc_50 : σ_31 292 = q_an G 600 f := (hf_28 292 (by decide)).trans hc_24
      have hc_51 : σ_31 293 = q_an G 300 ou := (hf_28 293 (by decide)).trans hc_25
      have hc_52 : σ_31 295 = q_dn G 1 oD := (hf_28 295 (by decide)).trans hc_26
      have hc_53 : σ_31 294 = q_ln G 1 (va_up oL 0 ((nI (s_refI g p1C (xs (i + 2)) (xs (i + 3)))).toInt64)) := (hf_28 294 (by decide)).trans hc_2
      exact (Mhno p1C (by omega) Chpe).elim
    · skip
      refine (?_ : AJ G K Q (kc + 1) (ks + 6) false 296 1075 [some (.ref bS), some (.ref (q_h G + 0)), some (.ref (q_h G + 279)), some (.ref (q_h G + 294)), some (.ref (q_h G + 295)), some (.int (nI (i))), some (.int (nI (0))), none, none] [.int (nI (s_refI g p1M (xs (i + 2)) (xs (i + 3))))] σ_31)
      have hc_29 : σ_31 279 = o11 G (upd F 7 (nI (0))) := hc_29
      have hc_54 : σ_31 0 = o10 G (nI (il)) (z2) (z3) := (hf_30 0 (by decide)).trans hc_5
      have hc_55 : σ_31 1 = q_an G 600 f := (hf_30 1 (by decide)).trans hc_6
      have hc_56 : σ_31 23 = o5 G (23) (nI (lo)) := (hf_30 23 (by decide)).trans hc_7
      have hc_57 : σ_31 24 = q_an G 256 o := (hf_30 24 (by decide)).trans hc_8
      have hc_58 : σ_31 224 = q_rn G 2 2 (fun j => some (243 + 18 * j)) := (hf_30 224 (by decide)).trans hc_9
      have hc_59 : σ_31 225 = q_bn G 2 kp := (hf_30 225 (by decide)).trans hc_10
      have hc_60 : σ_31 280 = q_an G 265 g := (hf_30 280 (by decide)).trans hc_12
      have hc_61 : σ_31 281 = q_an G 265 wk := (hf_30 281 (by decide)).trans hc_13
      have hc_62 : σ_31 282 = q_an G 265 as := (hf_30 282 (by decide)).trans hc_14
      have hc_63 : σ_31 283 = q_an G 530 sh := (hf_30 283 (by decide)).trans hc_15
      have hc_64 : σ_31 284 = q_an G 2120 a := (hf_30 284 (by decide)).trans hc_16
      have hc_65 : σ_31 285 = q_bn G 1681 fb := (hf_30 285 (by decide)).trans hc_17
      have hc_66 : σ_31 286 = q_an G 1681 nv := (hf_30 286 (by decide)).trans hc_18
      have hc_67 : σ_31 287 = q_an G 1681 ns := (hf_30 287 (by decide)).trans hc_19
      have hc_68 : σ_31 288 = q_an G 2000 mk := (hf_30 288 (by decide)).trans hc_20
      have hc_69 : σ_31 289 = q_an G 6724 va := (hf_30 289 (by decide)).trans hc_21
      have hc_70 : σ_31 290 = q_an G 6724 sp := (hf_30 290 (by decide)).trans hc_22
      have hc_71 : σ_31 291 = q_an G 80 lp := (hf_30 291 (by decide)).trans hc_23
      have hc_72 : σ_31 292 = q_an G 600 f := (hf_30 292 (by decide)).trans hc_24
      have hc_73 : σ_31 293 = q_an G 300 ou := (hf_30 293 (by decide)).trans hc_25
      have hc_74 : σ_31 295 = q_dn G 1 oD := (hf_30 295 (by decide)).trans hc_26
      have hc_75 : σ_31 294 = q_ln G 1 (va_up oL 0 ((nI (s_refI g p1C (xs (i + 2)) (xs (i + 3)))).toInt64)) := (hf_30 294 (by decide)).trans hc_2
      have e_p : p1C = p1M := q_nI_inj (by omega) (by omega) (Chpe.symm.trans Mhpe)
      subst e_p
      refine A_istore hg dL_law_1075 (by decide) (q_c1d rfl) ?_
      refine A_eq (ls2 := [some (.ref bS), some (.ref (q_h G + 0)), some (.ref (q_h G + 279)), some (.ref (q_h G + 294)), some (.ref (q_h G + 295)), some (.int (nI (i))), some (.int (nI (0))), some (.int (nI (s_refI g p1C (xs (i + 2)) (xs (i + 3))))), none]) (st2 := []) (pc2 := 0) rfl rfl ?_
      refine A_aload_n hg dL_law_1077 rfl rfl ?_
      refine A_eV (kc2 := kc + 1) (ks2 := ks + 6) (As := []) (rest := []) hg lk_RL_170 in_X11_thrown se_X11_thrown rfl dL_law_1078 ⟨by decide, by decide⟩ rfl rfl (hfK 1 6 (by decide) (by decide)) hc_29 (by omega) rfl rfl (Nat.le_of_ble_eq_true rfl) (c_X11_thrown G false 296 σ_31 (upd F 7 (nI (0))) hc_29 (by omega)) ?_
      refine A_top (w := .int (nI (0))) (congrArg Value.int rfl) ?_
      refine A_iload hg dL_law_1081 rfl ?_
      refine A_icmp_eqN (tgt := 1088) hg dL_law_1083 (by decide) (by decide) (by decide) (fun c1083 => ?_) (fun c1083 => False.elim (by omega))
      refine A_iload hg dL_law_1088 rfl ?_
      refine A_if_neN (tgt := 1105) hg dL_law_1090 (by decide) (by decide) (fun c1090 => absurd (by decide) c1090) (fun c1090 => ?_)
      refine A_aload_n hg dL_law_1093 rfl rfl ?_
      refine A_iconst (v := (nI (0))) hg dL_law_1094 (by decide) ?_
      refine A_lald (j := 0) hg dL_law_1095 hc_75 (by omega) (by decide) (by decide) ?_
      refine A_top (w := .long ((nI (s_refI g p1C (xs (i + 2)) (xs (i + 3)))).toInt64)) (congrArg Value.long iv_up0) ?_
      refine A_iload hg dL_law_1096 rfl ?_
      refine A_i2l (v := (nI (s_refI g p1C (xs (i + 2)) (xs (i + 3)))).toInt64) hg dL_law_1098 rfl ?_
      refine A_lcmp hg dL_law_1099 ?_
      refine A_top (w := .int (nI 0)) (congrArg Value.int (lc_self _)) ?_
      refine A_if_eqN (tgt := 1105) hg dL_law_1100 (by decide) (by decide) (fun c1100 => ?_) (fun c1100 => absurd (by decide) c1100)
      refine A_goto (tgt := 3062) hg dL_law_1105 (by decide) ?_
      refine A_drop 6 ?_
      refine A_drop 7 ?_
      refine A_eq (ls2 := [some (.ref bS), some (.ref (q_h G + 0)), some (.ref (q_h G + 279)), some (.ref (q_h G + 294)), some (.ref (q_h G + 295)), some (.int (nI (i))), none, none, none]) (st2 := []) (pc2 := 0) rfl rfl ?_
      refine A_wide (kc2 := kc + 8) (ks2 := ks + 48) (by omega) (by omega) ?_
      exact hnxt _ (iv_mk il z2 z3 f lo o g nx m ps kp sn (upd F 7 (nI (0))) wk as sh a fb nv ns mk va sp lp mc z ss ou (va_up oL 0 ((nI (s_refI g p1C (xs (i + 2)) (xs (i + 3)))).toInt64)) oD hc_54 hc_55 hc_56 hc_57 hc_58 hc_59 hc_29 hc_60 hc_61 hc_62 hc_63 hc_64 hc_65 hc_66 hc_67 hc_68 hc_69 hc_70 hc_71 hc_72 hc_73 hc_75 hc_74 (x_lj_e (fun i _ _ => ((hf_30 i (by omega)).trans (hf_3 i (by omega)))) hL) (x_gm_e (fun i _ _ => ((hf_30 i (by omega)).trans (hf_3 i (by omega)))) hG) (x_mx_e (fun i _ _ => ((hf_30 i (by omega)).trans (hf_3 i (by omega)))) hM) (x_hi_e (fun i _ _ => ((hf_30 i (by omega)).trans (hf_3 i (by omega)))) hHi) (x_oj_e (fun i _ _ => ((hf_30 i (by omega)).trans (hf_3 i (by omega)))) hO) (x_pj_e (fun i _ _ => ((hf_30 i (by omega)).trans (hf_3 i (by omega)))) hT) (iv_hn (fun i _ _ => ((hf_30 i (by omega)).trans (hf_3 i (by omega)))) hH) (iv_Sn (fun i _ _ => ((hf_30 i (by omega)).trans (hf_3 i (by omega)))) hSn) (iv_Kp (fun i _ _ => ((hf_30 i (by omega)).trans (hf_3 i (by omega)))) hKp) (by omega) hfb (by omega) hou hgd hps hk1 hkss hss hsn hF5 hF6 hF12 hF16 hF21 hF22 hF23 hF33 (by omega) hmk hTI hlo)
  · skip
    rw [he_4]
    refine (?_ : AJ G K Q (kc + 1) (ks + 6) false 296 1051 [some (.ref bS), some (.ref (q_h G + 0)), some (.ref (q_h G + 279)), some (.ref (q_h G + 294)), some (.ref (q_h G + 295)), some (.int (nI (i))), none, none, none] [.int (nI (1))] σ)
    refine A_istore hg dL_law_1051 (by decide) (q_c1d rfl) ?_
    refine A_eq (ls2 := [some (.ref bS), some (.ref (q_h G + 0)), some (.ref (q_h G + 279)), some (.ref (q_h G + 294)), some (.ref (q_h G + 295)), some (.int (nI (i))), some (.int (nI (1))), none, none]) (st2 := []) (pc2 := 0) rfl rfl ?_
    refine A_aload_n hg dL_law_1053 rfl rfl ?_
    refine A_aload_n hg dL_law_1054 rfl rfl ?_
    refine A_iload hg dL_law_1055 rfl ?_
    refine A_iconst (v := (nI (1))) hg dL_law_1057 (by decide) ?_
    refine A_iaddN hg dL_law_1058 ?_
    refine A_sld hg hX (i + 1) (by omega) dL_law_1059 ?_
    refine A_aload_n hg dL_law_1060 rfl rfl ?_
    refine A_iload hg dL_law_1061 rfl ?_
    refine A_iconst (v := (nI (2))) hg dL_law_1063 (by decide) ?_
    refine A_iaddN hg dL_law_1064 ?_
    refine A_sld hg hX (i + 2) (by omega) dL_law_1065 ?_
    refine A_aload_n hg dL_law_1066 rfl rfl ?_
    refine A_iload hg dL_law_1067 rfl ?_
    refine A_iconst (v := (nI (3))) hg dL_law_1069 (by decide) ?_
    refine A_iaddN hg dL_law_1070 ?_
    refine A_sld hg hX (i + 3) (by omega) dL_law_1071 ?_
    refine A_hV (kc2 := kc + 1) (ks2 := ks + 6) (As := [.int (xs (i + 1)), .int (xs (i + 2)), .int (xs (i + 3))]) (rest := []) hg lk_RL_202 in_X11_whyNot se_X11_whyNot rfl dL_law_1072 ⟨by decide, by decide⟩ rfl rfl (hfK 1 6 (by decide) (by decide)) hv6 (by omega) rfl rfl (Nat.le_of_ble_eq_true rfl) (c_X11_whyNot G false 296 σ F g (xs (i + 1)) (xs (i + 2)) (xs (i + 3)) hv6 hv7 (by omega) hg9) ?_
    rintro _ σ_80 (⟨rfl, Mhno, hc_76, hf_77⟩ | ⟨p1M, rfl, Mhpe, Mhpl, hc_78, hf_79⟩)
    · skip
      refine (?_ : AJ G K Q (kc + 1) (ks + 6) false 296 1075 [some (.ref bS), some (.ref (q_h G + 0)), some (.ref (q_h G + 279)), some (.ref (q_h G + 294)), some (.ref (q_h G + 295)), some (.int (nI (i))), some (.int (nI (1))), none, none] [.int (nI (0))] σ_80)
      have hc_76 : σ_80 279 = o11 G (upd F 7 (nI (1))) := hc_76
      have hc_81 : σ_80 0 = o10 G (nI (il)) (z2) (z3) := (hf_77 0 (by decide)).trans hv0
      have hc_82 : σ_80 1 = q_an G 600 f := (hf_77 1 (by decide)).trans hv1
      have hc_83 : σ_80 23 = o5 G (23) (nI (lo)) := (hf_77 23 (by decide)).trans hv2
      have hc_84 : σ_80 24 = q_an G 256 o := (hf_77 24 (by decide)).trans hv3
      have hc_85 : σ_80 224 = q_rn G 2 2 (fun j => some (243 + 18 * j)) := (hf_77 224 (by decide)).trans hv4
      have hc_86 : σ_80 225 = q_bn G 2 kp := (hf_77 225 (by decide)).trans hv5
      have hc_87 : σ_80 280 = q_an G 265 g := (hf_77 280 (by decide)).trans hv7
      have hc_88 : σ_80 281 = q_an G 265 wk := (hf_77 281 (by decide)).trans hv8
      have hc_89 : σ_80 282 = q_an G 265 as := (hf_77 282 (by decide)).trans hv9
      have hc_90 : σ_80 283 = q_an G 530 sh := (hf_77 283 (by decide)).trans hv10
      have hc_91 : σ_80 284 = q_an G 2120 a := (hf_77 284 (by decide)).trans hv11
      have hc_92 : σ_80 285 = q_bn G 1681 fb := (hf_77 285 (by decide)).trans hv12
      have hc_93 : σ_80 286 = q_an G 1681 nv := (hf_77 286 (by decide)).trans hv13
      have hc_94 : σ_80 287 = q_an G 1681 ns := (hf_77 287 (by decide)).trans hv14
      have hc_95 : σ_80 288 = q_an G 2000 mk := (hf_77 288 (by decide)).trans hv15
      have hc_96 : σ_80 289 = q_an G 6724 va := (hf_77 289 (by decide)).trans hv16
      have hc_97 : σ_80 290 = q_an G 6724 sp := (hf_77 290 (by decide)).trans hv17
      have hc_98 : σ_80 291 = q_an G 80 lp := (hf_77 291 (by decide)).trans hv18
      have hc_99 : σ_80 292 = q_an G 600 f := (hf_77 292 (by decide)).trans hv19
      have hc_100 : σ_80 293 = q_an G 300 ou := (hf_77 293 (by decide)).trans hv20
      have hc_101 : σ_80 294 = q_ln G 1 oL := (hf_77 294 (by decide)).trans hv21
      have hc_102 : σ_80 295 = q_dn G 1 oD := (hf_77 295 (by decide)).trans hv22
      refine A_istore hg dL_law_1075 (by decide) (q_c1d rfl) ?_
      refine A_eq (ls2 := [some (.ref bS), some (.ref (q_h G + 0)), some (.ref (q_h G + 279)), some (.ref (q_h G + 294)), some (.ref (q_h G + 295)), some (.int (nI (i))), some (.int (nI (1))), some (.int (nI (0))), none]) (st2 := []) (pc2 := 0) rfl rfl ?_
      refine A_aload_n hg dL_law_1077 rfl rfl ?_
      refine A_eV (kc2 := kc + 1) (ks2 := ks + 6) (As := []) (rest := []) hg lk_RL_170 in_X11_thrown se_X11_thrown rfl dL_law_1078 ⟨by decide, by decide⟩ rfl rfl (hfK 1 6 (by decide) (by decide)) hc_76 (by omega) rfl rfl (Nat.le_of_ble_eq_true rfl) (c_X11_thrown G false 296 σ_80 (upd F 7 (nI (1))) hc_76 (by omega)) ?_
      refine A_top (w := .int (nI (1))) (congrArg Value.int rfl) ?_
      refine A_iload hg dL_law_1081 rfl ?_
      refine A_icmp_eqN (tgt := 1088) hg dL_law_1083 (by decide) (by decide) (by decide) (fun c1083 => ?_) (fun c1083 => False.elim (by omega))
      refine A_iload hg dL_law_1088 rfl ?_
      refine A_if_neN (tgt := 1105) hg dL_law_1090 (by decide) (by decide) (fun c1090 => ?_) (fun c1090 => absurd c1090 (by decide))
      refine A_goto (tgt := 3062) hg dL_law_1105 (by decide) ?_
      refine A_drop 6 ?_
      refine A_drop 7 ?_
      refine A_eq (ls2 := [some (.ref bS), some (.ref (q_h G + 0)), some (.ref (q_h G + 279)), some (.ref (q_h G + 294)), some (.ref (q_h G + 295)), some (.int (nI (i))), none, none, none]) (st2 := []) (pc2 := 0) rfl rfl ?_
      refine A_wide (kc2 := kc + 8) (ks2 := ks + 48) (by omega) (by omega) ?_
      exact hnxt _ (iv_mk il z2 z3 f lo o g nx m ps kp sn (upd F 7 (nI (1))) wk as sh a fb nv ns mk va sp lp mc z ss ou oL oD hc_81 hc_82 hc_83 hc_84 hc_85 hc_86 hc_76 hc_87 hc_88 hc_89 hc_90 hc_91 hc_92 hc_93 hc_94 hc_95 hc_96 hc_97 hc_98 hc_99 hc_100 hc_101 hc_102 (x_lj_e (fun i _ _ => (hf_77 i (by omega))) hL) (x_gm_e (fun i _ _ => (hf_77 i (by omega))) hG) (x_mx_e (fun i _ _ => (hf_77 i (by omega))) hM) (x_hi_e (fun i _ _ => (hf_77 i (by omega))) hHi) (x_oj_e (fun i _ _ => (hf_77 i (by omega))) hO) (x_pj_e (fun i _ _ => (hf_77 i (by omega))) hT) (iv_hn (fun i _ _ => (hf_77 i (by omega))) hH) (iv_Sn (fun i _ _ => (hf_77 i (by omega))) hSn) (iv_Kp (fun i _ _ => (hf_77 i (by omega))) hKp) (by omega) hfb (by omega) hou hgd hps hk1 hkss hss hsn hF5 hF6 hF12 hF16 hF21 hF22 hF23 hF33 (by omega) hmk hTI hlo)
    · skip
      refine (?_ : AJ G K Q (kc + 1) (ks + 6) false 296 1075 [some (.ref bS), some (.ref (q_h G + 0)), some (.ref (q_h G + 279)), some (.ref (q_h G + 294)), some (.ref (q_h G + 295)), some (.int (nI (i))), some (.int (nI (1))), none, none] [.int (nI (s_refI g p1M (xs (i + 2)) (xs (i + 3))))] σ_80)
      have hc_78 : σ_80 279 = o11 G (upd F 7 (nI (0))) := hc_78
      have hc_103 : σ_80 0 = o10 G (nI (il)) (z2) (z3) := (hf_79 0 (by decide)).trans hv0
      have hc_104 : σ_80 1 = q_an G 600 f := (hf_79 1 (by decide)).trans hv1
      have hc_105 : σ_80 23 = o5 G (23) (nI (lo)) := (hf_79 23 (by decide)).trans hv2
      have hc_106 : σ_80 24 = q_an G 256 o := (hf_79 24 (by decide)).trans hv3
      have hc_107 : σ_80 224 = q_rn G 2 2 (fun j => some (243 + 18 * j)) := (hf_79 224 (by decide)).trans hv4
      have hc_108 : σ_80 225 = q_bn G 2 kp := (hf_79 225 (by decide)).trans hv5
      have hc_109 : σ_80 280 = q_an G 265 g := (hf_79 280 (by decide)).trans hv7
      have hc_110 : σ_80 281 = q_an G 265 wk := (hf_79 281 (by decide)).trans hv8
      have hc_111 : σ_80 282 = q_an G 265 as := (hf_79 282 (by decide)).trans hv9
      have hc_112 : σ_80 283 = q_an G 530 sh := (hf_79 283 (by decide)).trans hv10
      have hc_113 : σ_80 284 = q_an G 2120 a := (hf_79 284 (by decide)).trans hv11
      have hc_114 : σ_80 285 = q_bn G 1681 fb := (hf_79 285 (by decide)).trans hv12
      have hc_115 : σ_80 286 = q_an G 1681 nv := (hf_79 286 (by decide)).trans hv13
      have hc_116 : σ_80 287 = q_an G 1681 ns := (hf_79 287 (by decide)).trans hv14
      have hc_117 : σ_80 288 = q_an G 2000 mk := (hf_79 288 (by decide)).trans hv15
      have hc_118 : σ_80 289 = q_an G 6724 va := (hf_79 289 (by decide)).trans hv16
      have hc_119 : σ_80 290 = q_an G 6724 sp := (hf_79 290 (by decide)).trans hv17
      have hc_120 : σ_80 291 = q_an G 80 lp := (hf_79 291 (by decide)).trans hv18
      have hc_121 : σ_80 292 = q_an G 600 f := (hf_79 292 (by decide)).trans hv19
      have hc_122 : σ_80 293 = q_an G 300 ou := (hf_79 293 (by decide)).trans hv20
      have hc_123 : σ_80 294 = q_ln G 1 oL := (hf_79 294 (by decide)).trans hv21
      have hc_124 : σ_80 295 = q_dn G 1 oD := (hf_79 295 (by decide)).trans hv22
      exact (Chxx p1M (by omega) Mhpe).elim
set_option maxRecDepth 100000 in
set_option maxHeartbeats 4000000 in
theorem law_c15 (G : GL) (K : KC) (Q : State → Prop) (hh : List (Nat × Nat × Nat × Nat)) (hg : Gd G K RL code 9 ret room_1 hh) (bS L : Nat) (xs : Nat → Int32) (hX : q_scr G K bS L xs) (i kc ks J : Nat) (hi : i + 5 < L) (hL31 : L < 2 ^ 31) (hkc : kc + 8 ≤ 601024) (hks : ks + 48 ≤ 7293034) (σ : Nat → va_E) (hI : iv G σ J) (hJ : J < 512) (hfd : q_fdn) (hdd : q_ddn) (hf2 : q_f2n) (hds : q_dcs) (hnxt : ∀ σ9 : Nat → va_E, iv G σ9 (J + 1) → AJ G K Q (kc + 8) (ks + 48) false 296 3062 [some (.ref bS), some (.ref (q_h G + 0)), some (.ref (q_h G + 279)), some (.ref (q_h G + 294)), some (.ref (q_h G + 295)), some (.int (nI (i))), none, none, none] [] σ9) : AJ G K Q kc ks false 296 1108 [some (.ref bS), some (.ref (q_h G + 0)), some (.ref (q_h G + 279)), some (.ref (q_h G + 294)), some (.ref (q_h G + 295)), some (.int (nI (i))), none, none, none] [] σ := by
  refine iv_el hI ?_
  intro il z2 z3 f lo o g nx m ps kp sn F wk as sh a fb nv ns mk va sp lp mc z ss ou oL oD
  intro hv0 hv1 hv2 hv3 hv4 hv5 hv6 hv7 hv8 hv9 hv10 hv11 hv12 hv13 hv14 hv15 hv16 hv17 hv18 hv19 hv20 hv21 hv22
  intro hL hG hM hHi hO hT hH hSn hKp
  intro hil hfb hlo2 hou hgd hps hk1 hkss hss hsn hF5 hF6 hF12 hF16 hF21 hF22 hF23 hF33 hmc hmk hTI hlo
  have hfK : ∀ a b : Nat, a ≤ 8 → b ≤ 48 → kc + a ≤ room_1.cells ∧ ks + b ≤ room_1.slots := fun a b h1 h2 => ⟨by show kc + a ≤ 601024; omega, by show ks + b ≤ 7293034; omega⟩
  have hg9 := iv_g hG
  obtain ⟨hnx8, hm8, hc78⟩ := iv_hi hHi
  have hbb := iv_byte (m := il) hfb
  have hg90 := hg9.1
  have hg96 := hg9.2.2.2.2.1
  have hnp8 := s_np_le hg9
  refine A_aload_n hg dL_law_1108 rfl rfl ?_
  refine A_aload_n hg dL_law_1109 rfl rfl ?_
  refine A_iload hg dL_law_1110 rfl ?_
  refine A_iconst (v := (nI (1))) hg dL_law_1112 (by decide) ?_
  refine A_iaddN hg dL_law_1113 ?_
  refine A_sld hg hX (i + 1) (by omega) dL_law_1114 ?_
  refine A_aload_n hg dL_law_1115 rfl rfl ?_
  refine A_iload hg dL_law_1116 rfl ?_
  refine A_iconst (v := (nI (2))) hg dL_law_1118 (by decide) ?_
  refine A_iaddN hg dL_law_1119 ?_
  refine A_sld hg hX (i + 2) (by omega) dL_law_1120 ?_
  refine A_aload_n hg dL_law_1121 rfl rfl ?_
  refine A_iload hg dL_law_1122 rfl ?_
  refine A_iconst (v := (nI (3))) hg dL_law_1124 (by decide) ?_
  refine A_iaddN hg dL_law_1125 ?_
  refine A_sld hg hX (i + 3) (by omega) dL_law_1126 ?_
  refine A_aload_n hg dL_law_1127 rfl rfl ?_
  refine A_callSH (As := [.ref (q_h G + 0), .int (xs (i + 1)), .int (xs (i + 2)), .int (xs (i + 3)), .ref (q_h G + 294)]) (rest := []) hg lkH_203 stH_L_value dL_law_1128 ⟨by decide, by decide⟩ (hfK 3 18 (by decide) (by decide)) rfl rfl (Nat.le_of_ble_eq_true rfl) (c_L_value G 296 σ (nI (il)) z2 z3 g (xs (i + 1)) (xs (i + 2)) (xs (i + 3)) oL hv0 hv21 (by omega) hG hM (by omega)) ?_
  rintro _ σ_1 (⟨r1C, a1C, b1C, rfl, Chre, Chrl, Chke, Chle, Chkl, Chll, ChM2, hc_2, hf_3⟩ | ⟨rfl, Chxx, he_4⟩ | ⟨rfl, Chxx, he_5⟩)
  · skip
    refine (?_ : AJ G K Q (kc + 3) (ks + 18) false 296 1131 [some (.ref bS), some (.ref (q_h G + 0)), some (.ref (q_h G + 279)), some (.ref (q_h G + 294)), some (.ref (q_h G + 295)), some (.int (nI (i))), none, none, none] [.int (nI (0))] σ_1)
    have hc_6 : σ_1 0 = o10 G (nI (il)) (z2) (z3) := (hf_3 0 (by decide)).trans hv0
    have hc_7 : σ_1 1 = q_an G 600 f := (hf_3 1 (by decide)).trans hv1
    have hc_8 : σ_1 23 = o5 G (23) (nI (lo)) := (hf_3 23 (by decide)).trans hv2
    have hc_9 : σ_1 24 = q_an G 256 o := (hf_3 24 (by decide)).trans hv3
    have hc_10 : σ_1 224 = q_rn G 2 2 (fun j => some (243 + 18 * j)) := (hf_3 224 (by decide)).trans hv4
    have hc_11 : σ_1 225 = q_bn G 2 kp := (hf_3 225 (by decide)).trans hv5
    have hc_12 : σ_1 279 = o11 G F := (hf_3 279 (by decide)).trans hv6
    have hc_13 : σ_1 280 = q_an G 265 g := (hf_3 280 (by decide)).trans hv7
    have hc_14 : σ_1 281 = q_an G 265 wk := (hf_3 281 (by decide)).trans hv8
    have hc_15 : σ_1 282 = q_an G 265 as := (hf_3 282 (by decide)).trans hv9
    have hc_16 : σ_1 283 = q_an G 530 sh := (hf_3 283 (by decide)).trans hv10
    have hc_17 : σ_1 284 = q_an G 2120 a := (hf_3 284 (by decide)).trans hv11
    have hc_18 : σ_1 285 = q_bn G 1681 fb := (hf_3 285 (by decide)).trans hv12
    have hc_19 : σ_1 286 = q_an G 1681 nv := (hf_3 286 (by decide)).trans hv13
    have hc_20 : σ_1 287 = q_an G 1681 ns := (hf_3 287 (by decide)).trans hv14
    have hc_21 : σ_1 288 = q_an G 2000 mk := (hf_3 288 (by decide)).trans hv15
    have hc_22 : σ_1 289 = q_an G 6724 va := (hf_3 289 (by decide)).trans hv16
    have hc_23 : σ_1 290 = q_an G 6724 sp := (hf_3 290 (by decide)).trans hv17
    have hc_24 : σ_1 291 = q_an G 80 lp := (hf_3 291 (by decide)).trans hv18
    have hc_25 : σ_1 292 = q_an G 600 f := (hf_3 292 (by decide)).trans hv19
    have hc_26 : σ_1 293 = q_an G 300 ou := (hf_3 293 (by decide)).trans hv20
    have hc_27 : σ_1 295 = q_dn G 1 oD := (hf_3 295 (by decide)).trans hv22
    refine A_istore hg dL_law_1131 (by decide) (q_c1d rfl) ?_
    refine A_eq (ls2 := [some (.ref bS), some (.ref (q_h G + 0)), some (.ref (q_h G + 279)), some (.ref (q_h G + 294)), some (.ref (q_h G + 295)), some (.int (nI (i))), some (.int (nI (0))), none, none]) (st2 := []) (pc2 := 0) rfl rfl ?_
    refine A_aload_n hg dL_law_1133 rfl rfl ?_
    refine A_aload_n hg dL_law_1134 rfl rfl ?_
    refine A_iload hg dL_law_1135 rfl ?_
    refine A_iconst (v := (nI (1))) hg dL_law_1137 (by decide) ?_
    refine A_iaddN hg dL_law_1138 ?_
    refine A_sld hg hX (i + 1) (by omega) dL_law_1139 ?_
    refine A_aload_n hg dL_law_1140 rfl rfl ?_
    refine A_iload hg dL_law_1141 rfl ?_
    refine A_iconst (v := (nI (2))) hg dL_law_1143 (by decide) ?_
    refine A_iaddN hg dL_law_1144 ?_
    refine A_sld hg hX (i + 2) (by omega) dL_law_1145 ?_
    refine A_aload_n hg dL_law_1146 rfl rfl ?_
    refine A_iload hg dL_law_1147 rfl ?_
    refine A_iconst (v := (nI (3))) hg dL_law_1149 (by decide) ?_
    refine A_iaddN hg dL_law_1150 ?_
    refine A_sld hg hX (i + 3) (by omega) dL_law_1151 ?_
    refine A_hV (kc2 := kc + 3) (ks2 := ks + 18) (As := [.int (xs (i + 1)), .int (xs (i + 2)), .int (xs (i + 3))]) (rest := []) hg lk_RL_205 in_X11_value se_X11_value rfl dL_law_1152 ⟨by decide, by decide⟩ rfl rfl (hfK 3 18 (by decide) (by decide)) hc_12 (by omega) rfl rfl (Nat.le_of_ble_eq_true rfl) (c_X11_value G false 296 σ_1 F g fb nv ns mk va sp lp mc z (xs (i + 1)) (xs (i + 2)) (xs (i + 3)) hc_12 hc_13 hc_18 hc_19 hc_20 hc_21 hc_22 hc_23 hc_24 (by omega) hg9 (by omega) hF12 hF16 hmk hTI hlo) ?_
    rintro _ σ_41 (⟨rfl, Mhno, hc_28, hf_29⟩ | ⟨r1M, rfl, Mhre, Mhrl, Mhnp, hc_30, hf_31⟩ | ⟨r1M, a1M, b1M, fqM, nvqM, nsqM, mkqM, vaqM, spqM, loqM, mcqM, zqM, rfl, Mhre, Mhrl, Mhke, Mhle, Mhkl, Mhll, MhTI, Mhmc, Mhmk, Mhlo, hc_32, hc_33, hc_34, hc_35, hc_36, hc_37, hc_38, hc_39, hf_40⟩)
    · skip
      refine (?_ : AJ G K Q (kc + 3) (ks + 18) false 296 1155 [some (.ref bS), some (.ref (q_h G + 0)), some (.ref (q_h G + 279)), some (.ref (q_h G + 294)), some (.ref (q_h G + 295)), some (.int (nI (i))), some (.int (nI (0))), none, none] [.int (nI (0))] σ_41)
      have hc_28 : σ_41 279 = o11 G (upd F 7 (nI (1))) := hc_28
      have hc_42 : σ_41 0 = o10 G (nI (il)) (z2) (z3) := (hf_29 0 (by decide)).trans hc_6
      have hc_43 : σ_41 1 = q_an G 600 f := (hf_29 1 (by decide)).trans hc_7
      have hc_44 : σ_41 23 = o5 G (23) (nI (lo)) := (hf_29 23 (by decide)).trans hc_8
      have hc_45 : σ_41 24 = q_an G 256 o := (hf_29 24 (by decide)).trans hc_9
      have hc_46 : σ_41 224 = q_rn G 2 2 (fun j => some (243 + 18 * j)) := (hf_29 224 (by decide)).trans hc_10
      have hc_47 : σ_41 225 = q_bn G 2 kp := (hf_29 225 (by decide)).trans hc_11
      have hc_48 : σ_41 280 = q_an G 265 g := (hf_29 280 (by decide)).trans hc_13
      have hc_49 : σ_41 281 = q_an G 265 wk := (hf_29 281 (by decide)).trans hc_14
      have hc_50 : σ_41 282 = q_an G 265 as := (hf_29 282 (by decide)).trans hc_15
      have hc_51 : σ_41 283 = q_an G 530 sh := (hf_29 283 (by decide)).trans hc_16
      have hc_52 : σ_41 284 = q_an G 2120 a := (hf_29 284 (by decide)).trans hc_17
      have hc_53 : σ_41 285 = q_bn G 1681 fb := (hf_29 285 (by decide)).trans hc_18
      have hc_54 : σ_41 286 = q_an G 1681 nv := (hf_29 286 (by decide)).trans hc_19
      have hc_55 : σ_41 287 = q_an G 1681 ns := (hf_29 287 (by decide)).trans hc_20
      have hc_56 : σ_41 288 = q_an G 2000 mk := (hf_29 288 (by decide)).trans hc_21
      have hc_57 : σ_41 289 = q_an G 6724 va := (hf_29 289 (by decide)).trans hc_22
      have hc_58 : σ_41 290 = q_an G 6724 sp := (hf_29 290 (by decide)).trans hc_23
      have hc_59 : σ_41 291 = q_an G 80 lp := (hf_29 291 (by decide)).trans hc_24
      have hc_60 : σ_41 292 = q_an G 600 f := (hf_29 292 (by decide)).trans hc_25
      have hc_61 : σ_41 293 = q_an G 300 ou := (hf_29 293 (by decide)).trans hc_26
      have hc_62 : σ_41 295 = q_dn G 1 oD := (hf_29 295 (by decide)).trans hc_27
      have hc_63 : σ_41 294 = q_ln G 1 (va_up oL 0 ((nI (s_V (s_rule g r1C) (41 * a1C + b1C))).toInt64)) := (hf_29 294 (by decide)).trans hc_2
      exact (Mhno r1C (by omega) Chre).elim
    · skip
      refine (?_ : AJ G K Q (kc + 3) (ks + 18) false 296 1155 [some (.ref bS), some (.ref (q_h G + 0)), some (.ref (q_h G + 279)), some (.ref (q_h G + 294)), some (.ref (q_h G + 295)), some (.int (nI (i))), some (.int (nI (0))), none, none] [.int (nI (0))] σ_41)
      have hc_30 : σ_41 279 = o11 G (upd F 7 (nI (2))) := hc_30
      have hc_64 : σ_41 0 = o10 G (nI (il)) (z2) (z3) := (hf_31 0 (by decide)).trans hc_6
      have hc_65 : σ_41 1 = q_an G 600 f := (hf_31 1 (by decide)).trans hc_7
      have hc_66 : σ_41 23 = o5 G (23) (nI (lo)) := (hf_31 23 (by decide)).trans hc_8
      have hc_67 : σ_41 24 = q_an G 256 o := (hf_31 24 (by decide)).trans hc_9
      have hc_68 : σ_41 224 = q_rn G 2 2 (fun j => some (243 + 18 * j)) := (hf_31 224 (by decide)).trans hc_10
      have hc_69 : σ_41 225 = q_bn G 2 kp := (hf_31 225 (by decide)).trans hc_11
      have hc_70 : σ_41 280 = q_an G 265 g := (hf_31 280 (by decide)).trans hc_13
      have hc_71 : σ_41 281 = q_an G 265 wk := (hf_31 281 (by decide)).trans hc_14
      have hc_72 : σ_41 282 = q_an G 265 as := (hf_31 282 (by decide)).trans hc_15
      have hc_73 : σ_41 283 = q_an G 530 sh := (hf_31 283 (by decide)).trans hc_16
      have hc_74 : σ_41 284 = q_an G 2120 a := (hf_31 284 (by decide)).trans hc_17
      have hc_75 : σ_41 285 = q_bn G 1681 fb := (hf_31 285 (by decide)).trans hc_18
      have hc_76 : σ_41 286 = q_an G 1681 nv := (hf_31 286 (by decide)).trans hc_19
      have hc_77 : σ_41 287 = q_an G 1681 ns := (hf_31 287 (by decide)).trans hc_20
      have hc_78 : σ_41 288 = q_an G 2000 mk := (hf_31 288 (by decide)).trans hc_21
      have hc_79 : σ_41 289 = q_an G 6724 va := (hf_31 289 (by decide)).trans hc_22
      have hc_80 : σ_41 290 = q_an G 6724 sp := (hf_31 290 (by decide)).trans hc_23
      have hc_81 : σ_41 291 = q_an G 80 lp := (hf_31 291 (by decide)).trans hc_24
      have hc_82 : σ_41 292 = q_an G 600 f := (hf_31 292 (by decide)).trans hc_25
      have hc_83 : σ_41 293 = q_an G 300 ou := (hf_31 293 (by decide)).trans hc_26
      have hc_84 : σ_41 295 = q_dn G 1 oD := (hf_31 295 (by decide)).trans hc_27
      have hc_85 : σ_41 294 = q_ln G 1 (va_up oL 0 ((nI (s_V (s_rule g r1C) (41 * a1C + b1C))).toInt64)) := (hf_31 294 (by decide)).trans hc_2
      have e_r : r1C = r1M := q_nI_inj (by omega) (by omega) (Chre.symm.trans Mhre)
      subst e_r
      exact (Mhnp a1C b1C (by omega) (by omega) Chke Chle).elim
    · skip
      refine (?_ : AJ G K Q (kc + 3) (ks + 18) false 296 1155 [some (.ref bS), some (.ref (q_h G + 0)), some (.ref (q_h G + 279)), some (.ref (q_h G + 294)), some (.ref (q_h G + 295)), some (.int (nI (i))), some (.int (nI (0))), none, none] [.int (nI (s_V (s_rule g r1M) (41 * a1M + b1M)))] σ_41)
      have hc_32 : σ_41 279 = o11 G (upd (upd (upd F 7 (nI (0))) 12 (nI (mcqM))) 16 (nI (zqM))) := hc_32
      have hc_86 : σ_41 0 = o10 G (nI (il)) (z2) (z3) := (hf_40 0 (by decide)).trans hc_6
      have hc_87 : σ_41 1 = q_an G 600 f := (hf_40 1 (by decide)).trans hc_7
      have hc_88 : σ_41 23 = o5 G (23) (nI (lo)) := (hf_40 23 (by decide)).trans hc_8
      have hc_89 : σ_41 24 = q_an G 256 o := (hf_40 24 (by decide)).trans hc_9
      have hc_90 : σ_41 224 = q_rn G 2 2 (fun j => some (243 + 18 * j)) := (hf_40 224 (by decide)).trans hc_10
      have hc_91 : σ_41 225 = q_bn G 2 kp := (hf_40 225 (by decide)).trans hc_11
      have hc_92 : σ_41 280 = q_an G 265 g := (hf_40 280 (by decide)).trans hc_13
      have hc_93 : σ_41 281 = q_an G 265 wk := (hf_40 281 (by decide)).trans hc_14
      have hc_94 : σ_41 282 = q_an G 265 as := (hf_40 282 (by decide)).trans hc_15
      have hc_95 : σ_41 283 = q_an G 530 sh := (hf_40 283 (by decide)).trans hc_16
      have hc_96 : σ_41 284 = q_an G 2120 a := (hf_40 284 (by decide)).trans hc_17
      have hc_97 : σ_41 292 = q_an G 600 f := (hf_40 292 (by decide)).trans hc_25
      have hc_98 : σ_41 293 = q_an G 300 ou := (hf_40 293 (by decide)).trans hc_26
      have hc_99 : σ_41 295 = q_dn G 1 oD := (hf_40 295 (by decide)).trans hc_27
      have hc_100 : σ_41 294 = q_ln G 1 (va_up oL 0 ((nI (s_V (s_rule g r1C) (41 * a1C + b1C))).toInt64)) := (hf_40 294 (by decide)).trans hc_2
      have e_r : r1C = r1M := q_nI_inj (by omega) (by omega) (Chre.symm.trans Mhre)
      subst e_r
      have e_k : a1C = a1M := q_nI_inj (by omega) (by omega) (Chke.symm.trans Mhke)
      subst e_k
      have e_l : b1C = b1M := q_nI_inj (by omega) (by omega) (Chle.symm.trans Mhle)
      subst e_l
      refine A_istore hg dL_law_1155 (by decide) (q_c1d rfl) ?_
      refine A_eq (ls2 := [some (.ref bS), some (.ref (q_h G + 0)), some (.ref (q_h G + 279)), some (.ref (q_h G + 294)), some (.ref (q_h G + 295)), some (.int (nI (i))), some (.int (nI (0))), some (.int (nI (s_V (s_rule g r1C) (41 * a1C + b1C)))), none]) (st2 := []) (pc2 := 0) rfl rfl ?_
      refine A_aload_n hg dL_law_1157 rfl rfl ?_
      refine A_eV (kc2 := kc + 3) (ks2 := ks + 18) (As := []) (rest := []) hg lk_RL_170 in_X11_thrown se_X11_thrown rfl dL_law_1158 ⟨by decide, by decide⟩ rfl rfl (hfK 3 18 (by decide) (by decide)) hc_32 (by omega) rfl rfl (Nat.le_of_ble_eq_true rfl) (c_X11_thrown G false 296 σ_41 (upd (upd (upd F 7 (nI (0))) 12 (nI (mcqM))) 16 (nI (zqM))) hc_32 (by omega)) ?_
      refine A_top (w := .int (nI (0))) (congrArg Value.int rfl) ?_
      refine A_iload hg dL_law_1161 rfl ?_
      refine A_icmp_eqN (tgt := 1168) hg dL_law_1163 (by decide) (by decide) (by decide) (fun c1163 => ?_) (fun c1163 => False.elim (by omega))
      refine A_iload hg dL_law_1168 rfl ?_
      refine A_if_neN (tgt := 1185) hg dL_law_1170 (by decide) (by decide) (fun c1170 => absurd (by decide) c1170) (fun c1170 => ?_)
      refine A_aload_n hg dL_law_1173 rfl rfl ?_
      refine A_iconst (v := (nI (0))) hg dL_law_1174 (by decide) ?_
      refine A_lald (j := 0) hg dL_law_1175 hc_100 (by omega) (by decide) (by decide) ?_
      refine A_top (w := .long ((nI (s_V (s_rule g r1C) (41 * a1C + b1C))).toInt64)) (congrArg Value.long iv_up0) ?_
      refine A_iload hg dL_law_1176 rfl ?_
      refine A_i2l (v := (nI (s_V (s_rule g r1C) (41 * a1C + b1C))).toInt64) hg dL_law_1178 rfl ?_
      refine A_lcmp hg dL_law_1179 ?_
      refine A_top (w := .int (nI 0)) (congrArg Value.int (lc_self _)) ?_
      refine A_if_eqN (tgt := 1185) hg dL_law_1180 (by decide) (by decide) (fun c1180 => ?_) (fun c1180 => absurd (by decide) c1180)
      refine A_goto (tgt := 3062) hg dL_law_1185 (by decide) ?_
      refine A_drop 6 ?_
      refine A_drop 7 ?_
      refine A_eq (ls2 := [some (.ref bS), some (.ref (q_h G + 0)), some (.ref (q_h G + 279)), some (.ref (q_h G + 294)), some (.ref (q_h G + 295)), some (.int (nI (i))), none, none, none]) (st2 := []) (pc2 := 0) rfl rfl ?_
      refine A_wide (kc2 := kc + 8) (ks2 := ks + 48) (by omega) (by omega) ?_
      exact hnxt _ (iv_mk il z2 z3 f lo o g nx m ps kp sn (upd (upd (upd F 7 (nI (0))) 12 (nI (mcqM))) 16 (nI (zqM))) wk as sh a fqM nvqM nsqM mkqM vaqM spqM loqM mcqM zqM ss ou (va_up oL 0 ((nI (s_V (s_rule g r1C) (41 * a1C + b1C))).toInt64)) oD hc_86 hc_87 hc_88 hc_89 hc_90 hc_91 hc_32 hc_92 hc_93 hc_94 hc_95 hc_96 hc_33 hc_34 hc_35 hc_36 hc_37 hc_38 hc_39 hc_97 hc_98 hc_100 hc_99 (x_lj_e (fun i _ _ => ((hf_40 i (by omega)).trans (hf_3 i (by omega)))) hL) (x_gm_e (fun i _ _ => ((hf_40 i (by omega)).trans (hf_3 i (by omega)))) hG) (x_mx_e (fun i _ _ => (hf_40 i (by omega))) ChM2) (x_hi_e (fun i _ _ => ((hf_40 i (by omega)).trans (hf_3 i (by omega)))) hHi) (x_oj_e (fun i _ _ => ((hf_40 i (by omega)).trans (hf_3 i (by omega)))) hO) (x_pj_e (fun i _ _ => ((hf_40 i (by omega)).trans (hf_3 i (by omega)))) hT) (iv_hn (fun i _ _ => ((hf_40 i (by omega)).trans (hf_3 i (by omega)))) hH) (iv_Sn (fun i _ _ => ((hf_40 i (by omega)).trans (hf_3 i (by omega)))) hSn) (iv_Kp (fun i _ _ => ((hf_40 i (by omega)).trans (hf_3 i (by omega)))) hKp) (by omega) hfb (by omega) hou hgd hps hk1 hkss hss hsn hF5 hF6 rfl rfl hF21 hF22 hF23 hF33 (by omega) Mhmk MhTI Mhlo)
  · skip
    rw [he_4]
    refine (?_ : AJ G K Q (kc + 3) (ks + 18) false 296 1131 [some (.ref bS), some (.ref (q_h G + 0)), some (.ref (q_h G + 279)), some (.ref (q_h G + 294)), some (.ref (q_h G + 295)), some (.int (nI (i))), none, none, none] [.int (nI (1))] σ)
    refine A_istore hg dL_law_1131 (by decide) (q_c1d rfl) ?_
    refine A_eq (ls2 := [some (.ref bS), some (.ref (q_h G + 0)), some (.ref (q_h G + 279)), some (.ref (q_h G + 294)), some (.ref (q_h G + 295)), some (.int (nI (i))), some (.int (nI (1))), none, none]) (st2 := []) (pc2 := 0) rfl rfl ?_
    refine A_aload_n hg dL_law_1133 rfl rfl ?_
    refine A_aload_n hg dL_law_1134 rfl rfl ?_
    refine A_iload hg dL_law_1135 rfl ?_
    refine A_iconst (v := (nI (1))) hg dL_law_1137 (by decide) ?_
    refine A_iaddN hg dL_law_1138 ?_
    refine A_sld hg hX (i + 1) (by omega) dL_law_1139 ?_
    refine A_aload_n hg dL_law_1140 rfl rfl ?_
    refine A_iload hg dL_law_1141 rfl ?_
    refine A_iconst (v := (nI (2))) hg dL_law_1143 (by decide) ?_
    refine A_iaddN hg dL_law_1144 ?_
    refine A_sld hg hX (i + 2) (by omega) dL_law_1145 ?_
    refine A_aload_n hg dL_law_1146 rfl rfl ?_
    refine A_iload hg dL_law_1147 rfl ?_
    refine A_iconst (v := (nI (3))) hg dL_law_1149 (by decide) ?_
    refine A_iaddN hg dL_law_1150 ?_
    refine A_sld hg hX (i + 3) (by omega) dL_law_1151 ?_
    refine A_hV (kc2 := kc + 3) (ks2 := ks + 18) (As := [.int (xs (i + 1)), .int (xs (i + 2)), .int (xs (i + 3))]) (rest := []) hg lk_RL_205 in_X11_value se_X11_value rfl dL_law_1152 ⟨by decide, by decide⟩ rfl rfl (hfK 3 18 (by decide) (by decide)) hv6 (by omega) rfl rfl (Nat.le_of_ble_eq_true rfl) (c_X11_value G false 296 σ F g fb nv ns mk va sp lp mc z (xs (i + 1)) (xs (i + 2)) (xs (i + 3)) hv6 hv7 hv12 hv13 hv14 hv15 hv16 hv17 hv18 (by omega) hg9 (by omega) hF12 hF16 hmk hTI hlo) ?_
    rintro _ σ_114 (⟨rfl, Mhno, hc_101, hf_102⟩ | ⟨r1M, rfl, Mhre, Mhrl, Mhnp, hc_103, hf_104⟩ | ⟨r1M, a1M, b1M, fqM, nvqM, nsqM, mkqM, vaqM, spqM, loqM, mcqM, zqM, rfl, Mhre, Mhrl, Mhke, Mhle, Mhkl, Mhll, MhTI, Mhmc, Mhmk, Mhlo, hc_105, hc_106, hc_107, hc_108, hc_109, hc_110, hc_111, hc_112, hf_113⟩)
    · skip
      refine (?_ : AJ G K Q (kc + 3) (ks + 18) false 296 1155 [some (.ref bS), some (.ref (q_h G + 0)), some (.ref (q_h G + 279)), some (.ref (q_h G + 294)), some (.ref (q_h G + 295)), some (.int (nI (i))), some (.int (nI (1))), none, none] [.int (nI (0))] σ_114)
      have hc_101 : σ_114 279 = o11 G (upd F 7 (nI (1))) := hc_101
      have hc_115 : σ_114 0 = o10 G (nI (il)) (z2) (z3) := (hf_102 0 (by decide)).trans hv0
      have hc_116 : σ_114 1 = q_an G 600 f := (hf_102 1 (by decide)).trans hv1
      have hc_117 : σ_114 23 = o5 G (23) (nI (lo)) := (hf_102 23 (by decide)).trans hv2
      have hc_118 : σ_114 24 = q_an G 256 o := (hf_102 24 (by decide)).trans hv3
      have hc_119 : σ_114 224 = q_rn G 2 2 (fun j => some (243 + 18 * j)) := (hf_102 224 (by decide)).trans hv4
      have hc_120 : σ_114 225 = q_bn G 2 kp := (hf_102 225 (by decide)).trans hv5
      have hc_121 : σ_114 280 = q_an G 265 g := (hf_102 280 (by decide)).trans hv7
      have hc_122 : σ_114 281 = q_an G 265 wk := (hf_102 281 (by decide)).trans hv8
      have hc_123 : σ_114 282 = q_an G 265 as := (hf_102 282 (by decide)).trans hv9
      have hc_124 : σ_114 283 = q_an G 530 sh := (hf_102 283 (by decide)).trans hv10
      have hc_125 : σ_114 284 = q_an G 2120 a := (hf_102 284 (by decide)).trans hv11
      have hc_126 : σ_114 285 = q_bn G 1681 fb := (hf_102 285 (by decide)).trans hv12
      have hc_127 : σ_114 286 = q_an G 1681 nv := (hf_102 286 (by decide)).trans hv13
      have hc_128 : σ_114 287 = q_an G 1681 ns := (hf_102 287 (by decide)).trans hv14
      have hc_129 : σ_114 288 = q_an G 2000 mk := (hf_102 288 (by decide)).trans hv15
      have hc_130 : σ_114 289 = q_an G 6724 va := (hf_102 289 (by decide)).trans hv16
      have hc_131 : σ_114 290 = q_an G 6724 sp := (hf_102 290 (by decide)).trans hv17
      have hc_132 : σ_114 291 = q_an G 80 lp := (hf_102 291 (by decide)).trans hv18
      have hc_133 : σ_114 292 = q_an G 600 f := (hf_102 292 (by decide)).trans hv19
      have hc_134 : σ_114 293 = q_an G 300 ou := (hf_102 293 (by decide)).trans hv20
      have hc_135 : σ_114 294 = q_ln G 1 oL := (hf_102 294 (by decide)).trans hv21
      have hc_136 : σ_114 295 = q_dn G 1 oD := (hf_102 295 (by decide)).trans hv22
      refine A_istore hg dL_law_1155 (by decide) (q_c1d rfl) ?_
      refine A_eq (ls2 := [some (.ref bS), some (.ref (q_h G + 0)), some (.ref (q_h G + 279)), some (.ref (q_h G + 294)), some (.ref (q_h G + 295)), some (.int (nI (i))), some (.int (nI (1))), some (.int (nI (0))), none]) (st2 := []) (pc2 := 0) rfl rfl ?_
      refine A_aload_n hg dL_law_1157 rfl rfl ?_
      refine A_eV (kc2 := kc + 3) (ks2 := ks + 18) (As := []) (rest := []) hg lk_RL_170 in_X11_thrown se_X11_thrown rfl dL_law_1158 ⟨by decide, by decide⟩ rfl rfl (hfK 3 18 (by decide) (by decide)) hc_101 (by omega) rfl rfl (Nat.le_of_ble_eq_true rfl) (c_X11_thrown G false 296 σ_114 (upd F 7 (nI (1))) hc_101 (by omega)) ?_
      refine A_top (w := .int (nI (1))) (congrArg Value.int rfl) ?_
      refine A_iload hg dL_law_1161 rfl ?_
      refine A_icmp_eqN (tgt := 1168) hg dL_law_1163 (by decide) (by decide) (by decide) (fun c1163 => ?_) (fun c1163 => False.elim (by omega))
      refine A_iload hg dL_law_1168 rfl ?_
      refine A_if_neN (tgt := 1185) hg dL_law_1170 (by decide) (by decide) (fun c1170 => ?_) (fun c1170 => absurd c1170 (by decide))
      refine A_goto (tgt := 3062) hg dL_law_1185 (by decide) ?_
      refine A_drop 6 ?_
      refine A_drop 7 ?_
      refine A_eq (ls2 := [some (.ref bS), some (.ref (q_h G + 0)), some (.ref (q_h G + 279)), some (.ref (q_h G + 294)), some (.ref (q_h G + 295)), some (.int (nI (i))), none, none, none]) (st2 := []) (pc2 := 0) rfl rfl ?_
      refine A_wide (kc2 := kc + 8) (ks2 := ks + 48) (by omega) (by omega) ?_
      exact hnxt _ (iv_mk il z2 z3 f lo o g nx m ps kp sn (upd F 7 (nI (1))) wk as sh a fb nv ns mk va sp lp mc z ss ou oL oD hc_115 hc_116 hc_117 hc_118 hc_119 hc_120 hc_101 hc_121 hc_122 hc_123 hc_124 hc_125 hc_126 hc_127 hc_128 hc_129 hc_130 hc_131 hc_132 hc_133 hc_134 hc_135 hc_136 (x_lj_e (fun i _ _ => (hf_102 i (by omega))) hL) (x_gm_e (fun i _ _ => (hf_102 i (by omega))) hG) (x_mx_e (fun i _ _ => (hf_102 i (by omega))) hM) (x_hi_e (fun i _ _ => (hf_102 i (by omega))) hHi) (x_oj_e (fun i _ _ => (hf_102 i (by omega))) hO) (x_pj_e (fun i _ _ => (hf_102 i (by omega))) hT) (iv_hn (fun i _ _ => (hf_102 i (by omega))) hH) (iv_Sn (fun i _ _ => (hf_102 i (by omega))) hSn) (iv_Kp (fun i _ _ => (hf_102 i (by omega))) hKp) (by omega) hfb (by omega) hou hgd hps hk1 hkss hss hsn hF5 hF6 hF12 hF16 hF21 hF22 hF23 hF33 (by omega) hmk hTI hlo)
    · skip
      refine (?_ : AJ G K Q (kc + 3) (ks + 18) false 296 1155 [some (.ref bS), some (.ref (q_h G + 0)), some (.ref (q_h G + 279)), some (.ref (q_h G + 294)), some (.ref (q_h G + 295)), some (.int (nI (i))), some (.int (nI (1))), none, none] [.int (nI (0))] σ_114)
      have hc_103 : σ_114 279 = o11 G (upd F 7 (nI (2))) := hc_103
      have hc_137 : σ_114 0 = o10 G (nI (il)) (z2) (z3) := (hf_104 0 (by decide)).trans hv0
      have hc_138 : σ_114 1 = q_an G 600 f := (hf_104 1 (by decide)).trans hv1
      have hc_139 : σ_114 23 = o5 G (23) (nI (lo)) := (hf_104 23 (by decide)).trans hv2
      have hc_140 : σ_114 24 = q_an G 256 o := (hf_104 24 (by decide)).trans hv3
      have hc_141 : σ_114 224 = q_rn G 2 2 (fun j => some (243 + 18 * j)) := (hf_104 224 (by decide)).trans hv4
      have hc_142 : σ_114 225 = q_bn G 2 kp := (hf_104 225 (by decide)).trans hv5
      have hc_143 : σ_114 280 = q_an G 265 g := (hf_104 280 (by decide)).trans hv7
      have hc_144 : σ_114 281 = q_an G 265 wk := (hf_104 281 (by decide)).trans hv8
      have hc_145 : σ_114 282 = q_an G 265 as := (hf_104 282 (by decide)).trans hv9
      have hc_146 : σ_114 283 = q_an G 530 sh := (hf_104 283 (by decide)).trans hv10
      have hc_147 : σ_114 284 = q_an G 2120 a := (hf_104 284 (by decide)).trans hv11
      have hc_148 : σ_114 285 = q_bn G 1681 fb := (hf_104 285 (by decide)).trans hv12
      have hc_149 : σ_114 286 = q_an G 1681 nv := (hf_104 286 (by decide)).trans hv13
      have hc_150 : σ_114 287 = q_an G 1681 ns := (hf_104 287 (by decide)).trans hv14
      have hc_151 : σ_114 288 = q_an G 2000 mk := (hf_104 288 (by decide)).trans hv15
      have hc_152 : σ_114 289 = q_an G 6724 va := (hf_104 289 (by decide)).trans hv16
      have hc_153 : σ_114 290 = q_an G 6724 sp := (hf_104 290 (by decide)).trans hv17
      have hc_154 : σ_114 291 = q_an G 80 lp := (hf_104 291 (by decide)).trans hv18
      have hc_155 : σ_114 292 = q_an G 600 f := (hf_104 292 (by decide)).trans hv19
      have hc_156 : σ_114 293 = q_an G 300 ou := (hf_104 293 (by decide)).trans hv20
      have hc_157 : σ_114 294 = q_ln G 1 oL := (hf_104 294 (by decide)).trans hv21
      have hc_158 : σ_114 295 = q_dn G 1 oD := (hf_104 295 (by decide)).trans hv22
      exact (Chxx r1M (by omega) Mhre).elim
    · skip
      refine (?_ : AJ G K Q (kc + 3) (ks + 18) false 296 1155 [some (.ref bS), some (.ref (q_h G + 0)), some (.ref (q_h G + 279)), some (.ref (q_h G + 294)), some (.ref (q_h G + 295)), some (.int (nI (i))), some (.int (nI (1))), none, none] [.int (nI (s_V (s_rule g r1M) (41 * a1M + b1M)))] σ_114)
      have hc_105 : σ_114 279 = o11 G (upd (upd (upd F 7 (nI (0))) 12 (nI (mcqM))) 16 (nI (zqM))) := hc_105
      have hc_159 : σ_114 0 = o10 G (nI (il)) (z2) (z3) := (hf_113 0 (by decide)).trans hv0
      have hc_160 : σ_114 1 = q_an G 600 f := (hf_113 1 (by decide)).trans hv1
      have hc_161 : σ_114 23 = o5 G (23) (nI (lo)) := (hf_113 23 (by decide)).trans hv2
      have hc_162 : σ_114 24 = q_an G 256 o := (hf_113 24 (by decide)).trans hv3
      have hc_163 : σ_114 224 = q_rn G 2 2 (fun j => some (243 + 18 * j)) := (hf_113 224 (by decide)).trans hv4
      have hc_164 : σ_114 225 = q_bn G 2 kp := (hf_113 225 (by decide)).trans hv5
      have hc_165 : σ_114 280 = q_an G 265 g := (hf_113 280 (by decide)).trans hv7
      have hc_166 : σ_114 281 = q_an G 265 wk := (hf_113 281 (by decide)).trans hv8
      have hc_167 : σ_114 282 = q_an G 265 as := (hf_113 282 (by decide)).trans hv9
      have hc_168 : σ_114 283 = q_an G 530 sh := (hf_113 283 (by decide)).trans hv10
      have hc_169 : σ_114 284 = q_an G 2120 a := (hf_113 284 (by decide)).trans hv11
      have hc_170 : σ_114 292 = q_an G 600 f := (hf_113 292 (by decide)).trans hv19
      have hc_171 : σ_114 293 = q_an G 300 ou := (hf_113 293 (by decide)).trans hv20
      have hc_172 : σ_114 294 = q_ln G 1 oL := (hf_113 294 (by decide)).trans hv21
      have hc_173 : σ_114 295 = q_dn G 1 oD := (hf_113 295 (by decide)).trans hv22
      exact (Chxx r1M (by omega) Mhre).elim
  · skip
    rw [he_5]
    refine (?_ : AJ G K Q (kc + 3) (ks + 18) false 296 1131 [some (.ref bS), some (.ref (q_h G + 0)), some (.ref (q_h G + 279)), some (.ref (q_h G + 294)), some (.ref (q_h G + 295)), some (.int (nI (i))), none, none, none] [.int (nI (2))] σ)
    obtain ⟨r1C, Chx0, Chx1, Chx2⟩ := Chxx
    refine A_istore hg dL_law_1131 (by decide) (q_c1d rfl) ?_
    refine A_eq (ls2 := [some (.ref bS), some (.ref (q_h G + 0)), some (.ref (q_h G + 279)), some (.ref (q_h G + 294)), some (.ref (q_h G + 295)), some (.int (nI (i))), some (.int (nI (2))), none, none]) (st2 := []) (pc2 := 0) rfl rfl ?_
    refine A_aload_n hg dL_law_1133 rfl rfl ?_
    refine A_aload_n hg dL_law_1134 rfl rfl ?_
    refine A_iload hg dL_law_1135 rfl ?_
    refine A_iconst (v := (nI (1))) hg dL_law_1137 (by decide) ?_
    refine A_iaddN hg dL_law_1138 ?_
    refine A_sld hg hX (i + 1) (by omega) dL_law_1139 ?_
    refine A_aload_n hg dL_law_1140 rfl rfl ?_
    refine A_iload hg dL_law_1141 rfl ?_
    refine A_iconst (v := (nI (2))) hg dL_law_1143 (by decide) ?_
    refine A_iaddN hg dL_law_1144 ?_
    refine A_sld hg hX (i + 2) (by omega) dL_law_1145 ?_
    refine A_aload_n hg dL_law_1146 rfl rfl ?_
    refine A_iload hg dL_law_1147 rfl ?_
    refine A_iconst (v := (nI (3))) hg dL_law_1149 (by decide) ?_
    refine A_iaddN hg dL_law_1150 ?_
    refine A_sld hg hX (i + 3) (by omega) dL_law_1151 ?_
    refine A_hV (kc2 := kc + 3) (ks2 := ks + 18) (As := [.int (xs (i + 1)), .int (xs (i + 2)), .int (xs (i + 3))]) (rest := []) hg lk_RL_205 in_X11_value se_X11_value rfl dL_law_1152 ⟨by decide, by decide⟩ rfl rfl (hfK 3 18 (by decide) (by decide)) hv6 (by omega) rfl rfl (Nat.le_of_ble_eq_true rfl) (c_X11_value G false 296 σ F g fb nv ns mk va sp lp mc z (xs (i + 1)) (xs (i + 2)) (xs (i + 3)) hv6 hv7 hv12 hv13 hv14 hv15 hv16 hv17 hv18 (by omega) hg9 (by omega) hF12 hF16 hmk hTI hlo) ?_
    rintro _ σ_187 (⟨rfl, Mhno, hc_174, hf_175⟩ | ⟨r1M, rfl, Mhre, Mhrl, Mhnp, hc_176, hf_177⟩ | ⟨r1M, a1M, b1M, fqM, nvqM, nsqM, mkqM, vaqM, spqM, loqM, mcqM, zqM, rfl, Mhre, Mhrl, Mhke, Mhle, Mhkl, Mhll, MhTI, Mhmc, Mhmk, Mhlo, hc_178, hc_179, hc_180, hc_181, hc_182, hc_183, hc_184, hc_185, hf_186⟩)
    · skip
      refine (?_ : AJ G K Q (kc + 3) (ks + 18) false 296 1155 [some (.ref bS), some (.ref (q_h G + 0)), some (.ref (q_h G + 279)), some (.ref (q_h G + 294)), some (.ref (q_h G + 295)), some (.int (nI (i))), some (.int (nI (2))), none, none] [.int (nI (0))] σ_187)
      have hc_174 : σ_187 279 = o11 G (upd F 7 (nI (1))) := hc_174
      have hc_188 : σ_187 0 = o10 G (nI (il)) (z2) (z3) := (hf_175 0 (by decide)).trans hv0
      have hc_189 : σ_187 1 = q_an G 600 f := (hf_175 1 (by decide)).trans hv1
      have hc_190 : σ_187 23 = o5 G (23) (nI (lo)) := (hf_175 23 (by decide)).trans hv2
      have hc_191 : σ_187 24 = q_an G 256 o := (hf_175 24 (by decide)).trans hv3
      have hc_192 : σ_187 224 = q_rn G 2 2 (fun j => some (243 + 18 * j)) := (hf_175 224 (by decide)).trans hv4
      have hc_193 : σ_187 225 = q_bn G 2 kp := (hf_175 225 (by decide)).trans hv5
      have hc_194 : σ_187 280 = q_an G 265 g := (hf_175 280 (by decide)).trans hv7
      have hc_195 : σ_187 281 = q_an G 265 wk := (hf_175 281 (by decide)).trans hv8
      have hc_196 : σ_187 282 = q_an G 265 as := (hf_175 282 (by decide)).trans hv9
      have hc_197 : σ_187 283 = q_an G 530 sh := (hf_175 283 (by decide)).trans hv10
      have hc_198 : σ_187 284 = q_an G 2120 a := (hf_175 284 (by decide)).trans hv11
      have hc_199 : σ_187 285 = q_bn G 1681 fb := (hf_175 285 (by decide)).trans hv12
      have hc_200 : σ_187 286 = q_an G 1681 nv := (hf_175 286 (by decide)).trans hv13
      have hc_201 : σ_187 287 = q_an G 1681 ns := (hf_175 287 (by decide)).trans hv14
      have hc_202 : σ_187 288 = q_an G 2000 mk := (hf_175 288 (by decide)).trans hv15
      have hc_203 : σ_187 289 = q_an G 6724 va := (hf_175 289 (by decide)).trans hv16
      have hc_204 : σ_187 290 = q_an G 6724 sp := (hf_175 290 (by decide)).trans hv17
      have hc_205 : σ_187 291 = q_an G 80 lp := (hf_175 291 (by decide)).trans hv18
      have hc_206 : σ_187 292 = q_an G 600 f := (hf_175 292 (by decide)).trans hv19
      have hc_207 : σ_187 293 = q_an G 300 ou := (hf_175 293 (by decide)).trans hv20
      have hc_208 : σ_187 294 = q_ln G 1 oL := (hf_175 294 (by decide)).trans hv21
      have hc_209 : σ_187 295 = q_dn G 1 oD := (hf_175 295 (by decide)).trans hv22
      exact (Mhno r1C (by omega) Chx0).elim
    · skip
      refine (?_ : AJ G K Q (kc + 3) (ks + 18) false 296 1155 [some (.ref bS), some (.ref (q_h G + 0)), some (.ref (q_h G + 279)), some (.ref (q_h G + 294)), some (.ref (q_h G + 295)), some (.int (nI (i))), some (.int (nI (2))), none, none] [.int (nI (0))] σ_187)
      have hc_176 : σ_187 279 = o11 G (upd F 7 (nI (2))) := hc_176
      have hc_210 : σ_187 0 = o10 G (nI (il)) (z2) (z3) := (hf_177 0 (by decide)).trans hv0
      have hc_211 : σ_187 1 = q_an G 600 f := (hf_177 1 (by decide)).trans hv1
      have hc_212 : σ_187 23 = o5 G (23) (nI (lo)) := (hf_177 23 (by decide)).trans hv2
      have hc_213 : σ_187 24 = q_an G 256 o := (hf_177 24 (by decide)).trans hv3
      have hc_214 : σ_187 224 = q_rn G 2 2 (fun j => some (243 + 18 * j)) := (hf_177 224 (by decide)).trans hv4
      have hc_215 : σ_187 225 = q_bn G 2 kp := (hf_177 225 (by decide)).trans hv5
      have hc_216 : σ_187 280 = q_an G 265 g := (hf_177 280 (by decide)).trans hv7
      have hc_217 : σ_187 281 = q_an G 265 wk := (hf_177 281 (by decide)).trans hv8
      have hc_218 : σ_187 282 = q_an G 265 as := (hf_177 282 (by decide)).trans hv9
      have hc_219 : σ_187 283 = q_an G 530 sh := (hf_177 283 (by decide)).trans hv10
      have hc_220 : σ_187 284 = q_an G 2120 a := (hf_177 284 (by decide)).trans hv11
      have hc_221 : σ_187 285 = q_bn G 1681 fb := (hf_177 285 (by decide)).trans hv12
      have hc_222 : σ_187 286 = q_an G 1681 nv := (hf_177 286 (by decide)).trans hv13
      have hc_223 : σ_187 287 = q_an G 1681 ns := (hf_177 287 (by decide)).trans hv14
      have hc_224 : σ_187 288 = q_an G 2000 mk := (hf_177 288 (by decide)).trans hv15
      have hc_225 : σ_187 289 = q_an G 6724 va := (hf_177 289 (by decide)).trans hv16
      have hc_226 : σ_187 290 = q_an G 6724 sp := (hf_177 290 (by decide)).trans hv17
      have hc_227 : σ_187 291 = q_an G 80 lp := (hf_177 291 (by decide)).trans hv18
      have hc_228 : σ_187 292 = q_an G 600 f := (hf_177 292 (by decide)).trans hv19
      have hc_229 : σ_187 293 = q_an G 300 ou := (hf_177 293 (by decide)).trans hv20
      have hc_230 : σ_187 294 = q_ln G 1 oL := (hf_177 294 (by decide)).trans hv21
      have hc_231 : σ_187 295 = q_dn G 1 oD := (hf_177 295 (by decide)).trans hv22
      have e_r : r1C = r1M := q_nI_inj (by omega) (by omega) (Chx0.symm.trans Mhre)
      subst e_r
      refine A_istore hg dL_law_1155 (by decide) (q_c1d rfl) ?_
      refine A_eq (ls2 := [some (.ref bS), some (.ref (q_h G + 0)), some (.ref (q_h G + 279)), some (.ref (q_h G + 294)), some (.ref (q_h G + 295)), some (.int (nI (i))), some (.int (nI (2))), some (.int (nI (0))), none]) (st2 := []) (pc2 := 0) rfl rfl ?_
      refine A_aload_n hg dL_law_1157 rfl rfl ?_
      refine A_eV (kc2 := kc + 3) (ks2 := ks + 18) (As := []) (rest := []) hg lk_RL_170 in_X11_thrown se_X11_thrown rfl dL_law_1158 ⟨by decide, by decide⟩ rfl rfl (hfK 3 18 (by decide) (by decide)) hc_176 (by omega) rfl rfl (Nat.le_of_ble_eq_true rfl) (c_X11_thrown G false 296 σ_187 (upd F 7 (nI (2))) hc_176 (by omega)) ?_
      refine A_top (w := .int (nI (2))) (congrArg Value.int rfl) ?_
      refine A_iload hg dL_law_1161 rfl ?_
      refine A_icmp_eqN (tgt := 1168) hg dL_law_1163 (by decide) (by decide) (by decide) (fun c1163 => ?_) (fun c1163 => False.elim (by omega))
      refine A_iload hg dL_law_1168 rfl ?_
      refine A_if_neN (tgt := 1185) hg dL_law_1170 (by decide) (by decide) (fun c1170 => ?_) (fun c1170 => absurd c1170 (by decide))
      refine A_goto (tgt := 3062) hg dL_law_1185 (by decide) ?_
      refine A_drop 6 ?_
      refine A_drop 7 ?_
      refine A_eq (ls2 := [some (.ref bS), some (.ref (q_h G + 0)), some (.ref (q_h G + 279)), some (.ref (q_h G + 294)), some (.ref (q_h G + 295)), some (.int (nI (i))), none, none, none]) (st2 := []) (pc2 := 0) rfl rfl ?_
      refine A_wide (kc2 := kc + 8) (ks2 := ks + 48) (by omega) (by omega) ?_
      exact hnxt _ (iv_mk il z2 z3 f lo o g nx m ps kp sn (upd F 7 (nI (2))) wk as sh a fb nv ns mk va sp lp mc z ss ou oL oD hc_210 hc_211 hc_212 hc_213 hc_214 hc_215 hc_176 hc_216 hc_217 hc_218 hc_219 hc_220 hc_221 hc_222 hc_223 hc_224 hc_225 hc_226 hc_227 hc_228 hc_229 hc_230 hc_231 (x_lj_e (fun i _ _ => (hf_177 i (by omega))) hL) (x_gm_e (fun i _ _ => (hf_177 i (by omega))) hG) (x_mx_e (fun i _ _ => (hf_177 i (by omega))) hM) (x_hi_e (fun i _ _ => (hf_177 i (by omega))) hHi) (x_oj_e (fun i _ _ => (hf_177 i (by omega))) hO) (x_pj_e (fun i _ _ => (hf_177 i (by omega))) hT) (iv_hn (fun i _ _ => (hf_177 i (by omega))) hH) (iv_Sn (fun i _ _ => (hf_177 i (by omega))) hSn) (iv_Kp (fun i _ _ => (hf_177 i (by omega))) hKp) (by omega) hfb (by omega) hou hgd hps hk1 hkss hss hsn hF5 hF6 hF12 hF16 hF21 hF22 hF23 hF33 (by omega) hmk hTI hlo)
    · skip
      refine (?_ : AJ G K Q (kc + 3) (ks + 18) false 296 1155 [some (.ref bS), some (.ref (q_h G + 0)), some (.ref (q_h G + 279)), some (.ref (q_h G + 294)), some (.ref (q_h G + 295)), some (.int (nI (i))), some (.int (nI (2))), none, none] [.int (nI (s_V (s_rule g r1M) (41 * a1M + b1M)))] σ_187)
      have hc_178 : σ_187 279 = o11 G (upd (upd (upd F 7 (nI (0))) 12 (nI (mcqM))) 16 (nI (zqM))) := hc_178
      have hc_232 : σ_187 0 = o10 G (nI (il)) (z2) (z3) := (hf_186 0 (by decide)).trans hv0
      have hc_233 : σ_187 1 = q_an G 600 f := (hf_186 1 (by decide)).trans hv1
      have hc_234 : σ_187 23 = o5 G (23) (nI (lo)) := (hf_186 23 (by decide)).trans hv2
      have hc_235 : σ_187 24 = q_an G 256 o := (hf_186 24 (by decide)).trans hv3
      have hc_236 : σ_187 224 = q_rn G 2 2 (fun j => some (243 + 18 * j)) := (hf_186 224 (by decide)).trans hv4
      have hc_237 : σ_187 225 = q_bn G 2 kp := (hf_186 225 (by decide)).trans hv5
      have hc_238 : σ_187 280 = q_an G 265 g := (hf_186 280 (by decide)).trans hv7
      have hc_239 : σ_187 281 = q_an G 265 wk := (hf_186 281 (by decide)).trans hv8
      have hc_240 : σ_187 282 = q_an G 265 as := (hf_186 282 (by decide)).trans hv9
      have hc_241 : σ_187 283 = q_an G 530 sh := (hf_186 283 (by decide)).trans hv10
      have hc_242 : σ_187 284 = q_an G 2120 a := (hf_186 284 (by decide)).trans hv11
      have hc_243 : σ_187 292 = q_an G 600 f := (hf_186 292 (by decide)).trans hv19
      have hc_244 : σ_187 293 = q_an G 300 ou := (hf_186 293 (by decide)).trans hv20
      have hc_245 : σ_187 294 = q_ln G 1 oL := (hf_186 294 (by decide)).trans hv21
      have hc_246 : σ_187 295 = q_dn G 1 oD := (hf_186 295 (by decide)).trans hv22
      have e_r : r1C = r1M := q_nI_inj (by omega) (by omega) (Chx0.symm.trans Mhre)
      subst e_r
      exact (Chx2 a1M b1M (by omega) (by omega) Mhke Mhle).elim
set_option maxRecDepth 100000 in
set_option maxHeartbeats 4000000 in
theorem law_c16 (G : GL) (K : KC) (Q : State → Prop) (hh : List (Nat × Nat × Nat × Nat)) (hg : Gd G K RL code 9 ret room_1 hh) (bS L : Nat) (xs : Nat → Int32) (hX : q_scr G K bS L xs) (i kc ks J : Nat) (hi : i + 5 < L) (hL31 : L < 2 ^ 31) (hkc : kc + 8 ≤ 601024) (hks : ks + 48 ≤ 7293034) (σ : Nat → va_E) (hI : iv G σ J) (hJ : J < 512) (hfd : q_fdn) (hdd : q_ddn) (hf2 : q_f2n) (hds : q_dcs) (hnxt : ∀ σ9 : Nat → va_E, iv G σ9 (J + 1) → AJ G K Q (kc + 8) (ks + 48) false 296 3062 [some (.ref bS), some (.ref (q_h G + 0)), some (.ref (q_h G + 279)), some (.ref (q_h G + 294)), some (.ref (q_h G + 295)), some (.int (nI (i))), none, none, none] [] σ9) : AJ G K Q kc ks false 296 1188 [some (.ref bS), some (.ref (q_h G + 0)), some (.ref (q_h G + 279)), some (.ref (q_h G + 294)), some (.ref (q_h G + 295)), some (.int (nI (i))), none, none, none] [] σ := by
  refine iv_el hI ?_
  intro il z2 z3 f lo o g nx m ps kp sn F wk as sh a fb nv ns mk va sp lp mc z ss ou oL oD
  intro hv0 hv1 hv2 hv3 hv4 hv5 hv6 hv7 hv8 hv9 hv10 hv11 hv12 hv13 hv14 hv15 hv16 hv17 hv18 hv19 hv20 hv21 hv22
  intro hL hG hM hHi hO hT hH hSn hKp
  intro hil hfb hlo2 hou hgd hps hk1 hkss hss hsn hF5 hF6 hF12 hF16 hF21 hF22 hF23 hF33 hmc hmk hTI hlo
  have hfK : ∀ a b : Nat, a ≤ 8 → b ≤ 48 → kc + a ≤ room_1.cells ∧ ks + b ≤ room_1.slots := fun a b h1 h2 => ⟨by show kc + a ≤ 601024; omega, by show ks + b ≤ 7293034; omega⟩
  have hg9 := iv_g hG
  obtain ⟨hnx8, hm8, hc78⟩ := iv_hi hHi
  have hbb := iv_byte (m := il) hfb
  have hg90 := hg9.1
  have hg96 := hg9.2.2.2.2.1
  have hnp8 := s_np_le hg9
  refine A_aload_n hg dL_law_1188 rfl rfl ?_
  refine A_aload_n hg dL_law_1189 rfl rfl ?_
  refine A_iload hg dL_law_1190 rfl ?_
  refine A_iconst (v := (nI (1))) hg dL_law_1192 (by decide) ?_
  refine A_iaddN hg dL_law_1193 ?_
  refine A_sld hg hX (i + 1) (by omega) dL_law_1194 ?_
  refine A_aload_n hg dL_law_1195 rfl rfl ?_
  refine A_iload hg dL_law_1196 rfl ?_
  refine A_iconst (v := (nI (2))) hg dL_law_1198 (by decide) ?_
  refine A_iaddN hg dL_law_1199 ?_
  refine A_sld hg hX (i + 2) (by omega) dL_law_1200 ?_
  refine A_aload_n hg dL_law_1201 rfl rfl ?_
  refine A_iload hg dL_law_1202 rfl ?_
  refine A_iconst (v := (nI (3))) hg dL_law_1204 (by decide) ?_
  refine A_iaddN hg dL_law_1205 ?_
  refine A_sld hg hX (i + 3) (by omega) dL_law_1206 ?_
  refine A_aload_n hg dL_law_1207 rfl rfl ?_
  refine A_callSH (As := [.ref (q_h G + 0), .int (xs (i + 1)), .int (xs (i + 2)), .int (xs (i + 3)), .ref (q_h G + 294)]) (rest := []) hg lkH_206 stH_L_span dL_law_1208 ⟨by decide, by decide⟩ (hfK 3 18 (by decide) (by decide)) rfl rfl (Nat.le_of_ble_eq_true rfl) (c_L_span G 296 σ (nI (il)) z2 z3 g (xs (i + 1)) (xs (i + 2)) (xs (i + 3)) oL hv0 hv21 (by omega) hG hM (by omega)) ?_
  rintro _ σ_1 (⟨r1C, a1C, b1C, rfl, Chre, Chrl, Chke, Chle, Chkl, Chll, ChM2, hc_2, hf_3⟩ | ⟨rfl, Chxx, he_4⟩ | ⟨rfl, Chxx, he_5⟩)
  · skip
    refine (?_ : AJ G K Q (kc + 3) (ks + 18) false 296 1211 [some (.ref bS), some (.ref (q_h G + 0)), some (.ref (q_h G + 279)), some (.ref (q_h G + 294)), some (.ref (q_h G + 295)), some (.int (nI (i))), none, none, none] [.int (nI (0))] σ_1)
    have hc_6 : σ_1 0 = o10 G (nI (il)) (z2) (z3) := (hf_3 0 (by decide)).trans hv0
    have hc_7 : σ_1 1 = q_an G 600 f := (hf_3 1 (by decide)).trans hv1
    have hc_8 : σ_1 23 = o5 G (23) (nI (lo)) := (hf_3 23 (by decide)).trans hv2
    have hc_9 : σ_1 24 = q_an G 256 o := (hf_3 24 (by decide)).trans hv3
    have hc_10 : σ_1 224 = q_rn G 2 2 (fun j => some (243 + 18 * j)) := (hf_3 224 (by decide)).trans hv4
    have hc_11 : σ_1 225 = q_bn G 2 kp := (hf_3 225 (by decide)).trans hv5
    have hc_12 : σ_1 279 = o11 G F := (hf_3 279 (by decide)).trans hv6
    have hc_13 : σ_1 280 = q_an G 265 g := (hf_3 280 (by decide)).trans hv7
    have hc_14 : σ_1 281 = q_an G 265 wk := (hf_3 281 (by decide)).trans hv8
    have hc_15 : σ_1 282 = q_an G 265 as := (hf_3 282 (by decide)).trans hv9
    have hc_16 : σ_1 283 = q_an G 530 sh := (hf_3 283 (by decide)).trans hv10
    have hc_17 : σ_1 284 = q_an G 2120 a := (hf_3 284 (by decide)).trans hv11
    have hc_18 : σ_1 285 = q_bn G 1681 fb := (hf_3 285 (by decide)).trans hv12
    have hc_19 : σ_1 286 = q_an G 1681 nv := (hf_3 286 (by decide)).trans hv13
    have hc_20 : σ_1 287 = q_an G 1681 ns := (hf_3 287 (by decide)).trans hv14
    have hc_21 : σ_1 288 = q_an G 2000 mk := (hf_3 288 (by decide)).trans hv15
    have hc_22 : σ_1 289 = q_an G 6724 va := (hf_3 289 (by decide)).trans hv16
    have hc_23 : σ_1 290 = q_an G 6724 sp := (hf_3 290 (by decide)).trans hv17
    have hc_24 : σ_1 291 = q_an G 80 lp := (hf_3 291 (by decide)).trans hv18
    have hc_25 : σ_1 292 = q_an G 600 f := (hf_3 292 (by decide)).trans hv19
    have hc_26 : σ_1 293 = q_an G 300 ou := (hf_3 293 (by decide)).trans hv20
    have hc_27 : σ_1 295 = q_dn G 1 oD := (hf_3 295 (by decide)).trans hv22
    refine A_istore hg dL_law_1211 (by decide) (q_c1d rfl) ?_
    refine A_eq (ls2 := [some (.ref bS), some (.ref (q_h G + 0)), some (.ref (q_h G + 279)), some (.ref (q_h G + 294)), some (.ref (q_h G + 295)), some (.int (nI (i))), some (.int (nI (0))), none, none]) (st2 := []) (pc2 := 0) rfl rfl ?_
    refine A_aload_n hg dL_law_1213 rfl rfl ?_
    refine A_aload_n hg dL_law_1214 rfl rfl ?_
    refine A_iload hg dL_law_1215 rfl ?_
    refine A_iconst (v := (nI (1))) hg dL_law_1217 (by decide) ?_
    refine A_iaddN hg dL_law_1218 ?_
    refine A_sld hg hX (i + 1) (by omega) dL_law_1219 ?_
    refine A_aload_n hg dL_law_1220 rfl rfl ?_
    refine A_iload hg dL_law_1221 rfl ?_
    refine A_iconst (v := (nI (2))) hg dL_law_1223 (by decide) ?_
    refine A_iaddN hg dL_law_1224 ?_
    refine A_sld hg hX (i + 2) (by omega) dL_law_1225 ?_
    refine A_aload_n hg dL_law_1226 rfl rfl ?_
    refine A_iload hg dL_law_1227 rfl ?_
    refine A_iconst (v := (nI (3))) hg dL_law_1229 (by decide) ?_
    refine A_iaddN hg dL_law_1230 ?_
    refine A_sld hg hX (i + 3) (by omega) dL_law_1231 ?_
    refine A_hV (kc2 := kc + 3) (ks2 := ks + 18) (As := [.int (xs (i + 1)), .int (xs (i + 2)), .int (xs (i + 3))]) (rest := []) hg lk_RL_208 in_X11_span se_X11_span rfl dL_law_1232 ⟨by decide, by decide⟩ rfl rfl (hfK 3 18 (by decide) (by decide)) hc_12 (by omega) rfl rfl (Nat.le_of_ble_eq_true rfl) (c_X11_span G false 296 σ_1 F g fb nv ns mk va sp lp mc z (xs (i + 1)) (xs (i + 2)) (xs (i + 3)) hc_12 hc_13 hc_18 hc_19 hc_20 hc_21 hc_22 hc_23 hc_24 (by omega) hg9 (by omega) hF12 hF16 hmk hTI hlo) ?_
    rintro _ σ_41 (⟨rfl, Mhno, hc_28, hf_29⟩ | ⟨r1M, rfl, Mhre, Mhrl, Mhnp, hc_30, hf_31⟩ | ⟨r1M, a1M, b1M, fqM, nvqM, nsqM, mkqM, vaqM, spqM, loqM, mcqM, zqM, rfl, Mhre, Mhrl, Mhke, Mhle, Mhkl, Mhll, MhTI, Mhmc, Mhmk, Mhlo, hc_32, hc_33, hc_34, hc_35, hc_36, hc_37, hc_38, hc_39, hf_40⟩)
    · skip
      refine (?_ : AJ G K Q (kc + 3) (ks + 18) false 296 1235 [some (.ref bS), some (.ref (q_h G + 0)), some (.ref (q_h G + 279)), some (.ref (q_h G + 294)), some (.ref (q_h G + 295)), some (.int (nI (i))), some (.int (nI (0))), none, none] [.int (nI (0))] σ_41)
      have hc_28 : σ_41 279 = o11 G (upd F 7 (nI (1))) := hc_28
      have hc_42 : σ_41 0 = o10 G (nI (il)) (z2) (z3) := (hf_29 0 (by decide)).trans hc_6
      have hc_43 : σ_41 1 = q_an G 600 f := (hf_29 1 (by decide)).trans hc_7
      have hc_44 : σ_41 23 = o5 G (23) (nI (lo)) := (hf_29 23 (by decide)).trans hc_8
      have hc_45 : σ_41 24 = q_an G 256 o := (hf_29 24 (by decide)).trans hc_9
      have hc_46 : σ_41 224 = q_rn G 2 2 (fun j => some (243 + 18 * j)) := (hf_29 224 (by decide)).trans hc_10
      have hc_47 : σ_41 225 = q_bn G 2 kp := (hf_29 225 (by decide)).trans hc_11
      have hc_48 : σ_41 280 = q_an G 265 g := (hf_29 280 (by decide)).trans hc_13
      have hc_49 : σ_41 281 = q_an G 265 wk := (hf_29 281 (by decide)).trans hc_14
      have hc_50 : σ_41 282 = q_an G 265 as := (hf_29 282 (by decide)).trans hc_15
      have hc_51 : σ_41 283 = q_an G 530 sh := (hf_29 283 (by decide)).trans hc_16
      have hc_52 : σ_41 284 = q_an G 2120 a := (hf_29 284 (by decide)).trans hc_17
      have hc_53 : σ_41 285 = q_bn G 1681 fb := (hf_29 285 (by decide)).trans hc_18
      have hc_54 : σ_41 286 = q_an G 1681 nv := (hf_29 286 (by decide)).trans hc_19
      have hc_55 : σ_41 287 = q_an G 1681 ns := (hf_29 287 (by decide)).trans hc_20
      have hc_56 : σ_41 288 = q_an G 2000 mk := (hf_29 288 (by decide)).trans hc_21
      have hc_57 : σ_41 289 = q_an G 6724 va := (hf_29 289 (by decide)).trans hc_22
      have hc_58 : σ_41 290 = q_an G 6724 sp := (hf_29 290 (by decide)).trans hc_23
      have hc_59 : σ_41 291 = q_an G 80 lp := (hf_29 291 (by decide)).trans hc_24
      have hc_60 : σ_41 292 = q_an G 600 f := (hf_29 292 (by decide)).trans hc_25
      have hc_61 : σ_41 293 = q_an G 300 ou := (hf_29 293 (by decide)).trans hc_26
      have hc_62 : σ_41 295 = q_dn G 1 oD := (hf_29 295 (by decide)).trans hc_27
      have hc_63 : σ_41 294 = q_ln G 1 (va_up oL 0 ((nI (s_S (s_rule g r1C) (41 * a1C + b1C))).toInt64)) := (hf_29 294 (by decide)).trans hc_2
      exact (Mhno r1C (by omega) Chre).elim
    · skip
      refine (?_ : AJ G K Q (kc + 3) (ks + 18) false 296 1235 [some (.ref bS), some (.ref (q_h G + 0)), some (.ref (q_h G + 279)), some (.ref (q_h G + 294)), some (.ref (q_h G + 295)), some (.int (nI (i))), some (.int (nI (0))), none, none] [.int (nI (0))] σ_41)
      have hc_30 : σ_41 279 = o11 G (upd F 7 (nI (2))) := hc_30
      have hc_64 : σ_41 0 = o10 G (nI (il)) (z2) (z3) := (hf_31 0 (by decide)).trans hc_6
      have hc_65 : σ_41 1 = q_an G 600 f := (hf_31 1 (by decide)).trans hc_7
      have hc_66 : σ_41 23 = o5 G (23) (nI (lo)) := (hf_31 23 (by decide)).trans hc_8
      have hc_67 : σ_41 24 = q_an G 256 o := (hf_31 24 (by decide)).trans hc_9
      have hc_68 : σ_41 224 = q_rn G 2 2 (fun j => some (243 + 18 * j)) := (hf_31 224 (by decide)).trans hc_10
      have hc_69 : σ_41 225 = q_bn G 2 kp := (hf_31 225 (by decide)).trans hc_11
      have hc_70 : σ_41 280 = q_an G 265 g := (hf_31 280 (by decide)).trans hc_13
      have hc_71 : σ_41 281 = q_an G 265 wk := (hf_31 281 (by decide)).trans hc_14
      have hc_72 : σ_41 282 = q_an G 265 as := (hf_31 282 (by decide)).trans hc_15
      have hc_73 : σ_41 283 = q_an G 530 sh := (hf_31 283 (by decide)).trans hc_16
      have hc_74 : σ_41 284 = q_an G 2120 a := (hf_31 284 (by decide)).trans hc_17
      have hc_75 : σ_41 285 = q_bn G 1681 fb := (hf_31 285 (by decide)).trans hc_18
      have hc_76 : σ_41 286 = q_an G 1681 nv := (hf_31 286 (by decide)).trans hc_19
      have hc_77 : σ_41 287 = q_an G 1681 ns := (hf_31 287 (by decide)).trans hc_20
      have hc_78 : σ_41 288 = q_an G 2000 mk := (hf_31 288 (by decide)).trans hc_21
      have hc_79 : σ_41 289 = q_an G 6724 va := (hf_31 289 (by decide)).trans hc_22
      have hc_80 : σ_41 290 = q_an G 6724 sp := (hf_31 290 (by decide)).trans hc_23
      have hc_81 : σ_41 291 = q_an G 80 lp := (hf_31 291 (by decide)).trans hc_24
      have hc_82 : σ_41 292 = q_an G 600 f := (hf_31 292 (by decide)).trans hc_25
      have hc_83 : σ_41 293 = q_an G 300 ou := (hf_31 293 (by decide)).trans hc_26
      have hc_84 : σ_41 295 = q_dn G 1 oD := (hf_31 295 (by decide)).trans hc_27
      have hc_85 : σ_41 294 = q_ln G 1 (va_up oL 0 ((nI (s_S (s_rule g r1C) (41 * a1C + b1C))).toInt64)) := (hf_31 294 (by decide)).trans hc_2
      have e_r : r1C = r1M := q_nI_inj (by omega) (by omega) (Chre.symm.trans Mhre)
      subst e_r
      exact (Mhnp a1C b1C (by omega) (by omega) Chke Chle).elim
    · skip
      refine (?_ : AJ G K Q (kc + 3) (ks + 18) false 296 1235 [some (.ref bS), some (.ref (q_h G + 0)), some (.ref (q_h G + 279)), some (.ref (q_h G + 294)), some (.ref (q_h G + 295)), some (.int (nI (i))), some (.int (nI (0))), none, none] [.int (nI (s_S (s_rule g r1M) (41 * a1M + b1M)))] σ_41)
      have hc_32 : σ_41 279 = o11 G (upd (upd (upd F 7 (nI (0))) 12 (nI (mcqM))) 16 (nI (zqM))) := hc_32
      have hc_86 : σ_41 0 = o10 G (nI (il)) (z2) (z3) := (hf_40 0 (by decide)).trans hc_6
      have hc_87 : σ_41 1 = q_an G 600 f := (hf_40 1 (by decide)).trans hc_7
      have hc_88 : σ_41 23 = o5 G (23) (nI (lo)) := (hf_40 23 (by decide)).trans hc_8
      have hc_89 : σ_41 24 = q_an G 256 o := (hf_40 24 (by decide)).trans hc_9
      have hc_90 : σ_41 224 = q_rn G 2 2 (fun j => some (243 + 18 * j)) := (hf_40 224 (by decide)).trans hc_10
      have hc_91 : σ_41 225 = q_bn G 2 kp := (hf_40 225 (by decide)).trans hc_11
      have hc_92 : σ_41 280 = q_an G 265 g := (hf_40 280 (by decide)).trans hc_13
      have hc_93 : σ_41 281 = q_an G 265 wk := (hf_40 281 (by decide)).trans hc_14
      have hc_94 : σ_41 282 = q_an G 265 as := (hf_40 282 (by decide)).trans hc_15
      have hc_95 : σ_41 283 = q_an G 530 sh := (hf_40 283 (by decide)).trans hc_16
      have hc_96 : σ_41 284 = q_an G 2120 a := (hf_40 284 (by decide)).trans hc_17
      have hc_97 : σ_41 292 = q_an G 600 f := (hf_40 292 (by decide)).trans hc_25
      have hc_98 : σ_41 293 = q_an G 300 ou := (hf_40 293 (by decide)).trans hc_26
      have hc_99 : σ_41 295 = q_dn G 1 oD := (hf_40 295 (by decide)).trans hc_27
      have hc_100 : σ_41 294 = q_ln G 1 (va_up oL 0 ((nI (s_S (s_rule g r1C) (41 * a1C + b1C))).toInt64)) := (hf_40 294 (by decide)).trans hc_2
      have e_r : r1C = r1M := q_nI_inj (by omega) (by omega) (Chre.symm.trans Mhre)
      subst e_r
      have e_k : a1C = a1M := q_nI_inj (by omega) (by omega) (Chke.symm.trans Mhke)
      subst e_k
      have e_l : b1C = b1M := q_nI_inj (by omega) (by omega) (Chle.symm.trans Mhle)
      subst e_l
      refine A_istore hg dL_law_1235 (by decide) (q_c1d rfl) ?_
      refine A_eq (ls2 := [some (.ref bS), some (.ref (q_h G + 0)), some (.ref (q_h G + 279)), some (.ref (q_h G + 294)), some (.ref (q_h G + 295)), some (.int (nI (i))), some (.int (nI (0))), some (.int (nI (s_S (s_rule g r1C) (41 * a1C + b1C)))), none]) (st2 := []) (pc2 := 0) rfl rfl ?_
      refine A_aload_n hg dL_law_1237 rfl rfl ?_
      refine A_eV (kc2 := kc + 3) (ks2 := ks + 18) (As := []) (rest := []) hg lk_RL_170 in_X11_thrown se_X11_thrown rfl dL_law_1238 ⟨by decide, by decide⟩ rfl rfl (hfK 3 18 (by decide) (by decide)) hc_32 (by omega) rfl rfl (Nat.le_of_ble_eq_true rfl) (c_X11_thrown G false 296 σ_41 (upd (upd (upd F 7 (nI (0))) 12 (nI (mcqM))) 16 (nI (zqM))) hc_32 (by omega)) ?_
      refine A_top (w := .int (nI (0))) (congrArg Value.int rfl) ?_
      refine A_iload hg dL_law_1241 rfl ?_
      refine A_icmp_eqN (tgt := 1248) hg dL_law_1243 (by decide) (by decide) (by decide) (fun c1243 => ?_) (fun c1243 => False.elim (by omega))
      refine A_iload hg dL_law_1248 rfl ?_
      refine A_if_neN (tgt := 1265) hg dL_law_1250 (by decide) (by decide) (fun c1250 => absurd (by decide) c1250) (fun c1250 => ?_)
      refine A_aload_n hg dL_law_1253 rfl rfl ?_
      refine A_iconst (v := (nI (0))) hg dL_law_1254 (by decide) ?_
      refine A_lald (j := 0) hg dL_law_1255 hc_100 (by omega) (by decide) (by decide) ?_
      refine A_top (w := .long ((nI (s_S (s_rule g r1C) (41 * a1C + b1C))).toInt64)) (congrArg Value.long iv_up0) ?_
      refine A_iload hg dL_law_1256 rfl ?_
      refine A_i2l (v := (nI (s_S (s_rule g r1C) (41 * a1C + b1C))).toInt64) hg dL_law_1258 rfl ?_
      refine A_lcmp hg dL_law_1259 ?_
      refine A_top (w := .int (nI 0)) (congrArg Value.int (lc_self _)) ?_
      refine A_if_eqN (tgt := 1265) hg dL_law_1260 (by decide) (by decide) (fun c1260 => ?_) (fun c1260 => absurd (by decide) c1260)
      refine A_goto (tgt := 3062) hg dL_law_1265 (by decide) ?_
      refine A_drop 6 ?_
      refine A_drop 7 ?_
      refine A_eq (ls2 := [some (.ref bS), some (.ref (q_h G + 0)), some (.ref (q_h G + 279)), some (.ref (q_h G + 294)), some (.ref (q_h G + 295)), some (.int (nI (i))), none, none, none]) (st2 := []) (pc2 := 0) rfl rfl ?_
      refine A_wide (kc2 := kc + 8) (ks2 := ks + 48) (by omega) (by omega) ?_
      exact hnxt _ (iv_mk il z2 z3 f lo o g nx m ps kp sn (upd (upd (upd F 7 (nI (0))) 12 (nI (mcqM))) 16 (nI (zqM))) wk as sh a fqM nvqM nsqM mkqM vaqM spqM loqM mcqM zqM ss ou (va_up oL 0 ((nI (s_S (s_rule g r1C) (41 * a1C + b1C))).toInt64)) oD hc_86 hc_87 hc_88 hc_89 hc_90 hc_91 hc_32 hc_92 hc_93 hc_94 hc_95 hc_96 hc_33 hc_34 hc_35 hc_36 hc_37 hc_38 hc_39 hc_97 hc_98 hc_100 hc_99 (x_lj_e (fun i _ _ => ((hf_40 i (by omega)).trans (hf_3 i (by omega)))) hL) (x_gm_e (fun i _ _ => ((hf_40 i (by omega)).trans (hf_3 i (by omega)))) hG) (x_mx_e (fun i _ _ => (hf_40 i (by omega))) ChM2) (x_hi_e (fun i _ _ => ((hf_40 i (by omega)).trans (hf_3 i (by omega)))) hHi) (x_oj_e (fun i _ _ => ((hf_40 i (by omega)).trans (hf_3 i (by omega)))) hO) (x_pj_e (fun i _ _ => ((hf_40 i (by omega)).trans (hf_3 i (by omega)))) hT) (iv_hn (fun i _ _ => ((hf_40 i (by omega)).trans (hf_3 i (by omega)))) hH) (iv_Sn (fun i _ _ => ((hf_40 i (by omega)).trans (hf_3 i (by omega)))) hSn) (iv_Kp (fun i _ _ => ((hf_40 i (by omega)).trans (hf_3 i (by omega)))) hKp) (by omega) hfb (by omega) hou hgd hps hk1 hkss hss hsn hF5 hF6 rfl rfl hF21 hF22 hF23 hF33 (by omega) Mhmk MhTI Mhlo)
  · skip
    rw [he_4]
    refine (?_ : AJ G K Q (kc + 3) (ks + 18) false 296 1211 [some (.ref bS), some (.ref (q_h G + 0)), some (.ref (q_h G + 279)), some (.ref (q_h G + 294)), some (.ref (q_h G + 295)), some (.int (nI (i))), none, none, none] [.int (nI (1))] σ)
    refine A_istore hg dL_law_1211 (by decide) (q_c1d rfl) ?_
    refine A_eq (ls2 := [some (.ref bS), some (.ref (q_h G + 0)), some (.ref (q_h G + 279)), some (.ref (q_h G + 294)), some (.ref (q_h G + 295)), some (.int (nI (i))), some (.int (nI (1))), none, none]) (st2 := []) (pc2 := 0) rfl rfl ?_
    refine A_aload_n hg dL_law_1213 rfl rfl ?_
    refine A_aload_n hg dL_law_1214 rfl rfl ?_
    refine A_iload hg dL_law_1215 rfl ?_
    refine A_iconst (v := (nI (1))) hg dL_law_1217 (by decide) ?_
    refine A_iaddN hg dL_law_1218 ?_
    refine A_sld hg hX (i + 1) (by omega) dL_law_1219 ?_
    refine A_aload_n hg dL_law_1220 rfl rfl ?_
    refine A_iload hg dL_law_1221 rfl ?_
    refine A_iconst (v := (nI (2))) hg dL_law_1223 (by decide) ?_
    refine A_iaddN hg dL_law_1224 ?_
    refine A_sld hg hX (i + 2) (by omega) dL_law_1225 ?_
    refine A_aload_n hg dL_law_1226 rfl rfl ?_
    refine A_iload hg dL_law_1227 rfl ?_
    refine A_iconst (v := (nI (3))) hg dL_law_1229 (by decide) ?_
    refine A_iaddN hg dL_law_1230 ?_
    refine A_sld hg hX (i + 3) (by omega) dL_law_1231 ?_
    refine A_hV (kc2 := kc + 3) (ks2 := ks + 18) (As := [.int (xs (i + 1)), .int (xs (i + 2)), .int (xs (i + 3))]) (rest := []) hg lk_RL_208 in_X11_span se_X11_span rfl dL_law_1232 ⟨by decide, by decide⟩ rfl rfl (hfK 3 18 (by decide) (by decide)) hv6 (by omega) rfl rfl (Nat.le_of_ble_eq_true rfl) (c_X11_span G false 296 σ F g fb nv ns mk va sp lp mc z (xs (i + 1)) (xs (i + 2)) (xs (i + 3)) hv6 hv7 hv12 hv13 hv14 hv15 hv16 hv17 hv18 (by omega) hg9 (by omega) hF12 hF16 hmk hTI hlo) ?_
    rintro _ σ_114 (⟨rfl, Mhno, hc_101, hf_102⟩ | ⟨r1M, rfl, Mhre, Mhrl, Mhnp, hc_103, hf_104⟩ | ⟨r1M, a1M, b1M, fqM, nvqM, nsqM, mkqM, vaqM, spqM, loqM, mcqM, zqM, rfl, Mhre, Mhrl, Mhke, Mhle, Mhkl, Mhll, MhTI, Mhmc, Mhmk, Mhlo, hc_105, hc_106, hc_107, hc_108, hc_109, hc_110, hc_111, hc_112, hf_113⟩)
    · skip
      refine (?_ : AJ G K Q (kc + 3) (ks + 18) false 296 1235 [some (.ref bS), some (.ref (q_h G + 0)), some (.ref (q_h G + 279)), some (.ref (q_h G + 294)), some (.ref (q_h G + 295)), some (.int (nI (i))), some (.int (nI (1))), none, none] [.int (nI (0))] σ_114)
      have hc_101 : σ_114 279 = o11 G (upd F 7 (nI (1))) := hc_101
      have hc_115 : σ_114 0 = o10 G (nI (il)) (z2) (z3) := (hf_102 0 (by decide)).trans hv0
      have hc_116 : σ_114 1 = q_an G 600 f := (hf_102 1 (by decide)).trans hv1
      have hc_117 : σ_114 23 = o5 G (23) (nI (lo)) := (hf_102 23 (by decide)).trans hv2
      have hc_118 : σ_114 24 = q_an G 256 o := (hf_102 24 (by decide)).trans hv3
      have hc_119 : σ_114 224 = q_rn G 2 2 (fun j => some (243 + 18 * j)) := (hf_102 224 (by decide)).trans hv4
      have hc_120 : σ_114 225 = q_bn G 2 kp := (hf_102 225 (by decide)).trans hv5
      have hc_121 : σ_114 280 = q_an G 265 g := (hf_102 280 (by decide)).trans hv7
      have hc_122 : σ_114 281 = q_an G 265 wk := (hf_102 281 (by decide)).trans hv8
      have hc_123 : σ_114 282 = q_an G 265 as := (hf_102 282 (by decide)).trans hv9
      have hc_124 : σ_114 283 = q_an G 530 sh := (hf_102 283 (by decide)).trans hv10
      have hc_125 : σ_114 284 = q_an G 2120 a := (hf_102 284 (by decide)).trans hv11
      have hc_126 : σ_114 285 = q_bn G 1681 fb := (hf_102 285 (by decide)).trans hv12
      have hc_127 : σ_114 286 = q_an G 1681 nv := (hf_102 286 (by decide)).trans hv13
      have hc_128 : σ_114 287 = q_an G 1681 ns := (hf_102 287 (by decide)).trans hv14
      have hc_129 : σ_114 288 = q_an G 2000 mk := (hf_102 288 (by decide)).trans hv15
      have hc_130 : σ_114 289 = q_an G 6724 va := (hf_102 289 (by decide)).trans hv16
      have hc_131 : σ_114 290 = q_an G 6724 sp := (hf_102 290 (by decide)).trans hv17
      have hc_132 : σ_114 291 = q_an G 80 lp := (hf_102 291 (by decide)).trans hv18
      have hc_133 : σ_114 292 = q_an G 600 f := (hf_102 292 (by decide)).trans hv19
      have hc_134 : σ_114 293 = q_an G 300 ou := (hf_102 293 (by decide)).trans hv20
      have hc_135 : σ_114 294 = q_ln G 1 oL := (hf_102 294 (by decide)).trans hv21
      have hc_136 : σ_114 295 = q_dn G 1 oD := (hf_102 295 (by decide)).trans hv22
      refine A_istore hg dL_law_1235 (by decide) (q_c1d rfl) ?_
      refine A_eq (ls2 := [some (.ref bS), some (.ref (q_h G + 0)), some (.ref (q_h G + 279)), some (.ref (q_h G + 294)), some (.ref (q_h G + 295)), some (.int (nI (i))), some (.int (nI (1))), some (.int (nI (0))), none]) (st2 := []) (pc2 := 0) rfl rfl ?_
      refine A_aload_n hg dL_law_1237 rfl rfl ?_
      refine A_eV (kc2 := kc + 3) (ks2 := ks + 18) (As := []) (rest := []) hg lk_RL_170 in_X11_thrown se_X11_thrown rfl dL_law_1238 ⟨by decide, by decide⟩ rfl rfl (hfK 3 18 (by decide) (by decide)) hc_101 (by omega) rfl rfl (Nat.le_of_ble_eq_true rfl) (c_X11_thrown G false 296 σ_114 (upd F 7 (nI (1))) hc_101 (by omega)) ?_
      refine A_top (w := .int (nI (1))) (congrArg Value.int rfl) ?_
      refine A_iload hg dL_law_1241 rfl ?_
      refine A_icmp_eqN (tgt := 1248) hg dL_law_1243 (by decide) (by decide) (by decide) (fun c1243 => ?_) (fun c1243 => False.elim (by omega))
      refine A_iload hg dL_law_1248 rfl ?_
      refine A_if_neN (tgt := 1265) hg dL_law_1250 (by decide) (by decide) (fun c1250 => ?_) (fun c1250 => absurd c1250 (by decide))
      refine A_goto (tgt := 3062) hg dL_law_1265 (by decide) ?_
      refine A_drop 6 ?_
      refine A_drop 7 ?_
      refine A_eq (ls2 := [some (.ref bS), some (.ref (q_h G + 0)), some (.ref (q_h G + 279)), some (.ref (q_h G + 294)), some (.ref (q_h G + 295)), some (.int (nI (i))), none, none, none]) (st2 := []) (pc2 := 0) rfl rfl ?_
      refine A_wide (kc2 := kc + 8) (ks2 := ks + 48) (by omega) (by omega) ?_
      exact hnxt _ (iv_mk il z2 z3 f lo o g nx m ps kp sn (upd F 7 (nI (1))) wk as sh a fb nv ns mk va sp lp mc z ss ou oL oD hc_115 hc_116 hc_117 hc_118 hc_119 hc_120 hc_101 hc_121 hc_122 hc_123 hc_124 hc_125 hc_126 hc_127 hc_128 hc_129 hc_130 hc_131 hc_132 hc_133 hc_134 hc_135 hc_136 (x_lj_e (fun i _ _ => (hf_102 i (by omega))) hL) (x_gm_e (fun i _ _ => (hf_102 i (by omega))) hG) (x_mx_e (fun i _ _ => (hf_102 i (by omega))) hM) (x_hi_e (fun i _ _ => (hf_102 i (by omega))) hHi) (x_oj_e (fun i _ _ => (hf_102 i (by omega))) hO) (x_pj_e (fun i _ _ => (hf_102 i (by omega))) hT) (iv_hn (fun i _ _ => (hf_102 i (by omega))) hH) (iv_Sn (fun i _ _ => (hf_102 i (by omega))) hSn) (iv_Kp (fun i _ _ => (hf_102 i (by omega))) hKp) (by omega) hfb (by omega) hou hgd hps hk1 hkss hss hsn hF5 hF6 hF12 hF16 hF21 hF22 hF23 hF33 (by omega) hmk hTI hlo)
    · skip
      refine (?_ : AJ G K Q (kc + 3) (ks + 18) false 296 1235 [some (.ref bS), some (.ref (q_h G + 0)), some (.ref (q_h G + 279)), some (.ref (q_h G + 294)), some (.ref (q_h G + 295)), some (.int (nI (i))), some (.int (nI (1))), none, none] [.int (nI (0))] σ_114)
      have hc_103 : σ_114 279 = o11 G (upd F 7 (nI (2))) := hc_103
      have hc_137 : σ_114 0 = o10 G (nI (il)) (z2) (z3) := (hf_104 0 (by decide)).trans hv0
      have hc_138 : σ_114 1 = q_an G 600 f := (hf_104 1 (by decide)).trans hv1
      have hc_139 : σ_114 23 = o5 G (23) (nI (lo)) := (hf_104 23 (by decide)).trans hv2
      have hc_140 : σ_114 24 = q_an G 256 o := (hf_104 24 (by decide)).trans hv3
      have hc_141 : σ_114 224 = q_rn G 2 2 (fun j => some (243 + 18 * j)) := (hf_104 224 (by decide)).trans hv4
      have hc_142 : σ_114 225 = q_bn G 2 kp := (hf_104 225 (by decide)).trans hv5
      have hc_143 : σ_114 280 = q_an G 265 g := (hf_104 280 (by decide)).trans hv7
      have hc_144 : σ_114 281 = q_an G 265 wk := (hf_104 281 (by decide)).trans hv8
      have hc_145 : σ_114 282 = q_an G 265 as := (hf_104 282 (by decide)).trans hv9
      have hc_146 : σ_114 283 = q_an G 530 sh := (hf_104 283 (by decide)).trans hv10
      have hc_147 : σ_114 284 = q_an G 2120 a := (hf_104 284 (by decide)).trans hv11
      have hc_148 : σ_114 285 = q_bn G 1681 fb := (hf_104 285 (by decide)).trans hv12
      have hc_149 : σ_114 286 = q_an G 1681 nv := (hf_104 286 (by decide)).trans hv13
      have hc_150 : σ_114 287 = q_an G 1681 ns := (hf_104 287 (by decide)).trans hv14
      have hc_151 : σ_114 288 = q_an G 2000 mk := (hf_104 288 (by decide)).trans hv15
      have hc_152 : σ_114 289 = q_an G 6724 va := (hf_104 289 (by decide)).trans hv16
      have hc_153 : σ_114 290 = q_an G 6724 sp := (hf_104 290 (by decide)).trans hv17
      have hc_154 : σ_114 291 = q_an G 80 lp := (hf_104 291 (by decide)).trans hv18
      have hc_155 : σ_114 292 = q_an G 600 f := (hf_104 292 (by decide)).trans hv19
      have hc_156 : σ_114 293 = q_an G 300 ou := (hf_104 293 (by decide)).trans hv20
      have hc_157 : σ_114 294 = q_ln G 1 oL := (hf_104 294 (by decide)).trans hv21
      have hc_158 : σ_114 295 = q_dn G 1 oD := (hf_104 295 (by decide)).trans hv22
      exact (Chxx r1M (by omega) Mhre).elim
    · skip
      refine (?_ : AJ G K Q (kc + 3) (ks + 18) false 296 1235 [some (.ref bS), some (.ref (q_h G + 0)), some (.ref (q_h G + 279)), some (.ref (q_h G + 294)), some (.ref (q_h G + 295)), some (.int (nI (i))), some (.int (nI (1))), none, none] [.int (nI (s_S (s_rule g r1M) (41 * a1M + b1M)))] σ_114)
      have hc_105 : σ_114 279 = o11 G (upd (upd (upd F 7 (nI (0))) 12 (nI (mcqM))) 16 (nI (zqM))) := hc_105
      have hc_159 : σ_114 0 = o10 G (nI (il)) (z2) (z3) := (hf_113 0 (by decide)).trans hv0
      have hc_160 : σ_114 1 = q_an G 600 f := (hf_113 1 (by decide)).trans hv1
      have hc_161 : σ_114 23 = o5 G (23) (nI (lo)) := (hf_113 23 (by decide)).trans hv2
      have hc_162 : σ_114 24 = q_an G 256 o := (hf_113 24 (by decide)).trans hv3
      have hc_163 : σ_114 224 = q_rn G 2 2 (fun j => some (243 + 18 * j)) := (hf_113 224 (by decide)).trans hv4
      have hc_164 : σ_114 225 = q_bn G 2 kp := (hf_113 225 (by decide)).trans hv5
      have hc_165 : σ_114 280 = q_an G 265 g := (hf_113 280 (by decide)).trans hv7
      have hc_166 : σ_114 281 = q_an G 265 wk := (hf_113 281 (by decide)).trans hv8
      have hc_167 : σ_114 282 = q_an G 265 as := (hf_113 282 (by decide)).trans hv9
      have hc_168 : σ_114 283 = q_an G 530 sh := (hf_113 283 (by decide)).trans hv10
      have hc_169 : σ_114 284 = q_an G 2120 a := (hf_113 284 (by decide)).trans hv11
      have hc_170 : σ_114 292 = q_an G 600 f := (hf_113 292 (by decide)).trans hv19
      have hc_171 : σ_114 293 = q_an G 300 ou := (hf_113 293 (by decide)).trans hv20
      have hc_172 : σ_114 294 = q_ln G 1 oL := (hf_113 294 (by decide)).trans hv21
      have hc_173 : σ_114 295 = q_dn G 1 oD := (hf_113 295 (by decide)).trans hv22
      exact (Chxx r1M (by omega) Mhre).elim
  · skip
    rw [he_5]
    refine (?_ : AJ G K Q (kc + 3) (ks + 18) false 296 1211 [some (.ref bS), some (.ref (q_h G + 0)), some (.ref (q_h G + 279)), some (.ref (q_h G + 294)), some (.ref (q_h G + 295)), some (.int (nI (i))), none, none, none] [.int (nI (2))] σ)
    obtain ⟨r1C, Chx0, Chx1, Chx2⟩ := Chxx
    refine A_istore hg dL_law_1211 (by decide) (q_c1d rfl) ?_
    refine A_eq (ls2 := [some (.ref bS), some (.ref (q_h G + 0)), some (.ref (q_h G + 279)), some (.ref (q_h G + 294)), some (.ref (q_h G + 295)), some (.int (nI (i))), some (.int (nI (2))), none, none]) (st2 := []) (pc2 := 0) rfl rfl ?_
    refine A_aload_n hg dL_law_1213 rfl rfl ?_
    refine A_aload_n hg dL_law_1214 rfl rfl ?_
    refine A_iload hg dL_law_1215 rfl ?_
    refine A_iconst (v := (nI (1))) hg dL_law_1217 (by decide) ?_
    refine A_iaddN hg dL_law_1218 ?_
    refine A_sld hg hX (i + 1) (by omega) dL_law_1219 ?_
    refine A_aload_n hg dL_law_1220 rfl rfl ?_
    refine A_iload hg dL_law_1221 rfl ?_
    refine A_iconst (v := (nI (2))) hg dL_law_1223 (by decide) ?_
    refine A_iaddN hg dL_law_1224 ?_
    refine A_sld hg hX (i + 2) (by omega) dL_law_1225 ?_
    refine A_aload_n hg dL_law_1226 rfl rfl ?_
    refine A_iload hg dL_law_1227 rfl ?_
    refine A_iconst (v := (nI (3))) hg dL_law_1229 (by decide) ?_
    refine A_iaddN hg dL_law_1230 ?_
    refine A_sld hg hX (i + 3) (by omega) dL_law_1231 ?_
    refine A_hV (kc2 := kc + 3) (ks2 := ks + 18) (As := [.int (xs (i + 1)), .int (xs (i + 2)), .int (xs (i + 3))]) (rest := []) hg lk_RL_208 in_X11_span se_X11_span rfl dL_law_1232 ⟨by decide, by decide⟩ rfl rfl (hfK 3 18 (by decide) (by decide)) hv6 (by omega) rfl rfl (Nat.le_of_ble_eq_true rfl) (c_X11_span G false 296 σ F g fb nv ns mk va sp lp mc z (xs (i + 1)) (xs (i + 2)) (xs (i + 3)) hv6 hv7 hv12 hv13 hv14 hv15 hv16 hv17 hv18 (by omega) hg9 (by omega) hF12 hF16 hmk hTI hlo) ?_
    rintro _ σ_187 (⟨rfl, Mhno, hc_174, hf_175⟩ | ⟨r1M, rfl, Mhre, Mhrl, Mhnp, hc_176, hf_177⟩ | ⟨r1M, a1M, b1M, fqM, nvqM, nsqM, mkqM, vaqM, spqM, loqM, mcqM, zqM, rfl, Mhre, Mhrl, Mhke, Mhle, Mhkl, Mhll, MhTI, Mhmc, Mhmk, Mhlo, hc_178, hc_179, hc_180, hc_181, hc_182, hc_183, hc_184, hc_185, hf_186⟩)
    · skip
      refine (?_ : AJ G K Q (kc + 3) (ks + 18) false 296 1235 [some (.ref bS), some (.ref (q_h G + 0)), some (.ref (q_h G + 279)), some (.ref (q_h G + 294)), some (.ref (q_h G + 295)), some (.int (nI (i))), some (.int (nI (2))), none, none] [.int (nI (0))] σ_187)
      have hc_174 : σ_187 279 = o11 G (upd F 7 (nI (1))) := hc_174
      have hc_188 : σ_187 0 = o10 G (nI (il)) (z2) (z3) := (hf_175 0 (by decide)).trans hv0
      have hc_189 : σ_187 1 = q_an G 600 f := (hf_175 1 (by decide)).trans hv1
      have hc_190 : σ_187 23 = o5 G (23) (nI (lo)) := (hf_175 23 (by decide)).trans hv2
      have hc_191 : σ_187 24 = q_an G 256 o := (hf_175 24 (by decide)).trans hv3
      have hc_192 : σ_187 224 = q_rn G 2 2 (fun j => some (243 + 18 * j)) := (hf_175 224 (by decide)).trans hv4
      have hc_193 : σ_187 225 = q_bn G 2 kp := (hf_175 225 (by decide)).trans hv5
      have hc_194 : σ_187 280 = q_an G 265 g := (hf_175 280 (by decide)).trans hv7
      have hc_195 : σ_187 281 = q_an G 265 wk := (hf_175 281 (by decide)).trans hv8
      have hc_196 : σ_187 282 = q_an G 265 as := (hf_175 282 (by decide)).trans hv9
      have hc_197 : σ_187 283 = q_an G 530 sh := (hf_175 283 (by decide)).trans hv10
      have hc_198 : σ_187 284 = q_an G 2120 a := (hf_175 284 (by decide)).trans hv11
      have hc_199 : σ_187 285 = q_bn G 1681 fb := (hf_175 285 (by decide)).trans hv12
      have hc_200 : σ_187 286 = q_an G 1681 nv := (hf_175 286 (by decide)).trans hv13
      have hc_201 : σ_187 287 = q_an G 1681 ns := (hf_175 287 (by decide)).trans hv14
      have hc_202 : σ_187 288 = q_an G 2000 mk := (hf_175 288 (by decide)).trans hv15
      have hc_203 : σ_187 289 = q_an G 6724 va := (hf_175 289 (by decide)).trans hv16
      have hc_204 : σ_187 290 = q_an G 6724 sp := (hf_175 290 (by decide)).trans hv17
      have hc_205 : σ_187 291 = q_an G 80 lp := (hf_175 291 (by decide)).trans hv18
      have hc_206 : σ_187 292 = q_an G 600 f := (hf_175 292 (by decide)).trans hv19
      have hc_207 : σ_187 293 = q_an G 300 ou := (hf_175 293 (by decide)).trans hv20
      have hc_208 : σ_187 294 = q_ln G 1 oL := (hf_175 294 (by decide)).trans hv21
      have hc_209 : σ_187 295 = q_dn G 1 oD := (hf_175 295 (by decide)).trans hv22
      exact (Mhno r1C (by omega) Chx0).elim
    · skip
      refine (?_ : AJ G K Q (kc + 3) (ks + 18) false 296 1235 [some (.ref bS), some (.ref (q_h G + 0)), some (.ref (q_h G + 279)), some (.ref (q_h G + 294)), some (.ref (q_h G + 295)), some (.int (nI (i))), some (.int (nI (2))), none, none] [.int (nI (0))] σ_187)
      have hc_176 : σ_187 279 = o11 G (upd F 7 (nI (2))) := hc_176
      have hc_210 : σ_187 0 = o10 G (nI (il)) (z2) (z3) := (hf_177 0 (by decide)).trans hv0
      have hc_211 : σ_187 1 = q_an G 600 f := (hf_177 1 (by decide)).trans hv1
      have hc_212 : σ_187 23 = o5 G (23) (nI (lo)) := (hf_177 23 (by decide)).trans hv2
      have hc_213 : σ_187 24 = q_an G 256 o := (hf_177 24 (by decide)).trans hv3
      have hc_214 : σ_187 224 = q_rn G 2 2 (fun j => some (243 + 18 * j)) := (hf_177 224 (by decide)).trans hv4
      have hc_215 : σ_187 225 = q_bn G 2 kp := (hf_177 225 (by decide)).trans hv5
      have hc_216 : σ_187 280 = q_an G 265 g := (hf_177 280 (by decide)).trans hv7
      have hc_217 : σ_187 281 = q_an G 265 wk := (hf_177 281 (by decide)).trans hv8
      have hc_218 : σ_187 282 = q_an G 265 as := (hf_177 282 (by decide)).trans hv9
      have hc_219 : σ_187 283 = q_an G 530 sh := (hf_177 283 (by decide)).trans hv10
      have hc_220 : σ_187 284 = q_an G 2120 a := (hf_177 284 (by decide)).trans hv11
      have hc_221 : σ_187 285 = q_bn G 1681 fb := (hf_177 285 (by decide)).trans hv12
      have hc_222 : σ_187 286 = q_an G 1681 nv := (hf_177 286 (by decide)).trans hv13
      have hc_223 : σ_187 287 = q_an G 1681 ns := (hf_177 287 (by decide)).trans hv14
      have hc_224 : σ_187 288 = q_an G 2000 mk := (hf_177 288 (by decide)).trans hv15
      have hc_225 : σ_187 289 = q_an G 6724 va := (hf_177 289 (by decide)).trans hv16
      have hc_226 : σ_187 290 = q_an G 6724 sp := (hf_177 290 (by decide)).trans hv17
      have hc_227 : σ_187 291 = q_an G 80 lp := (hf_177 291 (by decide)).trans hv18
      have hc_228 : σ_187 292 = q_an G 600 f := (hf_177 292 (by decide)).trans hv19
      have hc_229 : σ_187 293 = q_an G 300 ou := (hf_177 293 (by decide)).trans hv20
      have hc_230 : σ_187 294 = q_ln G 1 oL := (hf_177 294 (by decide)).trans hv21
      have hc_231 : σ_187 295 = q_dn G 1 oD := (hf_177 295 (by decide)).trans hv22
      have e_r : r1C = r1M := q_nI_inj (by omega) (by omega) (Chx0.symm.trans Mhre)
      subst e_r
      refine A_istore hg dL_law_1235 (by decide) (q_c1d rfl) ?_
      refine A_eq (ls2 := [some (.ref bS), some (.ref (q_h G + 0)), some (.ref (q_h G + 279)), some (.ref (q_h G + 294)), some (.ref (q_h G + 295)), some (.int (nI (i))), some (.int (nI (2))), some (.int (nI (0))), none]) (st2 := []) (pc2 := 0) rfl rfl ?_
      refine A_aload_n hg dL_law_1237 rfl rfl ?_
      refine A_eV (kc2 := kc + 3) (ks2 := ks + 18) (As := []) (rest := []) hg lk_RL_170 in_X11_thrown se_X11_thrown rfl dL_law_1238 ⟨by decide, by decide⟩ rfl rfl (hfK 3 18 (by decide) (by decide)) hc_176 (by omega) rfl rfl (Nat.le_of_ble_eq_true rfl) (c_X11_thrown G false 296 σ_187 (upd F 7 (nI (2))) hc_176 (by omega)) ?_
      refine A_top (w := .int (nI (2))) (congrArg Value.int rfl) ?_
      refine A_iload hg dL_law_1241 rfl ?_
      refine A_icmp_eqN (tgt := 1248) hg dL_law_1243 (by decide) (by decide) (by decide) (fun c1243 => ?_) (fun c1243 => False.elim (by omega))
      refine A_iload hg dL_law_1248 rfl ?_
      refine A_if_neN (tgt := 1265) hg dL_law_1250 (by decide) (by decide) (fun c1250 => ?_) (fun c1250 => absurd c1250 (by decide))
      refine A_goto (tgt := 3062) hg dL_law_1265 (by decide) ?_
      refine A_drop 6 ?_
      refine A_drop 7 ?_
      refine A_eq (ls2 := [some (.ref bS), some (.ref (q_h G + 0)), some (.ref (q_h G + 279)), some (.ref (q_h G + 294)), some (.ref (q_h G + 295)), some (.int (nI (i))), none, none, none]) (st2 := []) (pc2 := 0) rfl rfl ?_
      refine A_wide (kc2 := kc + 8) (ks2 := ks + 48) (by omega) (by omega) ?_
      exact hnxt _ (iv_mk il z2 z3 f lo o g nx m ps kp sn (upd F 7 (nI (2))) wk as sh a fb nv ns mk va sp lp mc z ss ou oL oD hc_210 hc_211 hc_212 hc_213 hc_214 hc_215 hc_176 hc_216 hc_217 hc_218 hc_219 hc_220 hc_221 hc_222 hc_223 hc_224 hc_225 hc_226 hc_227 hc_228 hc_229 hc_230 hc_231 (x_lj_e (fun i _ _ => (hf_177 i (by omega))) hL) (x_gm_e (fun i _ _ => (hf_177 i (by omega))) hG) (x_mx_e (fun i _ _ => (hf_177 i (by omega))) hM) (x_hi_e (fun i _ _ => (hf_177 i (by omega))) hHi) (x_oj_e (fun i _ _ => (hf_177 i (by omega))) hO) (x_pj_e (fun i _ _ => (hf_177 i (by omega))) hT) (iv_hn (fun i _ _ => (hf_177 i (by omega))) hH) (iv_Sn (fun i _ _ => (hf_177 i (by omega))) hSn) (iv_Kp (fun i _ _ => (hf_177 i (by omega))) hKp) (by omega) hfb (by omega) hou hgd hps hk1 hkss hss hsn hF5 hF6 hF12 hF16 hF21 hF22 hF23 hF33 (by omega) hmk hTI hlo)
    · skip
      refine (?_ : AJ G K Q (kc + 3) (ks + 18) false 296 1235 [some (.ref bS), some (.ref (q_h G + 0)), some (.ref (q_h G + 279)), some (.ref (q_h G + 294)), some (.ref (q_h G + 295)), some (.int (nI (i))), some (.int (nI (2))), none, none] [.int (nI (s_S (s_rule g r1M) (41 * a1M + b1M)))] σ_187)
      have hc_178 : σ_187 279 = o11 G (upd (upd (upd F 7 (nI (0))) 12 (nI (mcqM))) 16 (nI (zqM))) := hc_178
      have hc_232 : σ_187 0 = o10 G (nI (il)) (z2) (z3) := (hf_186 0 (by decide)).trans hv0
      have hc_233 : σ_187 1 = q_an G 600 f := (hf_186 1 (by decide)).trans hv1
      have hc_234 : σ_187 23 = o5 G (23) (nI (lo)) := (hf_186 23 (by decide)).trans hv2
      have hc_235 : σ_187 24 = q_an G 256 o := (hf_186 24 (by decide)).trans hv3
      have hc_236 : σ_187 224 = q_rn G 2 2 (fun j => some (243 + 18 * j)) := (hf_186 224 (by decide)).trans hv4
      have hc_237 : σ_187 225 = q_bn G 2 kp := (hf_186 225 (by decide)).trans hv5
      have hc_238 : σ_187 280 = q_an G 265 g := (hf_186 280 (by decide)).trans hv7
      have hc_239 : σ_187 281 = q_an G 265 wk := (hf_186 281 (by decide)).trans hv8
      have hc_240 : σ_187 282 = q_an G 265 as := (hf_186 282 (by decide)).trans hv9
      have hc_241 : σ_187 283 = q_an G 530 sh := (hf_186 283 (by decide)).trans hv10
      have hc_242 : σ_187 284 = q_an G 2120 a := (hf_186 284 (by decide)).trans hv11
      have hc_243 : σ_187 292 = q_an G 600 f := (hf_186 292 (by decide)).trans hv19
      have hc_244 : σ_187 293 = q_an G 300 ou := (hf_186 293 (by decide)).trans hv20
      have hc_245 : σ_187 294 = q_ln G 1 oL := (hf_186 294 (by decide)).trans hv21
      have hc_246 : σ_187 295 = q_dn G 1 oD := (hf_186 295 (by decide)).trans hv22
      have e_r : r1C = r1M := q_nI_inj (by omega) (by omega) (Chx0.symm.trans Mhre)
      subst e_r
      exact (Chx2 a1M b1M (by omega) (by omega) Mhke Mhle).elim
set_option maxRecDepth 100000 in
set_option maxHeartbeats 4000000 in
theorem law_c17 (G : GL) (K : KC) (Q : State → Prop) (hh : List (Nat × Nat × Nat × Nat)) (hg : Gd G K RL code 9 ret room_1 hh) (bS L : Nat) (xs : Nat → Int32) (hX : q_scr G K bS L xs) (i kc ks J : Nat) (hi : i + 5 < L) (hL31 : L < 2 ^ 31) (hkc : kc + 8 ≤ 601024) (hks : ks + 48 ≤ 7293034) (σ : Nat → va_E) (hI : iv G σ J) (hJ : J < 512) (hfd : q_fdn) (hdd : q_ddn) (hf2 : q_f2n) (hds : q_dcs) (hnxt : ∀ σ9 : Nat → va_E, iv G σ9 (J + 1) → AJ G K Q (kc + 8) (ks + 48) false 296 3062 [some (.ref bS), some (.ref (q_h G + 0)), some (.ref (q_h G + 279)), some (.ref (q_h G + 294)), some (.ref (q_h G + 295)), some (.int (nI (i))), none, none, none] [] σ9) : AJ G K Q kc ks false 296 1268 [some (.ref bS), some (.ref (q_h G + 0)), some (.ref (q_h G + 279)), some (.ref (q_h G + 294)), some (.ref (q_h G + 295)), some (.int (nI (i))), none, none, none] [] σ := by
  refine iv_el hI ?_
  intro il z2 z3 f lo o g nx m ps kp sn F wk as sh a fb nv ns mk va sp lp mc z ss ou oL oD
  intro hv0 hv1 hv2 hv3 hv4 hv5 hv6 hv7 hv8 hv9 hv10 hv11 hv12 hv13 hv14 hv15 hv16 hv17 hv18 hv19 hv20 hv21 hv22
  intro hL hG hM hHi hO hT hH hSn hKp
  intro hil hfb hlo2 hou hgd hps hk1 hkss hss hsn hF5 hF6 hF12 hF16 hF21 hF22 hF23 hF33 hmc hmk hTI hlo
  have hfK : ∀ a b : Nat, a ≤ 8 → b ≤ 48 → kc + a ≤ room_1.cells ∧ ks + b ≤ room_1.slots := fun a b h1 h2 => ⟨by show kc + a ≤ 601024; omega, by show ks + b ≤ 7293034; omega⟩
  have hg9 := iv_g hG
  obtain ⟨hnx8, hm8, hc78⟩ := iv_hi hHi
  have hbb := iv_byte (m := il) hfb
  have hg90 := hg9.1
  have hg96 := hg9.2.2.2.2.1
  have hnp8 := s_np_le hg9
  refine A_aload_n hg dL_law_1268 rfl rfl ?_
  refine A_aload_n hg dL_law_1269 rfl rfl ?_
  refine A_iload hg dL_law_1270 rfl ?_
  refine A_iconst (v := (nI (1))) hg dL_law_1272 (by decide) ?_
  refine A_iaddN hg dL_law_1273 ?_
  refine A_sld hg hX (i + 1) (by omega) dL_law_1274 ?_
  refine A_aload_n hg dL_law_1275 rfl rfl ?_
  refine A_iload hg dL_law_1276 rfl ?_
  refine A_iconst (v := (nI (2))) hg dL_law_1278 (by decide) ?_
  refine A_iaddN hg dL_law_1279 ?_
  refine A_sld hg hX (i + 2) (by omega) dL_law_1280 ?_
  refine A_aload_n hg dL_law_1281 rfl rfl ?_
  refine A_iload hg dL_law_1282 rfl ?_
  refine A_iconst (v := (nI (3))) hg dL_law_1284 (by decide) ?_
  refine A_iaddN hg dL_law_1285 ?_
  refine A_sld hg hX (i + 3) (by omega) dL_law_1286 ?_
  refine A_if_eq (tgt := 1294) hg dL_law_1287 (by decide) (fun c1287 => ?_) (fun c1287 => ?_)
  · skip
    refine A_iconst (v := (nI (0))) hg dL_law_1294 (by decide) ?_
    refine A_aload_n hg dL_law_1295 rfl rfl ?_
    refine A_callSH (As := [.ref (q_h G + 0), .int (xs (i + 1)), .int (xs (i + 2)), .int (nI (0)), .ref (q_h G + 294)]) (rest := []) hg lkH_209 stH_L_losing dL_law_1296 ⟨by decide, by decide⟩ (hfK 1 6 (by decide) (by decide)) rfl rfl (Nat.le_of_ble_eq_true rfl) (c_L_losing G 296 σ (nI (il)) z2 z3 g (xs (i + 1)) (xs (i + 2)) false oL hv0 hv21 (by omega) hG hM (by omega)) ?_
    rintro _ σ_1 (⟨r1C, i1C, rfl, Chre, Chrl, Chie, Chil, ChM2, hc_2, hf_3⟩ | ⟨r1C, rfl, Chre, Chrl, Chni, ChM2, hc_4, hf_5⟩ | ⟨rfl, Chxx, he_6⟩)
    · skip
      refine (?_ : AJ G K Q (kc + 1) (ks + 6) false 296 1299 [some (.ref bS), some (.ref (q_h G + 0)), some (.ref (q_h G + 279)), some (.ref (q_h G + 294)), some (.ref (q_h G + 295)), some (.int (nI (i))), none, none, none] [.int (nI (0))] σ_1)
      have hc_7 : σ_1 0 = o10 G (nI (il)) (z2) (z3) := (hf_3 0 (by decide)).trans hv0
      have hc_8 : σ_1 1 = q_an G 600 f := (hf_3 1 (by decide)).trans hv1
      have hc_9 : σ_1 23 = o5 G (23) (nI (lo)) := (hf_3 23 (by decide)).trans hv2
      have hc_10 : σ_1 24 = q_an G 256 o := (hf_3 24 (by decide)).trans hv3
      have hc_11 : σ_1 224 = q_rn G 2 2 (fun j => some (243 + 18 * j)) := (hf_3 224 (by decide)).trans hv4
      have hc_12 : σ_1 225 = q_bn G 2 kp := (hf_3 225 (by decide)).trans hv5
      have hc_13 : σ_1 279 = o11 G F := (hf_3 279 (by decide)).trans hv6
      have hc_14 : σ_1 280 = q_an G 265 g := (hf_3 280 (by decide)).trans hv7
      have hc_15 : σ_1 281 = q_an G 265 wk := (hf_3 281 (by decide)).trans hv8
      have hc_16 : σ_1 282 = q_an G 265 as := (hf_3 282 (by decide)).trans hv9
      have hc_17 : σ_1 283 = q_an G 530 sh := (hf_3 283 (by decide)).trans hv10
      have hc_18 : σ_1 284 = q_an G 2120 a := (hf_3 284 (by decide)).trans hv11
      have hc_19 : σ_1 285 = q_bn G 1681 fb := (hf_3 285 (by decide)).trans hv12
      have hc_20 : σ_1 286 = q_an G 1681 nv := (hf_3 286 (by decide)).trans hv13
      have hc_21 : σ_1 287 = q_an G 1681 ns := (hf_3 287 (by decide)).trans hv14
      have hc_22 : σ_1 288 = q_an G 2000 mk := (hf_3 288 (by decide)).trans hv15
      have hc_23 : σ_1 289 = q_an G 6724 va := (hf_3 289 (by decide)).trans hv16
      have hc_24 : σ_1 290 = q_an G 6724 sp := (hf_3 290 (by decide)).trans hv17
      have hc_25 : σ_1 291 = q_an G 80 lp := (hf_3 291 (by decide)).trans hv18
      have hc_26 : σ_1 292 = q_an G 600 f := (hf_3 292 (by decide)).trans hv19
      have hc_27 : σ_1 293 = q_an G 300 ou := (hf_3 293 (by decide)).trans hv20
      have hc_28 : σ_1 295 = q_dn G 1 oD := (hf_3 295 (by decide)).trans hv22
      refine A_istore hg dL_law_1299 (by decide) (q_c1d rfl) ?_
      refine A_eq (ls2 := [some (.ref bS), some (.ref (q_h G + 0)), some (.ref (q_h G + 279)), some (.ref (q_h G + 294)), some (.ref (q_h G + 295)), some (.int (nI (i))), some (.int (nI (0))), none, none]) (st2 := []) (pc2 := 0) rfl rfl ?_
      refine A_aload_n hg dL_law_1301 rfl rfl ?_
      refine A_aload_n hg dL_law_1302 rfl rfl ?_
      refine A_iload hg dL_law_1303 rfl ?_
      refine A_iconst (v := (nI (1))) hg dL_law_1305 (by decide) ?_
      refine A_iaddN hg dL_law_1306 ?_
      refine A_sld hg hX (i + 1) (by omega) dL_law_1307 ?_
      refine A_aload_n hg dL_law_1308 rfl rfl ?_
      refine A_iload hg dL_law_1309 rfl ?_
      refine A_iconst (v := (nI (2))) hg dL_law_1311 (by decide) ?_
      refine A_iaddN hg dL_law_1312 ?_
      refine A_sld hg hX (i + 2) (by omega) dL_law_1313 ?_
      refine A_aload_n hg dL_law_1314 rfl rfl ?_
      refine A_iload hg dL_law_1315 rfl ?_
      refine A_iconst (v := (nI (3))) hg dL_law_1317 (by decide) ?_
      refine A_iaddN hg dL_law_1318 ?_
      refine A_sld hg hX (i + 3) (by omega) dL_law_1319 ?_
      refine A_if_eq (tgt := 1327) hg dL_law_1320 (by decide) (fun _ => ?_) (fun z9 => absurd c1287 z9)
      refine A_iconst (v := (nI (0))) hg dL_law_1327 (by decide) ?_
      refine A_hV (kc2 := kc + 1) (ks2 := ks + 6) (As := [.int (xs (i + 1)), .int (xs (i + 2)), .int (nI (0))]) (rest := []) hg lk_RL_211 in_X11_losing se_X11_losing rfl dL_law_1328 ⟨by decide, by decide⟩ rfl rfl (hfK 1 6 (by decide) (by decide)) hc_13 (by omega) rfl rfl (Nat.le_of_ble_eq_true rfl) (c_X11_losing G false 296 σ_1 F g fb nv ns mk va sp lp mc z (xs (i + 1)) (xs (i + 2)) false hc_13 hc_14 hc_19 hc_20 hc_21 hc_22 hc_23 hc_24 hc_25 (by omega) hg9 (by omega) hF12 hF16 hmk hTI hlo) ?_
      rintro _ σ_49 (⟨rfl, Mhno, hc_29, hf_30⟩ | ⟨r1M, i1M, fqM, nvqM, nsqM, mkqM, vaqM, spqM, loqM, mcqM, zqM, rfl, Mhre, Mhrl, Mhie, Mhil, MhTI, Mhmc, Mhmk, Mhlo, hc_31, hc_32, hc_33, hc_34, hc_35, hc_36, hc_37, hc_38, hf_39⟩ | ⟨r1M, fqM, nvqM, nsqM, mkqM, vaqM, spqM, loqM, mcqM, zqM, rfl, Mhre, Mhrl, Mhni, MhTI, Mhmc, Mhmk, Mhlo, hc_40, hc_41, hc_42, hc_43, hc_44, hc_45, hc_46, hc_47, hf_48⟩)
      · skip
        refine (?_ : AJ G K Q (kc + 1) (ks + 6) false 296 1331 [some (.ref bS), some (.ref (q_h G + 0)), some (.ref (q_h G + 279)), some (.ref (q_h G + 294)), some (.ref (q_h G + 295)), some (.int (nI (i))), some (.int (nI (0))), none, none] [.int (nI (0))] σ_49)
        have hc_29 : σ_49 279 = o11 G (upd F 7 (nI (1))) := hc_29
        have hc_50 : σ_49 0 = o10 G (nI (il)) (z2) (z3) := (hf_30 0 (by decide)).trans hc_7
        have hc_51 : σ_49 1 = q_an G 600 f := (hf_30 1 (by decide)).trans hc_8
        have hc_52 : σ_49 23 = o5 G (23) (nI (lo)) := (hf_30 23 (by decide)).trans hc_9
        have hc_53 : σ_49 24 = q_an G 256 o := (hf_30 24 (by decide)).trans hc_10
        have hc_54 : σ_49 224 = q_rn G 2 2 (fun j => some (243 + 18 * j)) := (hf_30 224 (by decide)).trans hc_11
        have hc_55 : σ_49 225 = q_bn G 2 kp := (hf_30 225 (by decide)).trans hc_12
        have hc_56 : σ_49 280 = q_an G 265 g := (hf_30 280 (by decide)).trans hc_14
        have hc_57 : σ_49 281 = q_an G 265 wk := (hf_30 281 (by decide)).trans hc_15
        have hc_58 : σ_49 282 = q_an G 265 as := (hf_30 282 (by decide)).trans hc_16
        have hc_59 : σ_49 283 = q_an G 530 sh := (hf_30 283 (by decide)).trans hc_17
        have hc_60 : σ_49 284 = q_an G 2120 a := (hf_30 284 (by decide)).trans hc_18
        have hc_61 : σ_49 285 = q_bn G 1681 fb := (hf_30 285 (by decide)).trans hc_19
        have hc_62 : σ_49 286 = q_an G 1681 nv := (hf_30 286 (by decide)).trans hc_20
        have hc_63 : σ_49 287 = q_an G 1681 ns := (hf_30 287 (by decide)).trans hc_21
        have hc_64 : σ_49 288 = q_an G 2000 mk := (hf_30 288 (by decide)).trans hc_22
        have hc_65 : σ_49 289 = q_an G 6724 va := (hf_30 289 (by decide)).trans hc_23
        have hc_66 : σ_49 290 = q_an G 6724 sp := (hf_30 290 (by decide)).trans hc_24
        have hc_67 : σ_49 291 = q_an G 80 lp := (hf_30 291 (by decide)).trans hc_25
        have hc_68 : σ_49 292 = q_an G 600 f := (hf_30 292 (by decide)).trans hc_26
        have hc_69 : σ_49 293 = q_an G 300 ou := (hf_30 293 (by decide)).trans hc_27
        have hc_70 : σ_49 295 = q_dn G 1 oD := (hf_30 295 (by decide)).trans hc_28
        have hc_71 : σ_49 294 = q_ln G 1 (va_up oL 0 ((nI (if false = true then s_lzn (s_rule g r1C) i1C % 41 else s_lzn (s_rule g r1C) i1C / 41)).toInt64)) := (hf_30 294 (by decide)).trans hc_2
        have hlb_i1C := s_lzc_le (s_rule g r1C) 1681
        exact (Mhno r1C (by omega) Chre).elim
      · skip
        refine (?_ : AJ G K Q (kc + 1) (ks + 6) false 296 1331 [some (.ref bS), some (.ref (q_h G + 0)), some (.ref (q_h G + 279)), some (.ref (q_h G + 294)), some (.ref (q_h G + 295)), some (.int (nI (i))), some (.int (nI (0))), none, none] [.int (nI (if false = true then s_lzn (s_rule g r1M) i1M % 41 else s_lzn (s_rule g r1M) i1M / 41))] σ_49)
        have hc_31 : σ_49 279 = o11 G (upd (upd (upd F 7 (nI (0))) 12 (nI (mcqM))) 16 (nI (zqM))) := hc_31
        have hc_72 : σ_49 0 = o10 G (nI (il)) (z2) (z3) := (hf_39 0 (by decide)).trans hc_7
        have hc_73 : σ_49 1 = q_an G 600 f := (hf_39 1 (by decide)).trans hc_8
        have hc_74 : σ_49 23 = o5 G (23) (nI (lo)) := (hf_39 23 (by decide)).trans hc_9
        have hc_75 : σ_49 24 = q_an G 256 o := (hf_39 24 (by decide)).trans hc_10
        have hc_76 : σ_49 224 = q_rn G 2 2 (fun j => some (243 + 18 * j)) := (hf_39 224 (by decide)).trans hc_11
        have hc_77 : σ_49 225 = q_bn G 2 kp := (hf_39 225 (by decide)).trans hc_12
        have hc_78 : σ_49 280 = q_an G 265 g := (hf_39 280 (by decide)).trans hc_14
        have hc_79 : σ_49 281 = q_an G 265 wk := (hf_39 281 (by decide)).trans hc_15
        have hc_80 : σ_49 282 = q_an G 265 as := (hf_39 282 (by decide)).trans hc_16
        have hc_81 : σ_49 283 = q_an G 530 sh := (hf_39 283 (by decide)).trans hc_17
        have hc_82 : σ_49 284 = q_an G 2120 a := (hf_39 284 (by decide)).trans hc_18
        have hc_83 : σ_49 292 = q_an G 600 f := (hf_39 292 (by decide)).trans hc_26
        have hc_84 : σ_49 293 = q_an G 300 ou := (hf_39 293 (by decide)).trans hc_27
        have hc_85 : σ_49 295 = q_dn G 1 oD := (hf_39 295 (by decide)).trans hc_28
        have hc_86 : σ_49 294 = q_ln G 1 (va_up oL 0 ((nI (if false = true then s_lzn (s_rule g r1C) i1C % 41 else s_lzn (s_rule g r1C) i1C / 41)).toInt64)) := (hf_39 294 (by decide)).trans hc_2
        have hlb_i1C := s_lzc_le (s_rule g r1C) 1681
        have hlb_i1M := s_lzc_le (s_rule g r1M) 1681
        have e_r : r1C = r1M := q_nI_inj (by omega) (by omega) (Chre.symm.trans Mhre)
        subst e_r
        have e_x : i1C = i1M := q_nI_inj (by omega) (by omega) (Chie.symm.trans Mhie)
        subst e_x
        refine A_istore hg dL_law_1331 (by decide) (q_c1d rfl) ?_
        refine A_eq (ls2 := [some (.ref bS), some (.ref (q_h G + 0)), some (.ref (q_h G + 279)), some (.ref (q_h G + 294)), some (.ref (q_h G + 295)), some (.int (nI (i))), some (.int (nI (0))), some (.int (nI (if false = true then s_lzn (s_rule g r1C) i1C % 41 else s_lzn (s_rule g r1C) i1C / 41))), none]) (st2 := []) (pc2 := 0) rfl rfl ?_
        refine A_aload_n hg dL_law_1333 rfl rfl ?_
        refine A_eV (kc2 := kc + 1) (ks2 := ks + 6) (As := []) (rest := []) hg lk_RL_170 in_X11_thrown se_X11_thrown rfl dL_law_1334 ⟨by decide, by decide⟩ rfl rfl (hfK 1 6 (by decide) (by decide)) hc_31 (by omega) rfl rfl (Nat.le_of_ble_eq_true rfl) (c_X11_thrown G false 296 σ_49 (upd (upd (upd F 7 (nI (0))) 12 (nI (mcqM))) 16 (nI (zqM))) hc_31 (by omega)) ?_
        refine A_top (w := .int (nI (0))) (congrArg Value.int rfl) ?_
        refine A_iload hg dL_law_1337 rfl ?_
        refine A_icmp_eqN (tgt := 1344) hg dL_law_1339 (by decide) (by decide) (by decide) (fun c1339 => ?_) (fun c1339 => False.elim (by omega))
        refine A_iload hg dL_law_1344 rfl ?_
        refine A_if_neN (tgt := 1361) hg dL_law_1346 (by decide) (by decide) (fun c1346 => absurd (by decide) c1346) (fun c1346 => ?_)
        refine A_aload_n hg dL_law_1349 rfl rfl ?_
        refine A_iconst (v := (nI (0))) hg dL_law_1350 (by decide) ?_
        refine A_lald (j := 0) hg dL_law_1351 hc_86 (by omega) (by decide) (by decide) ?_
        refine A_top (w := .long ((nI (if false = true then s_lzn (s_rule g r1C) i1C % 41 else s_lzn (s_rule g r1C) i1C / 41)).toInt64)) (congrArg Value.long iv_up0) ?_
        refine A_iload hg dL_law_1352 rfl ?_
        refine A_i2l (v := (nI (if false = true then s_lzn (s_rule g r1C) i1C % 41 else s_lzn (s_rule g r1C) i1C / 41)).toInt64) hg dL_law_1354 rfl ?_
        refine A_lcmp hg dL_law_1355 ?_
        refine A_top (w := .int (nI 0)) (congrArg Value.int (lc_self _)) ?_
        refine A_if_eqN (tgt := 1361) hg dL_law_1356 (by decide) (by decide) (fun c1356 => ?_) (fun c1356 => absurd (by decide) c1356)
        refine A_goto (tgt := 3062) hg dL_law_1361 (by decide) ?_
        refine A_drop 6 ?_
        refine A_drop 7 ?_
        refine A_eq (ls2 := [some (.ref bS), some (.ref (q_h G + 0)), some (.ref (q_h G + 279)), some (.ref (q_h G + 294)), some (.ref (q_h G + 295)), some (.int (nI (i))), none, none, none]) (st2 := []) (pc2 := 0) rfl rfl ?_
        refine A_wide (kc2 := kc + 8) (ks2 := ks + 48) (by omega) (by omega) ?_
        exact hnxt _ (iv_mk il z2 z3 f lo o g nx m ps kp sn (upd (upd (upd F 7 (nI (0))) 12 (nI (mcqM))) 16 (nI (zqM))) wk as sh a fqM nvqM nsqM mkqM vaqM spqM loqM mcqM zqM ss ou (va_up oL 0 ((nI (if false = true then s_lzn (s_rule g r1C) i1C % 41 else s_lzn (s_rule g r1C) i1C / 41)).toInt64)) oD hc_72 hc_73 hc_74 hc_75 hc_76 hc_77 hc_31 hc_78 hc_79 hc_80 hc_81 hc_82 hc_32 hc_33 hc_34 hc_35 hc_36 hc_37 hc_38 hc_83 hc_84 hc_86 hc_85 (x_lj_e (fun i _ _ => ((hf_39 i (by omega)).trans (hf_3 i (by omega)))) hL) (x_gm_e (fun i _ _ => ((hf_39 i (by omega)).trans (hf_3 i (by omega)))) hG) (x_mx_e (fun i _ _ => (hf_39 i (by omega))) ChM2) (x_hi_e (fun i _ _ => ((hf_39 i (by omega)).trans (hf_3 i (by omega)))) hHi) (x_oj_e (fun i _ _ => ((hf_39 i (by omega)).trans (hf_3 i (by omega)))) hO) (x_pj_e (fun i _ _ => ((hf_39 i (by omega)).trans (hf_3 i (by omega)))) hT) (iv_hn (fun i _ _ => ((hf_39 i (by omega)).trans (hf_3 i (by omega)))) hH) (iv_Sn (fun i _ _ => ((hf_39 i (by omega)).trans (hf_3 i (by omega)))) hSn) (iv_Kp (fun i _ _ => ((hf_39 i (by omega)).trans (hf_3 i (by omega)))) hKp) (by omega) hfb (by omega) hou hgd hps hk1 hkss hss hsn hF5 hF6 rfl rfl hF21 hF22 hF23 hF33 (by omega) Mhmk MhTI Mhlo)
      · skip
        refine (?_ : AJ G K Q (kc + 1) (ks + 6) false 296 1331 [some (.ref bS), some (.ref (q_h G + 0)), some (.ref (q_h G + 279)), some (.ref (q_h G + 294)), some (.ref (q_h G + 295)), some (.int (nI (i))), some (.int (nI (0))), none, none] [.int (q_d (0))] σ_49)
        have hc_40 : σ_49 279 = o11 G (upd (upd (upd F 7 (nI (0))) 12 (nI (mcqM))) 16 (nI (zqM))) := hc_40
        have hc_87 : σ_49 0 = o10 G (nI (il)) (z2) (z3) := (hf_48 0 (by decide)).trans hc_7
        have hc_88 : σ_49 1 = q_an G 600 f := (hf_48 1 (by decide)).trans hc_8
        have hc_89 : σ_49 23 = o5 G (23) (nI (lo)) := (hf_48 23 (by decide)).trans hc_9
        have hc_90 : σ_49 24 = q_an G 256 o := (hf_48 24 (by decide)).trans hc_10
        have hc_91 : σ_49 224 = q_rn G 2 2 (fun j => some (243 + 18 * j)) := (hf_48 224 (by decide)).trans hc_11
        have hc_92 : σ_49 225 = q_bn G 2 kp := (hf_48 225 (by decide)).trans hc_12
        have hc_93 : σ_49 280 = q_an G 265 g := (hf_48 280 (by decide)).trans hc_14
        have hc_94 : σ_49 281 = q_an G 265 wk := (hf_48 281 (by decide)).trans hc_15
        have hc_95 : σ_49 282 = q_an G 265 as := (hf_48 282 (by decide)).trans hc_16
        have hc_96 : σ_49 283 = q_an G 530 sh := (hf_48 283 (by decide)).trans hc_17
        have hc_97 : σ_49 284 = q_an G 2120 a := (hf_48 284 (by decide)).trans hc_18
        have hc_98 : σ_49 292 = q_an G 600 f := (hf_48 292 (by decide)).trans hc_26
        have hc_99 : σ_49 293 = q_an G 300 ou := (hf_48 293 (by decide)).trans hc_27
        have hc_100 : σ_49 295 = q_dn G 1 oD := (hf_48 295 (by decide)).trans hc_28
        have hc_101 : σ_49 294 = q_ln G 1 (va_up oL 0 ((nI (if false = true then s_lzn (s_rule g r1C) i1C % 41 else s_lzn (s_rule g r1C) i1C / 41)).toInt64)) := (hf_48 294 (by decide)).trans hc_2
        have hlb_i1C := s_lzc_le (s_rule g r1C) 1681
        have e_r : r1C = r1M := q_nI_inj (by omega) (by omega) (Chre.symm.trans Mhre)
        subst e_r
        exact (Mhni i1C (by omega) Chie).elim
    · skip
      refine (?_ : AJ G K Q (kc + 1) (ks + 6) false 296 1299 [some (.ref bS), some (.ref (q_h G + 0)), some (.ref (q_h G + 279)), some (.ref (q_h G + 294)), some (.ref (q_h G + 295)), some (.int (nI (i))), none, none, none] [.int (nI (0))] σ_1)
      have hc_102 : σ_1 0 = o10 G (nI (il)) (z2) (z3) := (hf_5 0 (by decide)).trans hv0
      have hc_103 : σ_1 1 = q_an G 600 f := (hf_5 1 (by decide)).trans hv1
      have hc_104 : σ_1 23 = o5 G (23) (nI (lo)) := (hf_5 23 (by decide)).trans hv2
      have hc_105 : σ_1 24 = q_an G 256 o := (hf_5 24 (by decide)).trans hv3
      have hc_106 : σ_1 224 = q_rn G 2 2 (fun j => some (243 + 18 * j)) := (hf_5 224 (by decide)).trans hv4
      have hc_107 : σ_1 225 = q_bn G 2 kp := (hf_5 225 (by decide)).trans hv5
      have hc_108 : σ_1 279 = o11 G F := (hf_5 279 (by decide)).trans hv6
      have hc_109 : σ_1 280 = q_an G 265 g := (hf_5 280 (by decide)).trans hv7
      have hc_110 : σ_1 281 = q_an G 265 wk := (hf_5 281 (by decide)).trans hv8
      have hc_111 : σ_1 282 = q_an G 265 as := (hf_5 282 (by decide)).trans hv9
      have hc_112 : σ_1 283 = q_an G 530 sh := (hf_5 283 (by decide)).trans hv10
      have hc_113 : σ_1 284 = q_an G 2120 a := (hf_5 284 (by decide)).trans hv11
      have hc_114 : σ_1 285 = q_bn G 1681 fb := (hf_5 285 (by decide)).trans hv12
      have hc_115 : σ_1 286 = q_an G 1681 nv := (hf_5 286 (by decide)).trans hv13
      have hc_116 : σ_1 287 = q_an G 1681 ns := (hf_5 287 (by decide)).trans hv14
      have hc_117 : σ_1 288 = q_an G 2000 mk := (hf_5 288 (by decide)).trans hv15
      have hc_118 : σ_1 289 = q_an G 6724 va := (hf_5 289 (by decide)).trans hv16
      have hc_119 : σ_1 290 = q_an G 6724 sp := (hf_5 290 (by decide)).trans hv17
      have hc_120 : σ_1 291 = q_an G 80 lp := (hf_5 291 (by decide)).trans hv18
      have hc_121 : σ_1 292 = q_an G 600 f := (hf_5 292 (by decide)).trans hv19
      have hc_122 : σ_1 293 = q_an G 300 ou := (hf_5 293 (by decide)).trans hv20
      have hc_123 : σ_1 295 = q_dn G 1 oD := (hf_5 295 (by decide)).trans hv22
      refine A_istore hg dL_law_1299 (by decide) (q_c1d rfl) ?_
      refine A_eq (ls2 := [some (.ref bS), some (.ref (q_h G + 0)), some (.ref (q_h G + 279)), some (.ref (q_h G + 294)), some (.ref (q_h G + 295)), some (.int (nI (i))), some (.int (nI (0))), none, none]) (st2 := []) (pc2 := 0) rfl rfl ?_
      refine A_aload_n hg dL_law_1301 rfl rfl ?_
      refine A_aload_n hg dL_law_1302 rfl rfl ?_
      refine A_iload hg dL_law_1303 rfl ?_
      refine A_iconst (v := (nI (1))) hg dL_law_1305 (by decide) ?_
      refine A_iaddN hg dL_law_1306 ?_
      refine A_sld hg hX (i + 1) (by omega) dL_law_1307 ?_
      refine A_aload_n hg dL_law_1308 rfl rfl ?_
      refine A_iload hg dL_law_1309 rfl ?_
      refine A_iconst (v := (nI (2))) hg dL_law_1311 (by decide) ?_
      refine A_iaddN hg dL_law_1312 ?_
      refine A_sld hg hX (i + 2) (by omega) dL_law_1313 ?_
      refine A_aload_n hg dL_law_1314 rfl rfl ?_
      refine A_iload hg dL_law_1315 rfl ?_
      refine A_iconst (v := (nI (3))) hg dL_law_1317 (by decide) ?_
      refine A_iaddN hg dL_law_1318 ?_
      refine A_sld hg hX (i + 3) (by omega) dL_law_1319 ?_
      refine A_if_eq (tgt := 1327) hg dL_law_1320 (by decide) (fun _ => ?_) (fun z9 => absurd c1287 z9)
      refine A_iconst (v := (nI (0))) hg dL_law_1327 (by decide) ?_
      refine A_hV (kc2 := kc + 1) (ks2 := ks + 6) (As := [.int (xs (i + 1)), .int (xs (i + 2)), .int (nI (0))]) (rest := []) hg lk_RL_211 in_X11_losing se_X11_losing rfl dL_law_1328 ⟨by decide, by decide⟩ rfl rfl (hfK 1 6 (by decide) (by decide)) hc_108 (by omega) rfl rfl (Nat.le_of_ble_eq_true rfl) (c_X11_losing G false 296 σ_1 F g fb nv ns mk va sp lp mc z (xs (i + 1)) (xs (i + 2)) false hc_108 hc_109 hc_114 hc_115 hc_116 hc_117 hc_118 hc_119 hc_120 (by omega) hg9 (by omega) hF12 hF16 hmk hTI hlo) ?_
      rintro _ σ_144 (⟨rfl, Mhno, hc_124, hf_125⟩ | ⟨r1M, i1M, fqM, nvqM, nsqM, mkqM, vaqM, spqM, loqM, mcqM, zqM, rfl, Mhre, Mhrl, Mhie, Mhil, MhTI, Mhmc, Mhmk, Mhlo, hc_126, hc_127, hc_128, hc_129, hc_130, hc_131, hc_132, hc_133, hf_134⟩ | ⟨r1M, fqM, nvqM, nsqM, mkqM, vaqM, spqM, loqM, mcqM, zqM, rfl, Mhre, Mhrl, Mhni, MhTI, Mhmc, Mhmk, Mhlo, hc_135, hc_136, hc_137, hc_138, hc_139, hc_140, hc_141, hc_142, hf_143⟩)
      · skip
        refine (?_ : AJ G K Q (kc + 1) (ks + 6) false 296 1331 [some (.ref bS), some (.ref (q_h G + 0)), some (.ref (q_h G + 279)), some (.ref (q_h G + 294)), some (.ref (q_h G + 295)), some (.int (nI (i))), some (.int (nI (0))), none, none] [.int (nI (0))] σ_144)
        have hc_124 : σ_144 279 = o11 G (upd F 7 (nI (1))) := hc_124
        have hc_145 : σ_144 0 = o10 G (nI (il)) (z2) (z3) := (hf_125 0 (by decide)).trans hc_102
        have hc_146 : σ_144 1 = q_an G 600 f := (hf_125 1 (by decide)).trans hc_103
        have hc_147 : σ_144 23 = o5 G (23) (nI (lo)) := (hf_125 23 (by decide)).trans hc_104
        have hc_148 : σ_144 24 = q_an G 256 o := (hf_125 24 (by decide)).trans hc_105
        have hc_149 : σ_144 224 = q_rn G 2 2 (fun j => some (243 + 18 * j)) := (hf_125 224 (by decide)).trans hc_106
        have hc_150 : σ_144 225 = q_bn G 2 kp := (hf_125 225 (by decide)).trans hc_107
        have hc_151 : σ_144 280 = q_an G 265 g := (hf_125 280 (by decide)).trans hc_109
        have hc_152 : σ_144 281 = q_an G 265 wk := (hf_125 281 (by decide)).trans hc_110
        have hc_153 : σ_144 282 = q_an G 265 as := (hf_125 282 (by decide)).trans hc_111
        have hc_154 : σ_144 283 = q_an G 530 sh := (hf_125 283 (by decide)).trans hc_112
        have hc_155 : σ_144 284 = q_an G 2120 a := (hf_125 284 (by decide)).trans hc_113
        have hc_156 : σ_144 285 = q_bn G 1681 fb := (hf_125 285 (by decide)).trans hc_114
        have hc_157 : σ_144 286 = q_an G 1681 nv := (hf_125 286 (by decide)).trans hc_115
        have hc_158 : σ_144 287 = q_an G 1681 ns := (hf_125 287 (by decide)).trans hc_116
        have hc_159 : σ_144 288 = q_an G 2000 mk := (hf_125 288 (by decide)).trans hc_117
        have hc_160 : σ_144 289 = q_an G 6724 va := (hf_125 289 (by decide)).trans hc_118
        have hc_161 : σ_144 290 = q_an G 6724 sp := (hf_125 290 (by decide)).trans hc_119
        have hc_162 : σ_144 291 = q_an G 80 lp := (hf_125 291 (by decide)).trans hc_120
        have hc_163 : σ_144 292 = q_an G 600 f := (hf_125 292 (by decide)).trans hc_121
        have hc_164 : σ_144 293 = q_an G 300 ou := (hf_125 293 (by decide)).trans hc_122
        have hc_165 : σ_144 295 = q_dn G 1 oD := (hf_125 295 (by decide)).trans hc_123
        have hc_166 : σ_144 294 = q_ln G 1 (va_up oL 0 ((q_d (0)).toInt64)) := (hf_125 294 (by decide)).trans hc_4
        exact (Mhno r1C (by omega) Chre).elim
      · skip
        refine (?_ : AJ G K Q (kc + 1) (ks + 6) false 296 1331 [some (.ref bS), some (.ref (q_h G + 0)), some (.ref (q_h G + 279)), some (.ref (q_h G + 294)), some (.ref (q_h G + 295)), some (.int (nI (i))), some (.int (nI (0))), none, none] [.int (nI (if false = true then s_lzn (s_rule g r1M) i1M % 41 else s_lzn (s_rule g r1M) i1M / 41))] σ_144)
        have hc_126 : σ_144 279 = o11 G (upd (upd (upd F 7 (nI (0))) 12 (nI (mcqM))) 16 (nI (zqM))) := hc_126
        have hc_167 : σ_144 0 = o10 G (nI (il)) (z2) (z3) := (hf_134 0 (by decide)).trans hc_102
        have hc_168 : σ_144 1 = q_an G 600 f := (hf_134 1 (by decide)).trans hc_103
        have hc_169 : σ_144 23 = o5 G (23) (nI (lo)) := (hf_134 23 (by decide)).trans hc_104
        have hc_170 : σ_144 24 = q_an G 256 o := (hf_134 24 (by decide)).trans hc_105
        have hc_171 : σ_144 224 = q_rn G 2 2 (fun j => some (243 + 18 * j)) := (hf_134 224 (by decide)).trans hc_106
        have hc_172 : σ_144 225 = q_bn G 2 kp := (hf_134 225 (by decide)).trans hc_107
        have hc_173 : σ_144 280 = q_an G 265 g := (hf_134 280 (by decide)).trans hc_109
        have hc_174 : σ_144 281 = q_an G 265 wk := (hf_134 281 (by decide)).trans hc_110
        have hc_175 : σ_144 282 = q_an G 265 as := (hf_134 282 (by decide)).trans hc_111
        have hc_176 : σ_144 283 = q_an G 530 sh := (hf_134 283 (by decide)).trans hc_112
        have hc_177 : σ_144 284 = q_an G 2120 a := (hf_134 284 (by decide)).trans hc_113
        have hc_178 : σ_144 292 = q_an G 600 f := (hf_134 292 (by decide)).trans hc_121
        have hc_179 : σ_144 293 = q_an G 300 ou := (hf_134 293 (by decide)).trans hc_122
        have hc_180 : σ_144 295 = q_dn G 1 oD := (hf_134 295 (by decide)).trans hc_123
        have hc_181 : σ_144 294 = q_ln G 1 (va_up oL 0 ((q_d (0)).toInt64)) := (hf_134 294 (by decide)).trans hc_4
        have hlb_i1M := s_lzc_le (s_rule g r1M) 1681
        have e_r : r1C = r1M := q_nI_inj (by omega) (by omega) (Chre.symm.trans Mhre)
        subst e_r
        exact (Chni i1M (by omega) Mhie).elim
      · skip
        refine (?_ : AJ G K Q (kc + 1) (ks + 6) false 296 1331 [some (.ref bS), some (.ref (q_h G + 0)), some (.ref (q_h G + 279)), some (.ref (q_h G + 294)), some (.ref (q_h G + 295)), some (.int (nI (i))), some (.int (nI (0))), none, none] [.int (q_d (0))] σ_144)
        have hc_135 : σ_144 279 = o11 G (upd (upd (upd F 7 (nI (0))) 12 (nI (mcqM))) 16 (nI (zqM))) := hc_135
        have hc_182 : σ_144 0 = o10 G (nI (il)) (z2) (z3) := (hf_143 0 (by decide)).trans hc_102
        have hc_183 : σ_144 1 = q_an G 600 f := (hf_143 1 (by decide)).trans hc_103
        have hc_184 : σ_144 23 = o5 G (23) (nI (lo)) := (hf_143 23 (by decide)).trans hc_104
        have hc_185 : σ_144 24 = q_an G 256 o := (hf_143 24 (by decide)).trans hc_105
        have hc_186 : σ_144 224 = q_rn G 2 2 (fun j => some (243 + 18 * j)) := (hf_143 224 (by decide)).trans hc_106
        have hc_187 : σ_144 225 = q_bn G 2 kp := (hf_143 225 (by decide)).trans hc_107
        have hc_188 : σ_144 280 = q_an G 265 g := (hf_143 280 (by decide)).trans hc_109
        have hc_189 : σ_144 281 = q_an G 265 wk := (hf_143 281 (by decide)).trans hc_110
        have hc_190 : σ_144 282 = q_an G 265 as := (hf_143 282 (by decide)).trans hc_111
        have hc_191 : σ_144 283 = q_an G 530 sh := (hf_143 283 (by decide)).trans hc_112
        have hc_192 : σ_144 284 = q_an G 2120 a := (hf_143 284 (by decide)).trans hc_113
        have hc_193 : σ_144 292 = q_an G 600 f := (hf_143 292 (by decide)).trans hc_121
        have hc_194 : σ_144 293 = q_an G 300 ou := (hf_143 293 (by decide)).trans hc_122
        have hc_195 : σ_144 295 = q_dn G 1 oD := (hf_143 295 (by decide)).trans hc_123
        have hc_196 : σ_144 294 = q_ln G 1 (va_up oL 0 ((q_d (0)).toInt64)) := (hf_143 294 (by decide)).trans hc_4
        have e_r : r1C = r1M := q_nI_inj (by omega) (by omega) (Chre.symm.trans Mhre)
        subst e_r
        refine A_istore hg dL_law_1331 (by decide) (q_c1d rfl) ?_
        refine A_eq (ls2 := [some (.ref bS), some (.ref (q_h G + 0)), some (.ref (q_h G + 279)), some (.ref (q_h G + 294)), some (.ref (q_h G + 295)), some (.int (nI (i))), some (.int (nI (0))), some (.int (q_d (0))), none]) (st2 := []) (pc2 := 0) rfl rfl ?_
        refine A_aload_n hg dL_law_1333 rfl rfl ?_
        refine A_eV (kc2 := kc + 1) (ks2 := ks + 6) (As := []) (rest := []) hg lk_RL_170 in_X11_thrown se_X11_thrown rfl dL_law_1334 ⟨by decide, by decide⟩ rfl rfl (hfK 1 6 (by decide) (by decide)) hc_135 (by omega) rfl rfl (Nat.le_of_ble_eq_true rfl) (c_X11_thrown G false 296 σ_144 (upd (upd (upd F 7 (nI (0))) 12 (nI (mcqM))) 16 (nI (zqM))) hc_135 (by omega)) ?_
        refine A_top (w := .int (nI (0))) (congrArg Value.int rfl) ?_
        refine A_iload hg dL_law_1337 rfl ?_
        refine A_icmp_eqN (tgt := 1344) hg dL_law_1339 (by decide) (by decide) (by decide) (fun c1339 => ?_) (fun c1339 => False.elim (by omega))
        refine A_iload hg dL_law_1344 rfl ?_
        refine A_if_neN (tgt := 1361) hg dL_law_1346 (by decide) (by decide) (fun c1346 => absurd (by decide) c1346) (fun c1346 => ?_)
        refine A_aload_n hg dL_law_1349 rfl rfl ?_
        refine A_iconst (v := (nI (0))) hg dL_law_1350 (by decide) ?_
        refine A_lald (j := 0) hg dL_law_1351 hc_196 (by omega) (by decide) (by decide) ?_
        refine A_top (w := .long ((q_d (0)).toInt64)) (congrArg Value.long iv_up0) ?_
        refine A_iload hg dL_law_1352 rfl ?_
        refine A_i2l (v := (q_d (0)).toInt64) hg dL_law_1354 rfl ?_
        refine A_lcmp hg dL_law_1355 ?_
        refine A_top (w := .int (nI 0)) (congrArg Value.int (lc_self _)) ?_
        refine A_if_eqN (tgt := 1361) hg dL_law_1356 (by decide) (by decide) (fun c1356 => ?_) (fun c1356 => absurd (by decide) c1356)
        refine A_goto (tgt := 3062) hg dL_law_1361 (by decide) ?_
        refine A_drop 6 ?_
        refine A_drop 7 ?_
        refine A_eq (ls2 := [some (.ref bS), some (.ref (q_h G + 0)), some (.ref (q_h G + 279)), some (.ref (q_h G + 294)), some (.ref (q_h G + 295)), some (.int (nI (i))), none, none, none]) (st2 := []) (pc2 := 0) rfl rfl ?_
        refine A_wide (kc2 := kc + 8) (ks2 := ks + 48) (by omega) (by omega) ?_
        exact hnxt _ (iv_mk il z2 z3 f lo o g nx m ps kp sn (upd (upd (upd F 7 (nI (0))) 12 (nI (mcqM))) 16 (nI (zqM))) wk as sh a fqM nvqM nsqM mkqM vaqM spqM loqM mcqM zqM ss ou (va_up oL 0 ((q_d (0)).toInt64)) oD hc_182 hc_183 hc_184 hc_185 hc_186 hc_187 hc_135 hc_188 hc_189 hc_190 hc_191 hc_192 hc_136 hc_137 hc_138 hc_139 hc_140 hc_141 hc_142 hc_193 hc_194 hc_196 hc_195 (x_lj_e (fun i _ _ => ((hf_143 i (by omega)).trans (hf_5 i (by omega)))) hL) (x_gm_e (fun i _ _ => ((hf_143 i (by omega)).trans (hf_5 i (by omega)))) hG) (x_mx_e (fun i _ _ => (hf_143 i (by omega))) ChM2) (x_hi_e (fun i _ _ => ((hf_143 i (by omega)).trans (hf_5 i (by omega)))) hHi) (x_oj_e (fun i _ _ => ((hf_143 i (by omega)).trans (hf_5 i (by omega)))) hO) (x_pj_e (fun i _ _ => ((hf_143 i (by omega)).trans (hf_5 i (by omega)))) hT) (iv_hn (fun i _ _ => ((hf_143 i (by omega)).trans (hf_5 i (by omega)))) hH) (iv_Sn (fun i _ _ => ((hf_143 i (by omega)).trans (hf_5 i (by omega)))) hSn) (iv_Kp (fun i _ _ => ((hf_143 i (by omega)).trans (hf_5 i (by omega)))) hKp) (by omega) hfb (by omega) hou hgd hps hk1 hkss hss hsn hF5 hF6 rfl rfl hF21 hF22 hF23 hF33 (by omega) Mhmk MhTI Mhlo)
    · skip
      rw [he_6]
      refine (?_ : AJ G K Q (kc + 1) (ks + 6) false 296 1299 [some (.ref bS), some (.ref (q_h G + 0)), some (.ref (q_h G + 279)), some (.ref (q_h G + 294)), some (.ref (q_h G + 295)), some (.int (nI (i))), none, none, none] [.int (nI (1))] σ)
      refine A_istore hg dL_law_1299 (by decide) (q_c1d rfl) ?_
      refine A_eq (ls2 := [some (.ref bS), some (.ref (q_h G + 0)), some (.ref (q_h G + 279)), some (.ref (q_h G + 294)), some (.ref (q_h G + 295)), some (.int (nI (i))), some (.int (nI (1))), none, none]) (st2 := []) (pc2 := 0) rfl rfl ?_
      refine A_aload_n hg dL_law_1301 rfl rfl ?_
      refine A_aload_n hg dL_law_1302 rfl rfl ?_
      refine A_iload hg dL_law_1303 rfl ?_
      refine A_iconst (v := (nI (1))) hg dL_law_1305 (by decide) ?_
      refine A_iaddN hg dL_law_1306 ?_
      refine A_sld hg hX (i + 1) (by omega) dL_law_1307 ?_
      refine A_aload_n hg dL_law_1308 rfl rfl ?_
      refine A_iload hg dL_law_1309 rfl ?_
      refine A_iconst (v := (nI (2))) hg dL_law_1311 (by decide) ?_
      refine A_iaddN hg dL_law_1312 ?_
      refine A_sld hg hX (i + 2) (by omega) dL_law_1313 ?_
      refine A_aload_n hg dL_law_1314 rfl rfl ?_
      refine A_iload hg dL_law_1315 rfl ?_
      refine A_iconst (v := (nI (3))) hg dL_law_1317 (by decide) ?_
      refine A_iaddN hg dL_law_1318 ?_
      refine A_sld hg hX (i + 3) (by omega) dL_law_1319 ?_
      refine A_if_eq (tgt := 1327) hg dL_law_1320 (by decide) (fun _ => ?_) (fun z9 => absurd c1287 z9)
      refine A_iconst (v := (nI (0))) hg dL_law_1327 (by decide) ?_
      refine A_hV (kc2 := kc + 1) (ks2 := ks + 6) (As := [.int (xs (i + 1)), .int (xs (i + 2)), .int (nI (0))]) (rest := []) hg lk_RL_211 in_X11_losing se_X11_losing rfl dL_law_1328 ⟨by decide, by decide⟩ rfl rfl (hfK 1 6 (by decide) (by decide)) hv6 (by omega) rfl rfl (Nat.le_of_ble_eq_true rfl) (c_X11_losing G false 296 σ F g fb nv ns mk va sp lp mc z (xs (i + 1)) (xs (i + 2)) false hv6 hv7 hv12 hv13 hv14 hv15 hv16 hv17 hv18 (by omega) hg9 (by omega) hF12 hF16 hmk hTI hlo) ?_
      rintro _ σ_217 (⟨rfl, Mhno, hc_197, hf_198⟩ | ⟨r1M, i1M, fqM, nvqM, nsqM, mkqM, vaqM, spqM, loqM, mcqM, zqM, rfl, Mhre, Mhrl, Mhie, Mhil, MhTI, Mhmc, Mhmk, Mhlo, hc_199, hc_200, hc_201, hc_202, hc_203, hc_204, hc_205, hc_206, hf_207⟩ | ⟨r1M, fqM, nvqM, nsqM, mkqM, vaqM, spqM, loqM, mcqM, zqM, rfl, Mhre, Mhrl, Mhni, MhTI, Mhmc, Mhmk, Mhlo, hc_208, hc_209, hc_210, hc_211, hc_212, hc_213, hc_214, hc_215, hf_216⟩)
      · skip
        refine (?_ : AJ G K Q (kc + 1) (ks + 6) false 296 1331 [some (.ref bS), some (.ref (q_h G + 0)), some (.ref (q_h G + 279)), some (.ref (q_h G + 294)), some (.ref (q_h G + 295)), some (.int (nI (i))), some (.int (nI (1))), none, none] [.int (nI (0))] σ_217)
        have hc_197 : σ_217 279 = o11 G (upd F 7 (nI (1))) := hc_197
        have hc_218 : σ_217 0 = o10 G (nI (il)) (z2) (z3) := (hf_198 0 (by decide)).trans hv0
        have hc_219 : σ_217 1 = q_an G 600 f := (hf_198 1 (by decide)).trans hv1
        have hc_220 : σ_217 23 = o5 G (23) (nI (lo)) := (hf_198 23 (by decide)).trans hv2
        have hc_221 : σ_217 24 = q_an G 256 o := (hf_198 24 (by decide)).trans hv3
        have hc_222 : σ_217 224 = q_rn G 2 2 (fun j => some (243 + 18 * j)) := (hf_198 224 (by decide)).trans hv4
        have hc_223 : σ_217 225 = q_bn G 2 kp := (hf_198 225 (by decide)).trans hv5
        have hc_224 : σ_217 280 = q_an G 265 g := (hf_198 280 (by decide)).trans hv7
        have hc_225 : σ_217 281 = q_an G 265 wk := (hf_198 281 (by decide)).trans hv8
        have hc_226 : σ_217 282 = q_an G 265 as := (hf_198 282 (by decide)).trans hv9
        have hc_227 : σ_217 283 = q_an G 530 sh := (hf_198 283 (by decide)).trans hv10
        have hc_228 : σ_217 284 = q_an G 2120 a := (hf_198 284 (by decide)).trans hv11
        have hc_229 : σ_217 285 = q_bn G 1681 fb := (hf_198 285 (by decide)).trans hv12
        have hc_230 : σ_217 286 = q_an G 1681 nv := (hf_198 286 (by decide)).trans hv13
        have hc_231 : σ_217 287 = q_an G 1681 ns := (hf_198 287 (by decide)).trans hv14
        have hc_232 : σ_217 288 = q_an G 2000 mk := (hf_198 288 (by decide)).trans hv15
        have hc_233 : σ_217 289 = q_an G 6724 va := (hf_198 289 (by decide)).trans hv16
        have hc_234 : σ_217 290 = q_an G 6724 sp := (hf_198 290 (by decide)).trans hv17
        have hc_235 : σ_217 291 = q_an G 80 lp := (hf_198 291 (by decide)).trans hv18
        have hc_236 : σ_217 292 = q_an G 600 f := (hf_198 292 (by decide)).trans hv19
        have hc_237 : σ_217 293 = q_an G 300 ou := (hf_198 293 (by decide)).trans hv20
        have hc_238 : σ_217 294 = q_ln G 1 oL := (hf_198 294 (by decide)).trans hv21
        have hc_239 : σ_217 295 = q_dn G 1 oD := (hf_198 295 (by decide)).trans hv22
        refine A_istore hg dL_law_1331 (by decide) (q_c1d rfl) ?_
        refine A_eq (ls2 := [some (.ref bS), some (.ref (q_h G + 0)), some (.ref (q_h G + 279)), some (.ref (q_h G + 294)), some (.ref (q_h G + 295)), some (.int (nI (i))), some (.int (nI (1))), some (.int (nI (0))), none]) (st2 := []) (pc2 := 0) rfl rfl ?_
        refine A_aload_n hg dL_law_1333 rfl rfl ?_
        refine A_eV (kc2 := kc + 1) (ks2 := ks + 6) (As := []) (rest := []) hg lk_RL_170 in_X11_thrown se_X11_thrown rfl dL_law_1334 ⟨by decide, by decide⟩ rfl rfl (hfK 1 6 (by decide) (by decide)) hc_197 (by omega) rfl rfl (Nat.le_of_ble_eq_true rfl) (c_X11_thrown G false 296 σ_217 (upd F 7 (nI (1))) hc_197 (by omega)) ?_
        refine A_top (w := .int (nI (1))) (congrArg Value.int rfl) ?_
        refine A_iload hg dL_law_1337 rfl ?_
        refine A_icmp_eqN (tgt := 1344) hg dL_law_1339 (by decide) (by decide) (by decide) (fun c1339 => ?_) (fun c1339 => False.elim (by omega))
        refine A_iload hg dL_law_1344 rfl ?_
        refine A_if_neN (tgt := 1361) hg dL_law_1346 (by decide) (by decide) (fun c1346 => ?_) (fun c1346 => absurd c1346 (by decide))
        refine A_goto (tgt := 3062) hg dL_law_1361 (by decide) ?_
        refine A_drop 6 ?_
        refine A_drop 7 ?_
        refine A_eq (ls2 := [some (.ref bS), some (.ref (q_h G + 0)), some (.ref (q_h G + 279)), some (.ref (q_h G + 294)), some (.ref (q_h G + 295)), some (.int (nI (i))), none, none, none]) (st2 := []) (pc2 := 0) rfl rfl ?_
        refine A_wide (kc2 := kc + 8) (ks2 := ks + 48) (by omega) (by omega) ?_
        exact hnxt _ (iv_mk il z2 z3 f lo o g nx m ps kp sn (upd F 7 (nI (1))) wk as sh a fb nv ns mk va sp lp mc z ss ou oL oD hc_218 hc_219 hc_220 hc_221 hc_222 hc_223 hc_197 hc_224 hc_225 hc_226 hc_227 hc_228 hc_229 hc_230 hc_231 hc_232 hc_233 hc_234 hc_235 hc_236 hc_237 hc_238 hc_239 (x_lj_e (fun i _ _ => (hf_198 i (by omega))) hL) (x_gm_e (fun i _ _ => (hf_198 i (by omega))) hG) (x_mx_e (fun i _ _ => (hf_198 i (by omega))) hM) (x_hi_e (fun i _ _ => (hf_198 i (by omega))) hHi) (x_oj_e (fun i _ _ => (hf_198 i (by omega))) hO) (x_pj_e (fun i _ _ => (hf_198 i (by omega))) hT) (iv_hn (fun i _ _ => (hf_198 i (by omega))) hH) (iv_Sn (fun i _ _ => (hf_198 i (by omega))) hSn) (iv_Kp (fun i _ _ => (hf_198 i (by omega))) hKp) (by omega) hfb (by omega) hou hgd hps hk1 hkss hss hsn hF5 hF6 hF12 hF16 hF21 hF22 hF23 hF33 (by omega) hmk hTI hlo)
      · skip
        refine (?_ : AJ G K Q (kc + 1) (ks + 6) false 296 1331 [some (.ref bS), some (.ref (q_h G + 0)), some (.ref (q_h G + 279)), some (.ref (q_h G + 294)), some (.ref (q_h G + 295)), some (.int (nI (i))), some (.int (nI (1))), none, none] [.int (nI (if false = true then s_lzn (s_rule g r1M) i1M % 41 else s_lzn (s_rule g r1M) i1M / 41))] σ_217)
        have hc_199 : σ_217 279 = o11 G (upd (upd (upd F 7 (nI (0))) 12 (nI (mcqM))) 16 (nI (zqM))) := hc_199
        have hc_240 : σ_217 0 = o10 G (nI (il)) (z2) (z3) := (hf_207 0 (by decide)).trans hv0
        have hc_241 : σ_217 1 = q_an G 600 f := (hf_207 1 (by decide)).trans hv1
        have hc_242 : σ_217 23 = o5 G (23) (nI (lo)) := (hf_207 23 (by decide)).trans hv2
        have hc_243 : σ_217 24 = q_an G 256 o := (hf_207 24 (by decide)).trans hv3
        have hc_244 : σ_217 224 = q_rn G 2 2 (fun j => some (243 + 18 * j)) := (hf_207 224 (by decide)).trans hv4
        have hc_245 : σ_217 225 = q_bn G 2 kp := (hf_207 225 (by decide)).trans hv5
        have hc_246 : σ_217 280 = q_an G 265 g := (hf_207 280 (by decide)).trans hv7
        have hc_247 : σ_217 281 = q_an G 265 wk := (hf_207 281 (by decide)).trans hv8
        have hc_248 : σ_217 282 = q_an G 265 as := (hf_207 282 (by decide)).trans hv9
        have hc_249 : σ_217 283 = q_an G 530 sh := (hf_207 283 (by decide)).trans hv10
        have hc_250 : σ_217 284 = q_an G 2120 a := (hf_207 284 (by decide)).trans hv11
        have hc_251 : σ_217 292 = q_an G 600 f := (hf_207 292 (by decide)).trans hv19
        have hc_252 : σ_217 293 = q_an G 300 ou := (hf_207 293 (by decide)).trans hv20
        have hc_253 : σ_217 294 = q_ln G 1 oL := (hf_207 294 (by decide)).trans hv21
        have hc_254 : σ_217 295 = q_dn G 1 oD := (hf_207 295 (by decide)).trans hv22
        have hlb_i1M := s_lzc_le (s_rule g r1M) 1681
        exact (Chxx r1M (by omega) Mhre).elim
      · skip
        refine (?_ : AJ G K Q (kc + 1) (ks + 6) false 296 1331 [some (.ref bS), some (.ref (q_h G + 0)), some (.ref (q_h G + 279)), some (.ref (q_h G + 294)), some (.ref (q_h G + 295)), some (.int (nI (i))), some (.int (nI (1))), none, none] [.int (q_d (0))] σ_217)
        have hc_208 : σ_217 279 = o11 G (upd (upd (upd F 7 (nI (0))) 12 (nI (mcqM))) 16 (nI (zqM))) := hc_208
        have hc_255 : σ_217 0 = o10 G (nI (il)) (z2) (z3) := (hf_216 0 (by decide)).trans hv0
        have hc_256 : σ_217 1 = q_an G 600 f := (hf_216 1 (by decide)).trans hv1
        have hc_257 : σ_217 23 = o5 G (23) (nI (lo)) := (hf_216 23 (by decide)).trans hv2
        have hc_258 : σ_217 24 = q_an G 256 o := (hf_216 24 (by decide)).trans hv3
        have hc_259 : σ_217 224 = q_rn G 2 2 (fun j => some (243 + 18 * j)) := (hf_216 224 (by decide)).trans hv4
        have hc_260 : σ_217 225 = q_bn G 2 kp := (hf_216 225 (by decide)).trans hv5
        have hc_261 : σ_217 280 = q_an G 265 g := (hf_216 280 (by decide)).trans hv7
        have hc_262 : σ_217 281 = q_an G 265 wk := (hf_216 281 (by decide)).trans hv8
        have hc_263 : σ_217 282 = q_an G 265 as := (hf_216 282 (by decide)).trans hv9
        have hc_264 : σ_217 283 = q_an G 530 sh := (hf_216 283 (by decide)).trans hv10
        have hc_265 : σ_217 284 = q_an G 2120 a := (hf_216 284 (by decide)).trans hv11
        have hc_266 : σ_217 292 = q_an G 600 f := (hf_216 292 (by decide)).trans hv19
        have hc_267 : σ_217 293 = q_an G 300 ou := (hf_216 293 (by decide)).trans hv20
        have hc_268 : σ_217 294 = q_ln G 1 oL := (hf_216 294 (by decide)).trans hv21
        have hc_269 : σ_217 295 = q_dn G 1 oD := (hf_216 295 (by decide)).trans hv22
        exact (Chxx r1M (by omega) Mhre).elim
  · skip
    refine A_iconst (v := (nI (1))) hg dL_law_1290 (by decide) ?_
    refine A_goto (tgt := 1295) hg dL_law_1291 (by decide) ?_
    refine A_aload_n hg dL_law_1295 rfl rfl ?_
    refine A_callSH (As := [.ref (q_h G + 0), .int (xs (i + 1)), .int (xs (i + 2)), .int (nI (1)), .ref (q_h G + 294)]) (rest := []) hg lkH_209 stH_L_losing dL_law_1296 ⟨by decide, by decide⟩ (hfK 1 6 (by decide) (by decide)) rfl rfl (Nat.le_of_ble_eq_true rfl) (c_L_losing G 296 σ (nI (il)) z2 z3 g (xs (i + 1)) (xs (i + 2)) true oL hv0 hv21 (by omega) hG hM (by omega)) ?_
    rintro _ σ_270 (⟨r1C, i1C, rfl, Chre, Chrl, Chie, Chil, ChM2, hc_271, hf_272⟩ | ⟨r1C, rfl, Chre, Chrl, Chni, ChM2, hc_273, hf_274⟩ | ⟨rfl, Chxx, he_275⟩)
    · skip
      refine (?_ : AJ G K Q (kc + 1) (ks + 6) false 296 1299 [some (.ref bS), some (.ref (q_h G + 0)), some (.ref (q_h G + 279)), some (.ref (q_h G + 294)), some (.ref (q_h G + 295)), some (.int (nI (i))), none, none, none] [.int (nI (0))] σ_270)
      have hc_276 : σ_270 0 = o10 G (nI (il)) (z2) (z3) := (hf_272 0 (by decide)).trans hv0
      have hc_277 : σ_270 1 = q_an G 600 f := (hf_272 1 (by decide)).trans hv1
      have hc_278 : σ_270 23 = o5 G (23) (nI (lo)) := (hf_272 23 (by decide)).trans hv2
      have hc_279 : σ_270 24 = q_an G 256 o := (hf_272 24 (by decide)).trans hv3
      have hc_280 : σ_270 224 = q_rn G 2 2 (fun j => some (243 + 18 * j)) := (hf_272 224 (by decide)).trans hv4
      have hc_281 : σ_270 225 = q_bn G 2 kp := (hf_272 225 (by decide)).trans hv5
      have hc_282 : σ_270 279 = o11 G F := (hf_272 279 (by decide)).trans hv6
      have hc_283 : σ_270 280 = q_an G 265 g := (hf_272 280 (by decide)).trans hv7
      have hc_284 : σ_270 281 = q_an G 265 wk := (hf_272 281 (by decide)).trans hv8
      have hc_285 : σ_270 282 = q_an G 265 as := (hf_272 282 (by decide)).trans hv9
      have hc_286 : σ_270 283 = q_an G 530 sh := (hf_272 283 (by decide)).trans hv10
      have hc_287 : σ_270 284 = q_an G 2120 a := (hf_272 284 (by decide)).trans hv11
      have hc_288 : σ_270 285 = q_bn G 1681 fb := (hf_272 285 (by decide)).trans hv12
      have hc_289 : σ_270 286 = q_an G 1681 nv := (hf_272 286 (by decide)).trans hv13
      have hc_290 : σ_270 287 = q_an G 1681 ns := (hf_272 287 (by decide)).trans hv14
      have hc_291 : σ_270 288 = q_an G 2000 mk := (hf_272 288 (by decide)).trans hv15
      have hc_292 : σ_270 289 = q_an G 6724 va := (hf_272 289 (by decide)).trans hv16
      have hc_293 : σ_270 290 = q_an G 6724 sp := (hf_272 290 (by decide)).trans hv17
      have hc_294 : σ_270 291 = q_an G 80 lp := (hf_272 291 (by decide)).trans hv18
      have hc_295 : σ_270 292 = q_an G 600 f := (hf_272 292 (by decide)).trans hv19
      have hc_296 : σ_270 293 = q_an G 300 ou := (hf_272 293 (by decide)).trans hv20
      have hc_297 : σ_270 295 = q_dn G 1 oD := (hf_272 295 (by decide)).trans hv22
      refine A_istore hg dL_law_1299 (by decide) (q_c1d rfl) ?_
      refine A_eq (ls2 := [some (.ref bS), some (.ref (q_h G + 0)), some (.ref (q_h G + 279)), some (.ref (q_h G + 294)), some (.ref (q_h G + 295)), some (.int (nI (i))), some (.int (nI (0))), none, none]) (st2 := []) (pc2 := 0) rfl rfl ?_
      refine A_aload_n hg dL_law_1301 rfl rfl ?_
      refine A_aload_n hg dL_law_1302 rfl rfl ?_
      refine A_iload hg dL_law_1303 rfl ?_
      refine A_iconst (v := (nI (1))) hg dL_law_1305 (by decide) ?_
      refine A_iaddN hg dL_law_1306 ?_
      refine A_sld hg hX (i + 1) (by omega) dL_law_1307 ?_
      refine A_aload_n hg dL_law_1308 rfl rfl ?_
      refine A_iload hg dL_law_1309 rfl ?_
      refine A_iconst (v := (nI (2))) hg dL_law_1311 (by decide) ?_
      refine A_iaddN hg dL_law_1312 ?_
      refine A_sld hg hX (i + 2) (by omega) dL_law_1313 ?_
      refine A_aload_n hg dL_law_1314 rfl rfl ?_
      refine A_iload hg dL_law_1315 rfl ?_
      refine A_iconst (v := (nI (3))) hg dL_law_1317 (by decide) ?_
      refine A_iaddN hg dL_law_1318 ?_
      refine A_sld hg hX (i + 3) (by omega) dL_law_1319 ?_
      refine A_if_eq (tgt := 1327) hg dL_law_1320 (by decide) (fun z9 => absurd z9 c1287) (fun _ => ?_)
      refine A_iconst (v := (nI (1))) hg dL_law_1323 (by decide) ?_
      refine A_goto (tgt := 1328) hg dL_law_1324 (by decide) ?_
      refine A_hV (kc2 := kc + 1) (ks2 := ks + 6) (As := [.int (xs (i + 1)), .int (xs (i + 2)), .int (nI (1))]) (rest := []) hg lk_RL_211 in_X11_losing se_X11_losing rfl dL_law_1328 ⟨by decide, by decide⟩ rfl rfl (hfK 1 6 (by decide) (by decide)) hc_282 (by omega) rfl rfl (Nat.le_of_ble_eq_true rfl) (c_X11_losing G false 296 σ_270 F g fb nv ns mk va sp lp mc z (xs (i + 1)) (xs (i + 2)) true hc_282 hc_283 hc_288 hc_289 hc_290 hc_291 hc_292 hc_293 hc_294 (by omega) hg9 (by omega) hF12 hF16 hmk hTI hlo) ?_
      rintro _ σ_318 (⟨rfl, Mhno, hc_298, hf_299⟩ | ⟨r1M, i1M, fqM, nvqM, nsqM, mkqM, vaqM, spqM, loqM, mcqM, zqM, rfl, Mhre, Mhrl, Mhie, Mhil, MhTI, Mhmc, Mhmk, Mhlo, hc_300, hc_301, hc_302, hc_303, hc_304, hc_305, hc_306, hc_307, hf_308⟩ | ⟨r1M, fqM, nvqM, nsqM, mkqM, vaqM, spqM, loqM, mcqM, zqM, rfl, Mhre, Mhrl, Mhni, MhTI, Mhmc, Mhmk, Mhlo, hc_309, hc_310, hc_311, hc_312, hc_313, hc_314, hc_315, hc_316, hf_317⟩)
      · skip
        refine (?_ : AJ G K Q (kc + 1) (ks + 6) false 296 1331 [some (.ref bS), some (.ref (q_h G + 0)), some (.ref (q_h G + 279)), some (.ref (q_h G + 294)), some (.ref (q_h G + 295)), some (.int (nI (i))), some (.int (nI (0))), none, none] [.int (nI (0))] σ_318)
        have hc_298 : σ_318 279 = o11 G (upd F 7 (nI (1))) := hc_298
        have hc_319 : σ_318 0 = o10 G (nI (il)) (z2) (z3) := (hf_299 0 (by decide)).trans hc_276
        have hc_320 : σ_318 1 = q_an G 600 f := (hf_299 1 (by decide)).trans hc_277
        have hc_321 : σ_318 23 = o5 G (23) (nI (lo)) := (hf_299 23 (by decide)).trans hc_278
        have hc_322 : σ_318 24 = q_an G 256 o := (hf_299 24 (by decide)).trans hc_279
        have hc_323 : σ_318 224 = q_rn G 2 2 (fun j => some (243 + 18 * j)) := (hf_299 224 (by decide)).trans hc_280
        have hc_324 : σ_318 225 = q_bn G 2 kp := (hf_299 225 (by decide)).trans hc_281
        have hc_325 : σ_318 280 = q_an G 265 g := (hf_299 280 (by decide)).trans hc_283
        have hc_326 : σ_318 281 = q_an G 265 wk := (hf_299 281 (by decide)).trans hc_284
        have hc_327 : σ_318 282 = q_an G 265 as := (hf_299 282 (by decide)).trans hc_285
        have hc_328 : σ_318 283 = q_an G 530 sh := (hf_299 283 (by decide)).trans hc_286
        have hc_329 : σ_318 284 = q_an G 2120 a := (hf_299 284 (by decide)).trans hc_287
        have hc_330 : σ_318 285 = q_bn G 1681 fb := (hf_299 285 (by decide)).trans hc_288
        have hc_331 : σ_318 286 = q_an G 1681 nv := (hf_299 286 (by decide)).trans hc_289
        have hc_332 : σ_318 287 = q_an G 1681 ns := (hf_299 287 (by decide)).trans hc_290
        have hc_333 : σ_318 288 = q_an G 2000 mk := (hf_299 288 (by decide)).trans hc_291
        have hc_334 : σ_318 289 = q_an G 6724 va := (hf_299 289 (by decide)).trans hc_292
        have hc_335 : σ_318 290 = q_an G 6724 sp := (hf_299 290 (by decide)).trans hc_293
        have hc_336 : σ_318 291 = q_an G 80 lp := (hf_299 291 (by decide)).trans hc_294
        have hc_337 : σ_318 292 = q_an G 600 f := (hf_299 292 (by decide)).trans hc_295
        have hc_338 : σ_318 293 = q_an G 300 ou := (hf_299 293 (by decide)).trans hc_296
        have hc_339 : σ_318 295 = q_dn G 1 oD := (hf_299 295 (by decide)).trans hc_297
        have hc_340 : σ_318 294 = q_ln G 1 (va_up oL 0 ((nI (if true = true then s_lzn (s_rule g r1C) i1C % 41 else s_lzn (s_rule g r1C) i1C / 41)).toInt64)) := (hf_299 294 (by decide)).trans hc_271
        have hlb_i1C := s_lzc_le (s_rule g r1C) 1681
        exact (Mhno r1C (by omega) Chre).elim
      · skip
        refine (?_ : AJ G K Q (kc + 1) (ks + 6) false 296 1331 [some (.ref bS), some (.ref (q_h G + 0)), some (.ref (q_h G + 279)), some (.ref (q_h G + 294)), some (.ref (q_h G + 295)), some (.int (nI (i))), some (.int (nI (0))), none, none] [.int (nI (if true = true then s_lzn (s_rule g r1M) i1M % 41 else s_lzn (s_rule g r1M) i1M / 41))] σ_318)
        have hc_300 : σ_318 279 = o11 G (upd (upd (upd F 7 (nI (0))) 12 (nI (mcqM))) 16 (nI (zqM))) := hc_300
        have hc_341 : σ_318 0 = o10 G (nI (il)) (z2) (z3) := (hf_308 0 (by decide)).trans hc_276
        have hc_342 : σ_318 1 = q_an G 600 f := (hf_308 1 (by decide)).trans hc_277
        have hc_343 : σ_318 23 = o5 G (23) (nI (lo)) := (hf_308 23 (by decide)).trans hc_278
        have hc_344 : σ_318 24 = q_an G 256 o := (hf_308 24 (by decide)).trans hc_279
        have hc_345 : σ_318 224 = q_rn G 2 2 (fun j => some (243 + 18 * j)) := (hf_308 224 (by decide)).trans hc_280
        have hc_346 : σ_318 225 = q_bn G 2 kp := (hf_308 225 (by decide)).trans hc_281
        have hc_347 : σ_318 280 = q_an G 265 g := (hf_308 280 (by decide)).trans hc_283
        have hc_348 : σ_318 281 = q_an G 265 wk := (hf_308 281 (by decide)).trans hc_284
        have hc_349 : σ_318 282 = q_an G 265 as := (hf_308 282 (by decide)).trans hc_285
        have hc_350 : σ_318 283 = q_an G 530 sh := (hf_308 283 (by decide)).trans hc_286
        have hc_351 : σ_318 284 = q_an G 2120 a := (hf_308 284 (by decide)).trans hc_287
        have hc_352 : σ_318 292 = q_an G 600 f := (hf_308 292 (by decide)).trans hc_295
        have hc_353 : σ_318 293 = q_an G 300 ou := (hf_308 293 (by decide)).trans hc_296
        have hc_354 : σ_318 295 = q_dn G 1 oD := (hf_308 295 (by decide)).trans hc_297
        have hc_355 : σ_318 294 = q_ln G 1 (va_up oL 0 ((nI (if true = true then s_lzn (s_rule g r1C) i1C % 41 else s_lzn (s_rule g r1C) i1C / 41)).toInt64)) := (hf_308 294 (by decide)).trans hc_271
        have hlb_i1C := s_lzc_le (s_rule g r1C) 1681
        have hlb_i1M := s_lzc_le (s_rule g r1M) 1681
        have e_r : r1C = r1M := q_nI_inj (by omega) (by omega) (Chre.symm.trans Mhre)
        subst e_r
        have e_x : i1C = i1M := q_nI_inj (by omega) (by omega) (Chie.symm.trans Mhie)
        subst e_x
        refine A_istore hg dL_law_1331 (by decide) (q_c1d rfl) ?_
        refine A_eq (ls2 := [some (.ref bS), some (.ref (q_h G + 0)), some (.ref (q_h G + 279)), some (.ref (q_h G + 294)), some (.ref (q_h G + 295)), some (.int (nI (i))), some (.int (nI (0))), some (.int (nI (if true = true then s_lzn (s_rule g r1C) i1C % 41 else s_lzn (s_rule g r1C) i1C / 41))), none]) (st2 := []) (pc2 := 0) rfl rfl ?_
        refine A_aload_n hg dL_law_1333 rfl rfl ?_
        refine A_eV (kc2 := kc + 1) (ks2 := ks + 6) (As := []) (rest := []) hg lk_RL_170 in_X11_thrown se_X11_thrown rfl dL_law_1334 ⟨by decide, by decide⟩ rfl rfl (hfK 1 6 (by decide) (by decide)) hc_300 (by omega) rfl rfl (Nat.le_of_ble_eq_true rfl) (c_X11_thrown G false 296 σ_318 (upd (upd (upd F 7 (nI (0))) 12 (nI (mcqM))) 16 (nI (zqM))) hc_300 (by omega)) ?_
        refine A_top (w := .int (nI (0))) (congrArg Value.int rfl) ?_
        refine A_iload hg dL_law_1337 rfl ?_
        refine A_icmp_eqN (tgt := 1344) hg dL_law_1339 (by decide) (by decide) (by decide) (fun c1339 => ?_) (fun c1339 => False.elim (by omega))
        refine A_iload hg dL_law_1344 rfl ?_
        refine A_if_neN (tgt := 1361) hg dL_law_1346 (by decide) (by decide) (fun c1346 => absurd (by decide) c1346) (fun c1346 => ?_)
        refine A_aload_n hg dL_law_1349 rfl rfl ?_
        refine A_iconst (v := (nI (0))) hg dL_law_1350 (by decide) ?_
        refine A_lald (j := 0) hg dL_law_1351 hc_355 (by omega) (by decide) (by decide) ?_
        refine A_top (w := .long ((nI (if true = true then s_lzn (s_rule g r1C) i1C % 41 else s_lzn (s_rule g r1C) i1C / 41)).toInt64)) (congrArg Value.long iv_up0) ?_
        refine A_iload hg dL_law_1352 rfl ?_
        refine A_i2l (v := (nI (if true = true then s_lzn (s_rule g r1C) i1C % 41 else s_lzn (s_rule g r1C) i1C / 41)).toInt64) hg dL_law_1354 rfl ?_
        refine A_lcmp hg dL_law_1355 ?_
        refine A_top (w := .int (nI 0)) (congrArg Value.int (lc_self _)) ?_
        refine A_if_eqN (tgt := 1361) hg dL_law_1356 (by decide) (by decide) (fun c1356 => ?_) (fun c1356 => absurd (by decide) c1356)
        refine A_goto (tgt := 3062) hg dL_law_1361 (by decide) ?_
        refine A_drop 6 ?_
        refine A_drop 7 ?_
        refine A_eq (ls2 := [some (.ref bS), some (.ref (q_h G + 0)), some (.ref (q_h G + 279)), some (.ref (q_h G + 294)), some (.ref (q_h G + 295)), some (.int (nI (i))), none, none, none]) (st2 := []) (pc2 := 0) rfl rfl ?_
        refine A_wide (kc2 := kc + 8) (ks2 := ks + 48) (by omega) (by omega) ?_
        exact hnxt _ (iv_mk il z2 z3 f lo o g nx m ps kp sn (upd (upd (upd F 7 (nI (0))) 12 (nI (mcqM))) 16 (nI (zqM))) wk as sh a fqM nvqM nsqM mkqM vaqM spqM loqM mcqM zqM ss ou (va_up oL 0 ((nI (if true = true then s_lzn (s_rule g r1C) i1C % 41 else s_lzn (s_rule g r1C) i1C / 41)).toInt64)) oD hc_341 hc_342 hc_343 hc_344 hc_345 hc_346 hc_300 hc_347 hc_348 hc_349 hc_350 hc_351 hc_301 hc_302 hc_303 hc_304 hc_305 hc_306 hc_307 hc_352 hc_353 hc_355 hc_354 (x_lj_e (fun i _ _ => ((hf_308 i (by omega)).trans (hf_272 i (by omega)))) hL) (x_gm_e (fun i _ _ => ((hf_308 i (by omega)).trans (hf_272 i (by omega)))) hG) (x_mx_e (fun i _ _ => (hf_308 i (by omega))) ChM2) (x_hi_e (fun i _ _ => ((hf_308 i (by omega)).trans (hf_272 i (by omega)))) hHi) (x_oj_e (fun i _ _ => ((hf_308 i (by omega)).trans (hf_272 i (by omega)))) hO) (x_pj_e (fun i _ _ => ((hf_308 i (by omega)).trans (hf_272 i (by omega)))) hT) (iv_hn (fun i _ _ => ((hf_308 i (by omega)).trans (hf_272 i (by omega)))) hH) (iv_Sn (fun i _ _ => ((hf_308 i (by omega)).trans (hf_272 i (by omega)))) hSn) (iv_Kp (fun i _ _ => ((hf_308 i (by omega)).trans (hf_272 i (by omega)))) hKp) (by omega) hfb (by omega) hou hgd hps hk1 hkss hss hsn hF5 hF6 rfl rfl hF21 hF22 hF23 hF33 (by omega) Mhmk MhTI Mhlo)
      · skip
        refine (?_ : AJ G K Q (kc + 1) (ks + 6) false 296 1331 [some (.ref bS), some (.ref (q_h G + 0)), some (.ref (q_h G + 279)), some (.ref (q_h G + 294)), some (.ref (q_h G + 295)), some (.int (nI (i))), some (.int (nI (0))), none, none] [.int (q_d (0))] σ_318)
        have hc_309 : σ_318 279 = o11 G (upd (upd (upd F 7 (nI (0))) 12 (nI (mcqM))) 16 (nI (zqM))) := hc_309
        have hc_356 : σ_318 0 = o10 G (nI (il)) (z2) (z3) := (hf_317 0 (by decide)).trans hc_276
        have hc_357 : σ_318 1 = q_an G 600 f := (hf_317 1 (by decide)).trans hc_277
        have hc_358 : σ_318 23 = o5 G (23) (nI (lo)) := (hf_317 23 (by decide)).trans hc_278
        have hc_359 : σ_318 24 = q_an G 256 o := (hf_317 24 (by decide)).trans hc_279
        have hc_360 : σ_318 224 = q_rn G 2 2 (fun j => some (243 + 18 * j)) := (hf_317 224 (by decide)).trans hc_280
        have hc_361 : σ_318 225 = q_bn G 2 kp := (hf_317 225 (by decide)).trans hc_281
        have hc_362 : σ_318 280 = q_an G 265 g := (hf_317 280 (by decide)).trans hc_283
        have hc_363 : σ_318 281 = q_an G 265 wk := (hf_317 281 (by decide)).trans hc_284
        have hc_364 : σ_318 282 = q_an G 265 as := (hf_317 282 (by decide)).trans hc_285
        have hc_365 : σ_318 283 = q_an G 530 sh := (hf_317 283 (by decide)).trans hc_286
        have hc_366 : σ_318 284 = q_an G 2120 a := (hf_317 284 (by decide)).trans hc_287
        have hc_367 : σ_318 292 = q_an G 600 f := (hf_317 292 (by decide)).trans hc_295
        have hc_368 : σ_318 293 = q_an G 300 ou := (hf_317 293 (by decide)).trans hc_296
        have hc_369 : σ_318 295 = q_dn G 1 oD := (hf_317 295 (by decide)).trans hc_297
        have hc_370 : σ_318 294 = q_ln G 1 (va_up oL 0 ((nI (if true = true then s_lzn (s_rule g r1C) i1C % 41 else s_lzn (s_rule g r1C) i1C / 41)).toInt64)) := (hf_317 294 (by decide)).trans hc_271
        have hlb_i1C := s_lzc_le (s_rule g r1C) 1681
        have e_r : r1C = r1M := q_nI_inj (by omega) (by omega) (Chre.symm.trans Mhre)
        subst e_r
        exact (Mhni i1C (by omega) Chie).elim
    · skip
      refine (?_ : AJ G K Q (kc + 1) (ks + 6) false 296 1299 [some (.ref bS), some (.ref (q_h G + 0)), some (.ref (q_h G + 279)), some (.ref (q_h G + 294)), some (.ref (q_h G + 295)), some (.int (nI (i))), none, none, none] [.int (nI (0))] σ_270)
      have hc_371 : σ_270 0 = o10 G (nI (il)) (z2) (z3) := (hf_274 0 (by decide)).trans hv0
      have hc_372 : σ_270 1 = q_an G 600 f := (hf_274 1 (by decide)).trans hv1
      have hc_373 : σ_270 23 = o5 G (23) (nI (lo)) := (hf_274 23 (by decide)).trans hv2
      have hc_374 : σ_270 24 = q_an G 256 o := (hf_274 24 (by decide)).trans hv3
      have hc_375 : σ_270 224 = q_rn G 2 2 (fun j => some (243 + 18 * j)) := (hf_274 224 (by decide)).trans hv4
      have hc_376 : σ_270 225 = q_bn G 2 kp := (hf_274 225 (by decide)).trans hv5
      have hc_377 : σ_270 279 = o11 G F := (hf_274 279 (by decide)).trans hv6
      have hc_378 : σ_270 280 = q_an G 265 g := (hf_274 280 (by decide)).trans hv7
      have hc_379 : σ_270 281 = q_an G 265 wk := (hf_274 281 (by decide)).trans hv8
      have hc_380 : σ_270 282 = q_an G 265 as := (hf_274 282 (by decide)).trans hv9
      have hc_381 : σ_270 283 = q_an G 530 sh := (hf_274 283 (by decide)).trans hv10
      have hc_382 : σ_270 284 = q_an G 2120 a := (hf_274 284 (by decide)).trans hv11
      have hc_383 : σ_270 285 = q_bn G 1681 fb := (hf_274 285 (by decide)).trans hv12
      have hc_384 : σ_270 286 = q_an G 1681 nv := (hf_274 286 (by decide)).trans hv13
      have hc_385 : σ_270 287 = q_an G 1681 ns := (hf_274 287 (by decide)).trans hv14
      have hc_386 : σ_270 288 = q_an G 2000 mk := (hf_274 288 (by decide)).trans hv15
      have hc_387 : σ_270 289 = q_an G 6724 va := (hf_274 289 (by decide)).trans hv16
      have hc_388 : σ_270 290 = q_an G 6724 sp := (hf_274 290 (by decide)).trans hv17
      have hc_389 : σ_270 291 = q_an G 80 lp := (hf_274 291 (by decide)).trans hv18
      have hc_390 : σ_270 292 = q_an G 600 f := (hf_274 292 (by decide)).trans hv19
      have hc_391 : σ_270 293 = q_an G 300 ou := (hf_274 293 (by decide)).trans hv20
      have hc_392 : σ_270 295 = q_dn G 1 oD := (hf_274 295 (by decide)).trans hv22
      refine A_istore hg dL_law_1299 (by decide) (q_c1d rfl) ?_
      refine A_eq (ls2 := [some (.ref bS), some (.ref (q_h G + 0)), some (.ref (q_h G + 279)), some (.ref (q_h G + 294)), some (.ref (q_h G + 295)), some (.int (nI (i))), some (.int (nI (0))), none, none]) (st2 := []) (pc2 := 0) rfl rfl ?_
      refine A_aload_n hg dL_law_1301 rfl rfl ?_
      refine A_aload_n hg dL_law_1302 rfl rfl ?_
      refine A_iload hg dL_law_1303 rfl ?_
      refine A_iconst (v := (nI (1))) hg dL_law_1305 (by decide) ?_
      refine A_iaddN hg dL_law_1306 ?_
      refine A_sld hg hX (i + 1) (by omega) dL_law_1307 ?_
      refine A_aload_n hg dL_law_1308 rfl rfl ?_
      refine A_iload hg dL_law_1309 rfl ?_
      refine A_iconst (v := (nI (2))) hg dL_law_1311 (by decide) ?_
      refine A_iaddN hg dL_law_1312 ?_
      refine A_sld hg hX (i + 2) (by omega) dL_law_1313 ?_
      refine A_aload_n hg dL_law_1314 rfl rfl ?_
      refine A_iload hg dL_law_1315 rfl ?_
      refine A_iconst (v := (nI (3))) hg dL_law_1317 (by decide) ?_
      refine A_iaddN hg dL_law_1318 ?_
      refine A_sld hg hX (i + 3) (by omega) dL_law_1319 ?_
      refine A_if_eq (tgt := 1327) hg dL_law_1320 (by decide) (fun z9 => absurd z9 c1287) (fun _ => ?_)
      refine A_iconst (v := (nI (1))) hg dL_law_1323 (by decide) ?_
      refine A_goto (tgt := 1328) hg dL_law_1324 (by decide) ?_
      refine A_hV (kc2 := kc + 1) (ks2 := ks + 6) (As := [.int (xs (i + 1)), .int (xs (i + 2)), .int (nI (1))]) (rest := []) hg lk_RL_211 in_X11_losing se_X11_losing rfl dL_law_1328 ⟨by decide, by decide⟩ rfl rfl (hfK 1 6 (by decide) (by decide)) hc_377 (by omega) rfl rfl (Nat.le_of_ble_eq_true rfl) (c_X11_losing G false 296 σ_270 F g fb nv ns mk va sp lp mc z (xs (i + 1)) (xs (i + 2)) true hc_377 hc_378 hc_383 hc_384 hc_385 hc_386 hc_387 hc_388 hc_389 (by omega) hg9 (by omega) hF12 hF16 hmk hTI hlo) ?_
      rintro _ σ_413 (⟨rfl, Mhno, hc_393, hf_394⟩ | ⟨r1M, i1M, fqM, nvqM, nsqM, mkqM, vaqM, spqM, loqM, mcqM, zqM, rfl, Mhre, Mhrl, Mhie, Mhil, MhTI, Mhmc, Mhmk, Mhlo, hc_395, hc_396, hc_397, hc_398, hc_399, hc_400, hc_401, hc_402, hf_403⟩ | ⟨r1M, fqM, nvqM, nsqM, mkqM, vaqM, spqM, loqM, mcqM, zqM, rfl, Mhre, Mhrl, Mhni, MhTI, Mhmc, Mhmk, Mhlo, hc_404, hc_405, hc_406, hc_407, hc_408, hc_409, hc_410, hc_411, hf_412⟩)
      · skip
        refine (?_ : AJ G K Q (kc + 1) (ks + 6) false 296 1331 [some (.ref bS), some (.ref (q_h G + 0)), some (.ref (q_h G + 279)), some (.ref (q_h G + 294)), some (.ref (q_h G + 295)), some (.int (nI (i))), some (.int (nI (0))), none, none] [.int (nI (0))] σ_413)
        have hc_393 : σ_413 279 = o11 G (upd F 7 (nI (1))) := hc_393
        have hc_414 : σ_413 0 = o10 G (nI (il)) (z2) (z3) := (hf_394 0 (by decide)).trans hc_371
        have hc_415 : σ_413 1 = q_an G 600 f := (hf_394 1 (by decide)).trans hc_372
        have hc_416 : σ_413 23 = o5 G (23) (nI (lo)) := (hf_394 23 (by decide)).trans hc_373
        have hc_417 : σ_413 24 = q_an G 256 o := (hf_394 24 (by decide)).trans hc_374
        have hc_418 : σ_413 224 = q_rn G 2 2 (fun j => some (243 + 18 * j)) := (hf_394 224 (by decide)).trans hc_375
        have hc_419 : σ_413 225 = q_bn G 2 kp := (hf_394 225 (by decide)).trans hc_376
        have hc_420 : σ_413 280 = q_an G 265 g := (hf_394 280 (by decide)).trans hc_378
        have hc_421 : σ_413 281 = q_an G 265 wk := (hf_394 281 (by decide)).trans hc_379
        have hc_422 : σ_413 282 = q_an G 265 as := (hf_394 282 (by decide)).trans hc_380
        have hc_423 : σ_413 283 = q_an G 530 sh := (hf_394 283 (by decide)).trans hc_381
        have hc_424 : σ_413 284 = q_an G 2120 a := (hf_394 284 (by decide)).trans hc_382
        have hc_425 : σ_413 285 = q_bn G 1681 fb := (hf_394 285 (by decide)).trans hc_383
        have hc_426 : σ_413 286 = q_an G 1681 nv := (hf_394 286 (by decide)).trans hc_384
        have hc_427 : σ_413 287 = q_an G 1681 ns := (hf_394 287 (by decide)).trans hc_385
        have hc_428 : σ_413 288 = q_an G 2000 mk := (hf_394 288 (by decide)).trans hc_386
        have hc_429 : σ_413 289 = q_an G 6724 va := (hf_394 289 (by decide)).trans hc_387
        have hc_430 : σ_413 290 = q_an G 6724 sp := (hf_394 290 (by decide)).trans hc_388
        have hc_431 : σ_413 291 = q_an G 80 lp := (hf_394 291 (by decide)).trans hc_389
        have hc_432 : σ_413 292 = q_an G 600 f := (hf_394 292 (by decide)).trans hc_390
        have hc_433 : σ_413 293 = q_an G 300 ou := (hf_394 293 (by decide)).trans hc_391
        have hc_434 : σ_413 295 = q_dn G 1 oD := (hf_394 295 (by decide)).trans hc_392
        have hc_435 : σ_413 294 = q_ln G 1 (va_up oL 0 ((q_d (0)).toInt64)) := (hf_394 294 (by decide)).trans hc_273
        exact (Mhno r1C (by omega) Chre).elim
      · skip
        refine (?_ : AJ G K Q (kc + 1) (ks + 6) false 296 1331 [some (.ref bS), some (.ref (q_h G + 0)), some (.ref (q_h G + 279)), some (.ref (q_h G + 294)), some (.ref (q_h G + 295)), some (.int (nI (i))), some (.int (nI (0))), none, none] [.int (nI (if true = true then s_lzn (s_rule g r1M) i1M % 41 else s_lzn (s_rule g r1M) i1M / 41))] σ_413)
        have hc_395 : σ_413 279 = o11 G (upd (upd (upd F 7 (nI (0))) 12 (nI (mcqM))) 16 (nI (zqM))) := hc_395
        have hc_436 : σ_413 0 = o10 G (nI (il)) (z2) (z3) := (hf_403 0 (by decide)).trans hc_371
        have hc_437 : σ_413 1 = q_an G 600 f := (hf_403 1 (by decide)).trans hc_372
        have hc_438 : σ_413 23 = o5 G (23) (nI (lo)) := (hf_403 23 (by decide)).trans hc_373
        have hc_439 : σ_413 24 = q_an G 256 o := (hf_403 24 (by decide)).trans hc_374
        have hc_440 : σ_413 224 = q_rn G 2 2 (fun j => some (243 + 18 * j)) := (hf_403 224 (by decide)).trans hc_375
        have hc_441 : σ_413 225 = q_bn G 2 kp := (hf_403 225 (by decide)).trans hc_376
        have hc_442 : σ_413 280 = q_an G 265 g := (hf_403 280 (by decide)).trans hc_378
        have hc_443 : σ_413 281 = q_an G 265 wk := (hf_403 281 (by decide)).trans hc_379
        have hc_444 : σ_413 282 = q_an G 265 as := (hf_403 282 (by decide)).trans hc_380
        have hc_445 : σ_413 283 = q_an G 530 sh := (hf_403 283 (by decide)).trans hc_381
        have hc_446 : σ_413 284 = q_an G 2120 a := (hf_403 284 (by decide)).trans hc_382
        have hc_447 : σ_413 292 = q_an G 600 f := (hf_403 292 (by decide)).trans hc_390
        have hc_448 : σ_413 293 = q_an G 300 ou := (hf_403 293 (by decide)).trans hc_391
        have hc_449 : σ_413 295 = q_dn G 1 oD := (hf_403 295 (by decide)).trans hc_392
        have hc_450 : σ_413 294 = q_ln G 1 (va_up oL 0 ((q_d (0)).toInt64)) := (hf_403 294 (by decide)).trans hc_273
        have hlb_i1M := s_lzc_le (s_rule g r1M) 1681
        have e_r : r1C = r1M := q_nI_inj (by omega) (by omega) (Chre.symm.trans Mhre)
        subst e_r
        exact (Chni i1M (by omega) Mhie).elim
      · skip
        refine (?_ : AJ G K Q (kc + 1) (ks + 6) false 296 1331 [some (.ref bS), some (.ref (q_h G + 0)), some (.ref (q_h G + 279)), some (.ref (q_h G + 294)), some (.ref (q_h G + 295)), some (.int (nI (i))), some (.int (nI (0))), none, none] [.int (q_d (0))] σ_413)
        have hc_404 : σ_413 279 = o11 G (upd (upd (upd F 7 (nI (0))) 12 (nI (mcqM))) 16 (nI (zqM))) := hc_404
        have hc_451 : σ_413 0 = o10 G (nI (il)) (z2) (z3) := (hf_412 0 (by decide)).trans hc_371
        have hc_452 : σ_413 1 = q_an G 600 f := (hf_412 1 (by decide)).trans hc_372
        have hc_453 : σ_413 23 = o5 G (23) (nI (lo)) := (hf_412 23 (by decide)).trans hc_373
        have hc_454 : σ_413 24 = q_an G 256 o := (hf_412 24 (by decide)).trans hc_374
        have hc_455 : σ_413 224 = q_rn G 2 2 (fun j => some (243 + 18 * j)) := (hf_412 224 (by decide)).trans hc_375
        have hc_456 : σ_413 225 = q_bn G 2 kp := (hf_412 225 (by decide)).trans hc_376
        have hc_457 : σ_413 280 = q_an G 265 g := (hf_412 280 (by decide)).trans hc_378
        have hc_458 : σ_413 281 = q_an G 265 wk := (hf_412 281 (by decide)).trans hc_379
        have hc_459 : σ_413 282 = q_an G 265 as := (hf_412 282 (by decide)).trans hc_380
        have hc_460 : σ_413 283 = q_an G 530 sh := (hf_412 283 (by decide)).trans hc_381
        have hc_461 : σ_413 284 = q_an G 2120 a := (hf_412 284 (by decide)).trans hc_382
        have hc_462 : σ_413 292 = q_an G 600 f := (hf_412 292 (by decide)).trans hc_390
        have hc_463 : σ_413 293 = q_an G 300 ou := (hf_412 293 (by decide)).trans hc_391
        have hc_464 : σ_413 295 = q_dn G 1 oD := (hf_412 295 (by decide)).trans hc_392
        have hc_465 : σ_413 294 = q_ln G 1 (va_up oL 0 ((q_d (0)).toInt64)) := (hf_412 294 (by decide)).trans hc_273
        have e_r : r1C = r1M := q_nI_inj (by omega) (by omega) (Chre.symm.trans Mhre)
        subst e_r
        refine A_istore hg dL_law_1331 (by decide) (q_c1d rfl) ?_
        refine A_eq (ls2 := [some (.ref bS), some (.ref (q_h G + 0)), some (.ref (q_h G + 279)), some (.ref (q_h G + 294)), some (.ref (q_h G + 295)), some (.int (nI (i))), some (.int (nI (0))), some (.int (q_d (0))), none]) (st2 := []) (pc2 := 0) rfl rfl ?_
        refine A_aload_n hg dL_law_1333 rfl rfl ?_
        refine A_eV (kc2 := kc + 1) (ks2 := ks + 6) (As := []) (rest := []) hg lk_RL_170 in_X11_thrown se_X11_thrown rfl dL_law_1334 ⟨by decide, by decide⟩ rfl rfl (hfK 1 6 (by decide) (by decide)) hc_404 (by omega) rfl rfl (Nat.le_of_ble_eq_true rfl) (c_X11_thrown G false 296 σ_413 (upd (upd (upd F 7 (nI (0))) 12 (nI (mcqM))) 16 (nI (zqM))) hc_404 (by omega)) ?_
        refine A_top (w := .int (nI (0))) (congrArg Value.int rfl) ?_
        refine A_iload hg dL_law_1337 rfl ?_
        refine A_icmp_eqN (tgt := 1344) hg dL_law_1339 (by decide) (by decide) (by decide) (fun c1339 => ?_) (fun c1339 => False.elim (by omega))
        refine A_iload hg dL_law_1344 rfl ?_
        refine A_if_neN (tgt := 1361) hg dL_law_1346 (by decide) (by decide) (fun c1346 => absurd (by decide) c1346) (fun c1346 => ?_)
        refine A_aload_n hg dL_law_1349 rfl rfl ?_
        refine A_iconst (v := (nI (0))) hg dL_law_1350 (by decide) ?_
        refine A_lald (j := 0) hg dL_law_1351 hc_465 (by omega) (by decide) (by decide) ?_
        refine A_top (w := .long ((q_d (0)).toInt64)) (congrArg Value.long iv_up0) ?_
        refine A_iload hg dL_law_1352 rfl ?_
        refine A_i2l (v := (q_d (0)).toInt64) hg dL_law_1354 rfl ?_
        refine A_lcmp hg dL_law_1355 ?_
        refine A_top (w := .int (nI 0)) (congrArg Value.int (lc_self _)) ?_
        refine A_if_eqN (tgt := 1361) hg dL_law_1356 (by decide) (by decide) (fun c1356 => ?_) (fun c1356 => absurd (by decide) c1356)
        refine A_goto (tgt := 3062) hg dL_law_1361 (by decide) ?_
        refine A_drop 6 ?_
        refine A_drop 7 ?_
        refine A_eq (ls2 := [some (.ref bS), some (.ref (q_h G + 0)), some (.ref (q_h G + 279)), some (.ref (q_h G + 294)), some (.ref (q_h G + 295)), some (.int (nI (i))), none, none, none]) (st2 := []) (pc2 := 0) rfl rfl ?_
        refine A_wide (kc2 := kc + 8) (ks2 := ks + 48) (by omega) (by omega) ?_
        exact hnxt _ (iv_mk il z2 z3 f lo o g nx m ps kp sn (upd (upd (upd F 7 (nI (0))) 12 (nI (mcqM))) 16 (nI (zqM))) wk as sh a fqM nvqM nsqM mkqM vaqM spqM loqM mcqM zqM ss ou (va_up oL 0 ((q_d (0)).toInt64)) oD hc_451 hc_452 hc_453 hc_454 hc_455 hc_456 hc_404 hc_457 hc_458 hc_459 hc_460 hc_461 hc_405 hc_406 hc_407 hc_408 hc_409 hc_410 hc_411 hc_462 hc_463 hc_465 hc_464 (x_lj_e (fun i _ _ => ((hf_412 i (by omega)).trans (hf_274 i (by omega)))) hL) (x_gm_e (fun i _ _ => ((hf_412 i (by omega)).trans (hf_274 i (by omega)))) hG) (x_mx_e (fun i _ _ => (hf_412 i (by omega))) ChM2) (x_hi_e (fun i _ _ => ((hf_412 i (by omega)).trans (hf_274 i (by omega)))) hHi) (x_oj_e (fun i _ _ => ((hf_412 i (by omega)).trans (hf_274 i (by omega)))) hO) (x_pj_e (fun i _ _ => ((hf_412 i (by omega)).trans (hf_274 i (by omega)))) hT) (iv_hn (fun i _ _ => ((hf_412 i (by omega)).trans (hf_274 i (by omega)))) hH) (iv_Sn (fun i _ _ => ((hf_412 i (by omega)).trans (hf_274 i (by omega)))) hSn) (iv_Kp (fun i _ _ => ((hf_412 i (by omega)).trans (hf_274 i (by omega)))) hKp) (by omega) hfb (by omega) hou hgd hps hk1 hkss hss hsn hF5 hF6 rfl rfl hF21 hF22 hF23 hF33 (by omega) Mhmk MhTI Mhlo)
    · skip
      rw [he_275]
      refine (?_ : AJ G K Q (kc + 1) (ks + 6) false 296 1299 [some (.ref bS), some (.ref (q_h G + 0)), some (.ref (q_h G + 279)), some (.ref (q_h G + 294)), some (.ref (q_h G + 295)), some (.int (nI (i))), none, none, none] [.int (nI (1))] σ)
      refine A_istore hg dL_law_1299 (by decide) (q_c1d rfl) ?_
      refine A_eq (ls2 := [some (.ref bS), some (.ref (q_h G + 0)), some (.ref (q_h G + 279)), some (.ref (q_h G + 294)), some (.ref (q_h G + 295)), some (.int (nI (i))), some (.int (nI (1))), none, none]) (st2 := []) (pc2 := 0) rfl rfl ?_
      refine A_aload_n hg dL_law_1301 rfl rfl ?_
      refine A_aload_n hg dL_law_1302 rfl rfl ?_
      refine A_iload hg dL_law_1303 rfl ?_
      refine A_iconst (v := (nI (1))) hg dL_law_1305 (by decide) ?_
      refine A_iaddN hg dL_law_1306 ?_
      refine A_sld hg hX (i + 1) (by omega) dL_law_1307 ?_
      refine A_aload_n hg dL_law_1308 rfl rfl ?_
      refine A_iload hg dL_law_1309 rfl ?_
      refine A_iconst (v := (nI (2))) hg dL_law_1311 (by decide) ?_
      refine A_iaddN hg dL_law_1312 ?_
      refine A_sld hg hX (i + 2) (by omega) dL_law_1313 ?_
      refine A_aload_n hg dL_law_1314 rfl rfl ?_
      refine A_iload hg dL_law_1315 rfl ?_
      refine A_iconst (v := (nI (3))) hg dL_law_1317 (by decide) ?_
      refine A_iaddN hg dL_law_1318 ?_
      refine A_sld hg hX (i + 3) (by omega) dL_law_1319 ?_
      refine A_if_eq (tgt := 1327) hg dL_law_1320 (by decide) (fun z9 => absurd z9 c1287) (fun _ => ?_)
      refine A_iconst (v := (nI (1))) hg dL_law_1323 (by decide) ?_
      refine A_goto (tgt := 1328) hg dL_law_1324 (by decide) ?_
      refine A_hV (kc2 := kc + 1) (ks2 := ks + 6) (As := [.int (xs (i + 1)), .int (xs (i + 2)), .int (nI (1))]) (rest := []) hg lk_RL_211 in_X11_losing se_X11_losing rfl dL_law_1328 ⟨by decide, by decide⟩ rfl rfl (hfK 1 6 (by decide) (by decide)) hv6 (by omega) rfl rfl (Nat.le_of_ble_eq_true rfl) (c_X11_losing G false 296 σ F g fb nv ns mk va sp lp mc z (xs (i + 1)) (xs (i + 2)) true hv6 hv7 hv12 hv13 hv14 hv15 hv16 hv17 hv18 (by omega) hg9 (by omega) hF12 hF16 hmk hTI hlo) ?_
      rintro _ σ_486 (⟨rfl, Mhno, hc_466, hf_467⟩ | ⟨r1M, i1M, fqM, nvqM, nsqM, mkqM, vaqM, spqM, loqM, mcqM, zqM, rfl, Mhre, Mhrl, Mhie, Mhil, MhTI, Mhmc, Mhmk, Mhlo, hc_468, hc_469, hc_470, hc_471, hc_472, hc_473, hc_474, hc_475, hf_476⟩ | ⟨r1M, fqM, nvqM, nsqM, mkqM, vaqM, spqM, loqM, mcqM, zqM, rfl, Mhre, Mhrl, Mhni, MhTI, Mhmc, Mhmk, Mhlo, hc_477, hc_478, hc_479, hc_480, hc_481, hc_482, hc_483, hc_484, hf_485⟩)
      · skip
        refine (?_ : AJ G K Q (kc + 1) (ks + 6) false 296 1331 [some (.ref bS), some (.ref (q_h G + 0)), some (.ref (q_h G + 279)), some (.ref (q_h G + 294)), some (.ref (q_h G + 295)), some (.int (nI (i))), some (.int (nI (1))), none, none] [.int (nI (0))] σ_486)
        have hc_466 : σ_486 279 = o11 G (upd F 7 (nI (1))) := hc_466
        have hc_487 : σ_486 0 = o10 G (nI (il)) (z2) (z3) := (hf_467 0 (by decide)).trans hv0
        have hc_488 : σ_486 1 = q_an G 600 f := (hf_467 1 (by decide)).trans hv1
        have hc_489 : σ_486 23 = o5 G (23) (nI (lo)) := (hf_467 23 (by decide)).trans hv2
        have hc_490 : σ_486 24 = q_an G 256 o := (hf_467 24 (by decide)).trans hv3
        have hc_491 : σ_486 224 = q_rn G 2 2 (fun j => some (243 + 18 * j)) := (hf_467 224 (by decide)).trans hv4
        have hc_492 : σ_486 225 = q_bn G 2 kp := (hf_467 225 (by decide)).trans hv5
        have hc_493 : σ_486 280 = q_an G 265 g := (hf_467 280 (by decide)).trans hv7
        have hc_494 : σ_486 281 = q_an G 265 wk := (hf_467 281 (by decide)).trans hv8
        have hc_495 : σ_486 282 = q_an G 265 as := (hf_467 282 (by decide)).trans hv9
        have hc_496 : σ_486 283 = q_an G 530 sh := (hf_467 283 (by decide)).trans hv10
        have hc_497 : σ_486 284 = q_an G 2120 a := (hf_467 284 (by decide)).trans hv11
        have hc_498 : σ_486 285 = q_bn G 1681 fb := (hf_467 285 (by decide)).trans hv12
        have hc_499 : σ_486 286 = q_an G 1681 nv := (hf_467 286 (by decide)).trans hv13
        have hc_500 : σ_486 287 = q_an G 1681 ns := (hf_467 287 (by decide)).trans hv14
        have hc_501 : σ_486 288 = q_an G 2000 mk := (hf_467 288 (by decide)).trans hv15
        have hc_502 : σ_486 289 = q_an G 6724 va := (hf_467 289 (by decide)).trans hv16
        have hc_503 : σ_486 290 = q_an G 6724 sp := (hf_467 290 (by decide)).trans hv17
        have hc_504 : σ_486 291 = q_an G 80 lp := (hf_467 291 (by decide)).trans hv18
        have hc_505 : σ_486 292 = q_an G 600 f := (hf_467 292 (by decide)).trans hv19
        have hc_506 : σ_486 293 = q_an G 300 ou := (hf_467 293 (by decide)).trans hv20
        have hc_507 : σ_486 294 = q_ln G 1 oL := (hf_467 294 (by decide)).trans hv21
        have hc_508 : σ_486 295 = q_dn G 1 oD := (hf_467 295 (by decide)).trans hv22
        refine A_istore hg dL_law_1331 (by decide) (q_c1d rfl) ?_
        refine A_eq (ls2 := [some (.ref bS), some (.ref (q_h G + 0)), some (.ref (q_h G + 279)), some (.ref (q_h G + 294)), some (.ref (q_h G + 295)), some (.int (nI (i))), some (.int (nI (1))), some (.int (nI (0))), none]) (st2 := []) (pc2 := 0) rfl rfl ?_
        refine A_aload_n hg dL_law_1333 rfl rfl ?_
        refine A_eV (kc2 := kc + 1) (ks2 := ks + 6) (As := []) (rest := []) hg lk_RL_170 in_X11_thrown se_X11_thrown rfl dL_law_1334 ⟨by decide, by decide⟩ rfl rfl (hfK 1 6 (by decide) (by decide)) hc_466 (by omega) rfl rfl (Nat.le_of_ble_eq_true rfl) (c_X11_thrown G false 296 σ_486 (upd F 7 (nI (1))) hc_466 (by omega)) ?_
        refine A_top (w := .int (nI (1))) (congrArg Value.int rfl) ?_
        refine A_iload hg dL_law_1337 rfl ?_
        refine A_icmp_eqN (tgt := 1344) hg dL_law_1339 (by decide) (by decide) (by decide) (fun c1339 => ?_) (fun c1339 => False.elim (by omega))
        refine A_iload hg dL_law_1344 rfl ?_
        refine A_if_neN (tgt := 1361) hg dL_law_1346 (by decide) (by decide) (fun c1346 => ?_) (fun c1346 => absurd c1346 (by decide))
        refine A_goto (tgt := 3062) hg dL_law_1361 (by decide) ?_
        refine A_drop 6 ?_
        refine A_drop 7 ?_
        refine A_eq (ls2 := [some (.ref bS), some (.ref (q_h G + 0)), some (.ref (q_h G + 279)), some (.ref (q_h G + 294)), some (.ref (q_h G + 295)), some (.int (nI (i))), none, none, none]) (st2 := []) (pc2 := 0) rfl rfl ?_
        refine A_wide (kc2 := kc + 8) (ks2 := ks + 48) (by omega) (by omega) ?_
        exact hnxt _ (iv_mk il z2 z3 f lo o g nx m ps kp sn (upd F 7 (nI (1))) wk as sh a fb nv ns mk va sp lp mc z ss ou oL oD hc_487 hc_488 hc_489 hc_490 hc_491 hc_492 hc_466 hc_493 hc_494 hc_495 hc_496 hc_497 hc_498 hc_499 hc_500 hc_501 hc_502 hc_503 hc_504 hc_505 hc_506 hc_507 hc_508 (x_lj_e (fun i _ _ => (hf_467 i (by omega))) hL) (x_gm_e (fun i _ _ => (hf_467 i (by omega))) hG) (x_mx_e (fun i _ _ => (hf_467 i (by omega))) hM) (x_hi_e (fun i _ _ => (hf_467 i (by omega))) hHi) (x_oj_e (fun i _ _ => (hf_467 i (by omega))) hO) (x_pj_e (fun i _ _ => (hf_467 i (by omega))) hT) (iv_hn (fun i _ _ => (hf_467 i (by omega))) hH) (iv_Sn (fun i _ _ => (hf_467 i (by omega))) hSn) (iv_Kp (fun i _ _ => (hf_467 i (by omega))) hKp) (by omega) hfb (by omega) hou hgd hps hk1 hkss hss hsn hF5 hF6 hF12 hF16 hF21 hF22 hF23 hF33 (by omega) hmk hTI hlo)
      · skip
        refine (?_ : AJ G K Q (kc + 1) (ks + 6) false 296 1331 [some (.ref bS), some (.ref (q_h G + 0)), some (.ref (q_h G + 279)), some (.ref (q_h G + 294)), some (.ref (q_h G + 295)), some (.int (nI (i))), some (.int (nI (1))), none, none] [.int (nI (if true = true then s_lzn (s_rule g r1M) i1M % 41 else s_lzn (s_rule g r1M) i1M / 41))] σ_486)
        have hc_468 : σ_486 279 = o11 G (upd (upd (upd F 7 (nI (0))) 12 (nI (mcqM))) 16 (nI (zqM))) := hc_468
        have hc_509 : σ_486 0 = o10 G (nI (il)) (z2) (z3) := (hf_476 0 (by decide)).trans hv0
        have hc_510 : σ_486 1 = q_an G 600 f := (hf_476 1 (by decide)).trans hv1
        have hc_511 : σ_486 23 = o5 G (23) (nI (lo)) := (hf_476 23 (by decide)).trans hv2
        have hc_512 : σ_486 24 = q_an G 256 o := (hf_476 24 (by decide)).trans hv3
        have hc_513 : σ_486 224 = q_rn G 2 2 (fun j => some (243 + 18 * j)) := (hf_476 224 (by decide)).trans hv4
        have hc_514 : σ_486 225 = q_bn G 2 kp := (hf_476 225 (by decide)).trans hv5
        have hc_515 : σ_486 280 = q_an G 265 g := (hf_476 280 (by decide)).trans hv7
        have hc_516 : σ_486 281 = q_an G 265 wk := (hf_476 281 (by decide)).trans hv8
        have hc_517 : σ_486 282 = q_an G 265 as := (hf_476 282 (by decide)).trans hv9
        have hc_518 : σ_486 283 = q_an G 530 sh := (hf_476 283 (by decide)).trans hv10
        have hc_519 : σ_486 284 = q_an G 2120 a := (hf_476 284 (by decide)).trans hv11
        have hc_520 : σ_486 292 = q_an G 600 f := (hf_476 292 (by decide)).trans hv19
        have hc_521 : σ_486 293 = q_an G 300 ou := (hf_476 293 (by decide)).trans hv20
        have hc_522 : σ_486 294 = q_ln G 1 oL := (hf_476 294 (by decide)).trans hv21
        have hc_523 : σ_486 295 = q_dn G 1 oD := (hf_476 295 (by decide)).trans hv22
        have hlb_i1M := s_lzc_le (s_rule g r1M) 1681
        exact (Chxx r1M (by omega) Mhre).elim
      · skip
        refine (?_ : AJ G K Q (kc + 1) (ks + 6) false 296 1331 [some (.ref bS), some (.ref (q_h G + 0)), some (.ref (q_h G + 279)), some (.ref (q_h G + 294)), some (.ref (q_h G + 295)), some (.int (nI (i))), some (.int (nI (1))), none, none] [.int (q_d (0))] σ_486)
        have hc_477 : σ_486 279 = o11 G (upd (upd (upd F 7 (nI (0))) 12 (nI (mcqM))) 16 (nI (zqM))) := hc_477
        have hc_524 : σ_486 0 = o10 G (nI (il)) (z2) (z3) := (hf_485 0 (by decide)).trans hv0
        have hc_525 : σ_486 1 = q_an G 600 f := (hf_485 1 (by decide)).trans hv1
        have hc_526 : σ_486 23 = o5 G (23) (nI (lo)) := (hf_485 23 (by decide)).trans hv2
        have hc_527 : σ_486 24 = q_an G 256 o := (hf_485 24 (by decide)).trans hv3
        have hc_528 : σ_486 224 = q_rn G 2 2 (fun j => some (243 + 18 * j)) := (hf_485 224 (by decide)).trans hv4
        have hc_529 : σ_486 225 = q_bn G 2 kp := (hf_485 225 (by decide)).trans hv5
        have hc_530 : σ_486 280 = q_an G 265 g := (hf_485 280 (by decide)).trans hv7
        have hc_531 : σ_486 281 = q_an G 265 wk := (hf_485 281 (by decide)).trans hv8
        have hc_532 : σ_486 282 = q_an G 265 as := (hf_485 282 (by decide)).trans hv9
        have hc_533 : σ_486 283 = q_an G 530 sh := (hf_485 283 (by decide)).trans hv10
        have hc_534 : σ_486 284 = q_an G 2120 a := (hf_485 284 (by decide)).trans hv11
        have hc_535 : σ_486 292 = q_an G 600 f := (hf_485 292 (by decide)).trans hv19
        have hc_536 : σ_486 293 = q_an G 300 ou := (hf_485 293 (by decide)).trans hv20
        have hc_537 : σ_486 294 = q_ln G 1 oL := (hf_485 294 (by decide)).trans hv21
        have hc_538 : σ_486 295 = q_dn G 1 oD := (hf_485 295 (by decide)).trans hv22
        exact (Chxx r1M (by omega) Mhre).elim
end
