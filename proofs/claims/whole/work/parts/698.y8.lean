section
set_option maxRecDepth 100000 in
set_option maxHeartbeats 4000000 in
theorem law_c40 (G : GL) (K : KC) (Q : State → Prop) (hh : List (Nat × Nat × Nat × Nat)) (hg : Gd G K RL code 9 ret room_1 hh) (bS L : Nat) (xs : Nat → Int32) (hX : q_scr G K bS L xs) (i kc ks J : Nat) (hi : i + 5 < L) (hL31 : L < 2 ^ 31) (hkc : kc + 8 ≤ 601024) (hks : ks + 48 ≤ 7293034) (σ : Nat → va_E) (hI : iv G σ J) (hJ : J < 512) (hfd : q_fdn) (hdd : q_ddn) (hf2 : q_f2n) (hds : q_dcs) (hnxt : ∀ σ9 : Nat → va_E, iv G σ9 (J + 1) → AJ G K Q (kc + 8) (ks + 48) false 296 3062 [some (.ref bS), some (.ref (q_h G + 0)), some (.ref (q_h G + 279)), some (.ref (q_h G + 294)), some (.ref (q_h G + 295)), some (.int (nI (i))), none, none, none] [] σ9) : AJ G K Q kc ks false 296 2812 [some (.ref bS), some (.ref (q_h G + 0)), some (.ref (q_h G + 279)), some (.ref (q_h G + 294)), some (.ref (q_h G + 295)), some (.int (nI (i))), none, none, none] [] σ := by
  refine iv_el hI ?_
  intro il z2 z3 f lo o g nx m ps kp sn F wk as sh a fb nv ns mk va sp lp mc z ss ou oL oD
  intro hv0 hv1 hv2 hv3 hv4 hv5 hv6 hv7 hv8 hv9 hv10 hv11 hv12 hv13 hv14 hv15 hv16 hv17 hv18 hv19 hv20 hv21 hv22
  intro hL hG hM hHi hO hT hH hSn hKp
  intro hil hfb hlo2 hou hgd hps hk1 hkss hss hsn hF5 hF6 hF12 hF16 hF21 hF22 hF23 hF33 hmc hmk hTI hlo
  have hfK : ∀ a b : Nat, a ≤ 8 → b ≤ 48 → kc + a ≤ room_1.cells ∧ ks + b ≤ room_1.slots := fun a b h1 h2 => ⟨by show kc + a ≤ 601024; omega, by show ks + b ≤ 7293034; omega⟩
  have hg9 := iv_g hG
  obtain ⟨hnx8, hm8, hc78⟩ := iv_hi hHi
  have hbb := iv_byte (m := il) hfb
  have hg90 := hg9.1
  have hg96 := hg9.2.2.2.2.1
  have hnp8 := s_np_le hg9
  refine A_aload_n hg dL_law_2812 rfl rfl ?_
  refine A_aload_n hg dL_law_2813 rfl rfl ?_
  refine A_callSH (As := [.ref (q_h G + 0), .ref (q_h G + 294)]) (rest := []) hg lkH_282 stH_L_undo dL_law_2814 ⟨by decide, by decide⟩ (hfK 1 6 (by decide) (by decide)) rfl rfl (Nat.le_of_ble_eq_true rfl) (c_L_undo G 296 σ (nI (il)) z2 z3 g nx m ps oL hv0 hv21 (by omega) hG hHi (by omega)) ?_
  rintro _ σ_1 (⟨rfl, Chm1, ChG2, ChHi2, hc_2, hf_3⟩ | ⟨rfl, Chxx, he_4⟩)
  · skip
    refine (?_ : AJ G K Q (kc + 1) (ks + 6) false 296 2817 [some (.ref bS), some (.ref (q_h G + 0)), some (.ref (q_h G + 279)), some (.ref (q_h G + 294)), some (.ref (q_h G + 295)), some (.int (nI (i))), none, none, none] [.int (nI (0))] σ_1)
    have hc_5 : σ_1 0 = o10 G (nI (il)) (z2) (z3) := (hf_3 0 (by decide)).trans hv0
    have hc_6 : σ_1 1 = q_an G 600 f := (hf_3 1 (by decide)).trans hv1
    have hc_7 : σ_1 23 = o5 G (23) (nI (lo)) := (hf_3 23 (by decide)).trans hv2
    have hc_8 : σ_1 24 = q_an G 256 o := (hf_3 24 (by decide)).trans hv3
    have hc_9 : σ_1 224 = q_rn G 2 2 (fun j => some (243 + 18 * j)) := (hf_3 224 (by decide)).trans hv4
    have hc_10 : σ_1 225 = q_bn G 2 kp := (hf_3 225 (by decide)).trans hv5
    have hc_11 : σ_1 279 = o11 G F := (hf_3 279 (by decide)).trans hv6
    have hc_12 : σ_1 280 = q_an G 265 g := (hf_3 280 (by decide)).trans hv7
    have hc_13 : σ_1 281 = q_an G 265 wk := (hf_3 281 (by decide)).trans hv8
    have hc_14 : σ_1 282 = q_an G 265 as := (hf_3 282 (by decide)).trans hv9
    have hc_15 : σ_1 283 = q_an G 530 sh := (hf_3 283 (by decide)).trans hv10
    have hc_16 : σ_1 284 = q_an G 2120 a := (hf_3 284 (by decide)).trans hv11
    have hc_17 : σ_1 285 = q_bn G 1681 fb := (hf_3 285 (by decide)).trans hv12
    have hc_18 : σ_1 286 = q_an G 1681 nv := (hf_3 286 (by decide)).trans hv13
    have hc_19 : σ_1 287 = q_an G 1681 ns := (hf_3 287 (by decide)).trans hv14
    have hc_20 : σ_1 288 = q_an G 2000 mk := (hf_3 288 (by decide)).trans hv15
    have hc_21 : σ_1 289 = q_an G 6724 va := (hf_3 289 (by decide)).trans hv16
    have hc_22 : σ_1 290 = q_an G 6724 sp := (hf_3 290 (by decide)).trans hv17
    have hc_23 : σ_1 291 = q_an G 80 lp := (hf_3 291 (by decide)).trans hv18
    have hc_24 : σ_1 292 = q_an G 600 f := (hf_3 292 (by decide)).trans hv19
    have hc_25 : σ_1 293 = q_an G 300 ou := (hf_3 293 (by decide)).trans hv20
    have hc_26 : σ_1 295 = q_dn G 1 oD := (hf_3 295 (by decide)).trans hv22
    refine A_istore hg dL_law_2817 (by decide) (q_c1d rfl) ?_
    refine A_eq (ls2 := [some (.ref bS), some (.ref (q_h G + 0)), some (.ref (q_h G + 279)), some (.ref (q_h G + 294)), some (.ref (q_h G + 295)), some (.int (nI (i))), some (.int (nI (0))), none, none]) (st2 := []) (pc2 := 0) rfl rfl ?_
    refine A_aload_n hg dL_law_2819 rfl rfl ?_
    refine A_hV (kc2 := kc + 1) (ks2 := ks + 6) (As := []) (rest := []) hg lk_RL_285 in_X11_undo se_X11_undo rfl dL_law_2820 ⟨by decide, by decide⟩ rfl rfl (hfK 1 6 (by decide) (by decide)) hc_11 (by omega) rfl rfl (Nat.le_of_ble_eq_true rfl) (c_X11_undo G false 296 σ_1 F g a m hc_11 hc_12 hc_16 (by omega) hF5 (by omega)) ?_
    rintro _ σ_32 (⟨rfl, Mhm0, hc_27, hf_28⟩ | ⟨rfl, Mhm1, hc_29, hc_30, hf_31⟩)
    · skip
      refine (?_ : AJ G K Q (kc + 1) (ks + 6) false 296 2823 [some (.ref bS), some (.ref (q_h G + 0)), some (.ref (q_h G + 279)), some (.ref (q_h G + 294)), some (.ref (q_h G + 295)), some (.int (nI (i))), some (.int (nI (0))), none, none] [.int (nI (0))] σ_32)
      have hc_27 : σ_32 279 = o11 G (upd F 7 (nI (1))) := hc_27
      have hc_33 : σ_32 0 = o10 G (nI (il)) (z2) (z3) := (hf_28 0 (by decide)).trans hc_5
      have hc_34 : σ_32 1 = q_an G 600 f := (hf_28 1 (by decide)).trans hc_6
      have hc_35 : σ_32 23 = o5 G (23) (nI (lo)) := (hf_28 23 (by decide)).trans hc_7
      have hc_36 : σ_32 24 = q_an G 256 o := (hf_28 24 (by decide)).trans hc_8
      have hc_37 : σ_32 224 = q_rn G 2 2 (fun j => some (243 + 18 * j)) := (hf_28 224 (by decide)).trans hc_9
      have hc_38 : σ_32 225 = q_bn G 2 kp := (hf_28 225 (by decide)).trans hc_10
      have hc_39 : σ_32 280 = q_an G 265 g := (hf_28 280 (by decide)).trans hc_12
      have hc_40 : σ_32 281 = q_an G 265 wk := (hf_28 281 (by decide)).trans hc_13
      have hc_41 : σ_32 282 = q_an G 265 as := (hf_28 282 (by decide)).trans hc_14
      have hc_42 : σ_32 283 = q_an G 530 sh := (hf_28 283 (by decide)).trans hc_15
      have hc_43 : σ_32 284 = q_an G 2120 a := (hf_28 284 (by decide)).trans hc_16
      have hc_44 : σ_32 285 = q_bn G 1681 fb := (hf_28 285 (by decide)).trans hc_17
      have hc_45 : σ_32 286 = q_an G 1681 nv := (hf_28 286 (by decide)).trans hc_18
      have hc_46 : σ_32 287 = q_an G 1681 ns := (hf_28 287 (by decide)).trans hc_19
      have hc_47 : σ_32 288 = q_an G 2000 mk := (hf_28 288 (by decide)).trans hc_20
      have hc_48 : σ_32 289 = q_an G 6724 va := (hf_28 289 (by decide)).trans hc_21
      have hc_49 : σ_32 290 = q_an G 6724 sp := (hf_28 290 (by decide)).trans hc_22
      have hc_50 : σ_32 291 = q_an G 80 lp := (hf_28 291 (by decide)).trans hc_23
      have hc_51 : σ_32 292 = q_an G 600 f := (hf_28 292 (by decide)).trans hc_24
      have hc_52 : σ_32 293 = q_an G 300 ou := (hf_28 293 (by decide)).trans hc_25
      have hc_53 : σ_32 295 = q_dn G 1 oD := (hf_28 295 (by decide)).trans hc_26
      have hc_54 : σ_32 294 = q_ln G 1 (va_up oL 0 ((nI (m - 1)).toInt64)) := (hf_28 294 (by decide)).trans hc_2
      exact (Chm1 Mhm0).elim
    · skip
      refine (?_ : AJ G K Q (kc + 1) (ks + 6) false 296 2823 [some (.ref bS), some (.ref (q_h G + 0)), some (.ref (q_h G + 279)), some (.ref (q_h G + 294)), some (.ref (q_h G + 295)), some (.int (nI (i))), some (.int (nI (0))), none, none] [.int (nI (m - 1))] σ_32)
      have hc_29 : σ_32 279 = o11 G (upd (upd F 5 (nI (m - 1))) 7 (nI (0))) := hc_29
      have hc_55 : σ_32 0 = o10 G (nI (il)) (z2) (z3) := (hf_31 0 (by decide)).trans hc_5
      have hc_56 : σ_32 1 = q_an G 600 f := (hf_31 1 (by decide)).trans hc_6
      have hc_57 : σ_32 23 = o5 G (23) (nI (lo)) := (hf_31 23 (by decide)).trans hc_7
      have hc_58 : σ_32 24 = q_an G 256 o := (hf_31 24 (by decide)).trans hc_8
      have hc_59 : σ_32 224 = q_rn G 2 2 (fun j => some (243 + 18 * j)) := (hf_31 224 (by decide)).trans hc_9
      have hc_60 : σ_32 225 = q_bn G 2 kp := (hf_31 225 (by decide)).trans hc_10
      have hc_61 : σ_32 281 = q_an G 265 wk := (hf_31 281 (by decide)).trans hc_13
      have hc_62 : σ_32 282 = q_an G 265 as := (hf_31 282 (by decide)).trans hc_14
      have hc_63 : σ_32 283 = q_an G 530 sh := (hf_31 283 (by decide)).trans hc_15
      have hc_64 : σ_32 284 = q_an G 2120 a := (hf_31 284 (by decide)).trans hc_16
      have hc_65 : σ_32 285 = q_bn G 1681 fb := (hf_31 285 (by decide)).trans hc_17
      have hc_66 : σ_32 286 = q_an G 1681 nv := (hf_31 286 (by decide)).trans hc_18
      have hc_67 : σ_32 287 = q_an G 1681 ns := (hf_31 287 (by decide)).trans hc_19
      have hc_68 : σ_32 288 = q_an G 2000 mk := (hf_31 288 (by decide)).trans hc_20
      have hc_69 : σ_32 289 = q_an G 6724 va := (hf_31 289 (by decide)).trans hc_21
      have hc_70 : σ_32 290 = q_an G 6724 sp := (hf_31 290 (by decide)).trans hc_22
      have hc_71 : σ_32 291 = q_an G 80 lp := (hf_31 291 (by decide)).trans hc_23
      have hc_72 : σ_32 292 = q_an G 600 f := (hf_31 292 (by decide)).trans hc_24
      have hc_73 : σ_32 293 = q_an G 300 ou := (hf_31 293 (by decide)).trans hc_25
      have hc_74 : σ_32 295 = q_dn G 1 oD := (hf_31 295 (by decide)).trans hc_26
      have hc_75 : σ_32 294 = q_ln G 1 (va_up oL 0 ((nI (m - 1)).toInt64)) := (hf_31 294 (by decide)).trans hc_2
      refine A_canon (ps (m - 1)) hc_30 (fun jj hj => (hps (m - 1) (by omega)).1 jj hj) (fun σ_76 hc_77 hf_78 => ?_)
      have hc_79 : σ_76 0 = o10 G (nI (il)) (z2) (z3) := (hf_78 0 (by decide)).trans hc_55
      have hc_80 : σ_76 1 = q_an G 600 f := (hf_78 1 (by decide)).trans hc_56
      have hc_81 : σ_76 23 = o5 G (23) (nI (lo)) := (hf_78 23 (by decide)).trans hc_57
      have hc_82 : σ_76 24 = q_an G 256 o := (hf_78 24 (by decide)).trans hc_58
      have hc_83 : σ_76 224 = q_rn G 2 2 (fun j => some (243 + 18 * j)) := (hf_78 224 (by decide)).trans hc_59
      have hc_84 : σ_76 225 = q_bn G 2 kp := (hf_78 225 (by decide)).trans hc_60
      have hc_85 : σ_76 281 = q_an G 265 wk := (hf_78 281 (by decide)).trans hc_61
      have hc_86 : σ_76 282 = q_an G 265 as := (hf_78 282 (by decide)).trans hc_62
      have hc_87 : σ_76 283 = q_an G 530 sh := (hf_78 283 (by decide)).trans hc_63
      have hc_88 : σ_76 284 = q_an G 2120 a := (hf_78 284 (by decide)).trans hc_64
      have hc_89 : σ_76 285 = q_bn G 1681 fb := (hf_78 285 (by decide)).trans hc_65
      have hc_90 : σ_76 286 = q_an G 1681 nv := (hf_78 286 (by decide)).trans hc_66
      have hc_91 : σ_76 287 = q_an G 1681 ns := (hf_78 287 (by decide)).trans hc_67
      have hc_92 : σ_76 288 = q_an G 2000 mk := (hf_78 288 (by decide)).trans hc_68
      have hc_93 : σ_76 289 = q_an G 6724 va := (hf_78 289 (by decide)).trans hc_69
      have hc_94 : σ_76 290 = q_an G 6724 sp := (hf_78 290 (by decide)).trans hc_70
      have hc_95 : σ_76 291 = q_an G 80 lp := (hf_78 291 (by decide)).trans hc_71
      have hc_96 : σ_76 292 = q_an G 600 f := (hf_78 292 (by decide)).trans hc_72
      have hc_97 : σ_76 293 = q_an G 300 ou := (hf_78 293 (by decide)).trans hc_73
      have hc_98 : σ_76 295 = q_dn G 1 oD := (hf_78 295 (by decide)).trans hc_74
      have hc_99 : σ_76 294 = q_ln G 1 (va_up oL 0 ((nI (m - 1)).toInt64)) := (hf_78 294 (by decide)).trans hc_75
      have hc_100 : σ_76 279 = o11 G (upd (upd F 5 (nI (m - 1))) 7 (nI (0))) := (hf_78 279 (by decide)).trans hc_29
      refine A_istore hg dL_law_2823 (by decide) (q_c1d rfl) ?_
      refine A_eq (ls2 := [some (.ref bS), some (.ref (q_h G + 0)), some (.ref (q_h G + 279)), some (.ref (q_h G + 294)), some (.ref (q_h G + 295)), some (.int (nI (i))), some (.int (nI (0))), some (.int (nI (m - 1))), none]) (st2 := []) (pc2 := 0) rfl rfl ?_
      refine A_aload_n hg dL_law_2825 rfl rfl ?_
      refine A_eV (kc2 := kc + 1) (ks2 := ks + 6) (As := []) (rest := []) hg lk_RL_170 in_X11_thrown se_X11_thrown rfl dL_law_2826 ⟨by decide, by decide⟩ rfl rfl (hfK 1 6 (by decide) (by decide)) hc_100 (by omega) rfl rfl (Nat.le_of_ble_eq_true rfl) (c_X11_thrown G false 296 σ_76 (upd (upd F 5 (nI (m - 1))) 7 (nI (0))) hc_100 (by omega)) ?_
      refine A_top (w := .int (nI (0))) (congrArg Value.int rfl) ?_
      refine A_iload hg dL_law_2829 rfl ?_
      refine A_icmp_eqN (tgt := 2836) hg dL_law_2831 (by decide) (by decide) (by decide) (fun c2831 => ?_) (fun c2831 => False.elim (by omega))
      refine A_iload hg dL_law_2836 rfl ?_
      refine A_if_neN (tgt := 2853) hg dL_law_2838 (by decide) (by decide) (fun c2838 => absurd (by decide) c2838) (fun c2838 => ?_)
      refine A_aload_n hg dL_law_2841 rfl rfl ?_
      refine A_iconst (v := (nI (0))) hg dL_law_2842 (by decide) ?_
      refine A_lald (j := 0) hg dL_law_2843 hc_99 (by omega) (by decide) (by decide) ?_
      refine A_top (w := .long ((nI (m - 1)).toInt64)) (congrArg Value.long iv_up0) ?_
      refine A_iload hg dL_law_2844 rfl ?_
      refine A_i2l (v := (nI (m - 1)).toInt64) hg dL_law_2846 rfl ?_
      refine A_lcmp hg dL_law_2847 ?_
      refine A_top (w := .int (nI 0)) (congrArg Value.int (lc_self _)) ?_
      refine A_if_eqN (tgt := 2853) hg dL_law_2848 (by decide) (by decide) (fun c2848 => ?_) (fun c2848 => absurd (by decide) c2848)
      refine A_goto (tgt := 3062) hg dL_law_2853 (by decide) ?_
      refine A_drop 6 ?_
      refine A_drop 7 ?_
      refine A_eq (ls2 := [some (.ref bS), some (.ref (q_h G + 0)), some (.ref (q_h G + 279)), some (.ref (q_h G + 294)), some (.ref (q_h G + 295)), some (.int (nI (i))), none, none, none]) (st2 := []) (pc2 := 0) rfl rfl ?_
      refine A_wide (kc2 := kc + 8) (ks2 := ks + 48) (by omega) (by omega) ?_
      exact hnxt _ (iv_mk il z2 z3 f lo o (ps (m - 1)) ((nx + 8 - 1) % 8) (m - 1) ps kp sn (upd (upd F 5 (nI (m - 1))) 7 (nI (0))) wk as sh a fb nv ns mk va sp lp mc z ss ou (va_up oL 0 ((nI (m - 1)).toInt64)) oD hc_79 hc_80 hc_81 hc_82 hc_83 hc_84 hc_100 hc_77 hc_85 hc_86 hc_87 hc_88 hc_89 hc_90 hc_91 hc_92 hc_93 hc_94 hc_95 hc_96 hc_97 hc_99 hc_98 (x_lj_e (fun i _ _ => ((hf_78 i (by omega)).trans ((hf_31 i (by omega)).trans (hf_3 i (by omega))))) hL) (x_gm_e (fun i _ _ => ((hf_78 i (by omega)).trans (hf_31 i (by omega)))) ChG2) (x_mx_e (fun i _ _ => ((hf_78 i (by omega)).trans ((hf_31 i (by omega)).trans (hf_3 i (by omega))))) hM) (x_hi_e (fun i _ _ => ((hf_78 i (by omega)).trans (hf_31 i (by omega)))) ChHi2) (x_oj_e (fun i _ _ => ((hf_78 i (by omega)).trans ((hf_31 i (by omega)).trans (hf_3 i (by omega))))) hO) (x_pj_e (fun i _ _ => ((hf_78 i (by omega)).trans ((hf_31 i (by omega)).trans (hf_3 i (by omega))))) hT) (iv_hn (fun i _ _ => ((hf_78 i (by omega)).trans ((hf_31 i (by omega)).trans (hf_3 i (by omega))))) hH) (iv_Sn (fun i _ _ => ((hf_78 i (by omega)).trans ((hf_31 i (by omega)).trans (hf_3 i (by omega))))) hSn) (iv_Kp (fun i _ _ => ((hf_78 i (by omega)).trans ((hf_31 i (by omega)).trans (hf_3 i (by omega))))) hKp) (by omega) hfb (by omega) hou ((hps (m - 1) (by omega)).2) (fun q hq => hps q (by omega)) hk1 hkss hss hsn rfl hF6 hF12 hF16 hF21 hF22 hF23 hF33 (by omega) hmk hTI hlo)
  · skip
    rw [he_4]
    refine (?_ : AJ G K Q (kc + 1) (ks + 6) false 296 2817 [some (.ref bS), some (.ref (q_h G + 0)), some (.ref (q_h G + 279)), some (.ref (q_h G + 294)), some (.ref (q_h G + 295)), some (.int (nI (i))), none, none, none] [.int (nI (1))] σ)
    refine A_istore hg dL_law_2817 (by decide) (q_c1d rfl) ?_
    refine A_eq (ls2 := [some (.ref bS), some (.ref (q_h G + 0)), some (.ref (q_h G + 279)), some (.ref (q_h G + 294)), some (.ref (q_h G + 295)), some (.int (nI (i))), some (.int (nI (1))), none, none]) (st2 := []) (pc2 := 0) rfl rfl ?_
    refine A_aload_n hg dL_law_2819 rfl rfl ?_
    refine A_hV (kc2 := kc + 1) (ks2 := ks + 6) (As := []) (rest := []) hg lk_RL_285 in_X11_undo se_X11_undo rfl dL_law_2820 ⟨by decide, by decide⟩ rfl rfl (hfK 1 6 (by decide) (by decide)) hv6 (by omega) rfl rfl (Nat.le_of_ble_eq_true rfl) (c_X11_undo G false 296 σ F g a m hv6 hv7 hv11 (by omega) hF5 (by omega)) ?_
    rintro _ σ_106 (⟨rfl, Mhm0, hc_101, hf_102⟩ | ⟨rfl, Mhm1, hc_103, hc_104, hf_105⟩)
    · skip
      refine (?_ : AJ G K Q (kc + 1) (ks + 6) false 296 2823 [some (.ref bS), some (.ref (q_h G + 0)), some (.ref (q_h G + 279)), some (.ref (q_h G + 294)), some (.ref (q_h G + 295)), some (.int (nI (i))), some (.int (nI (1))), none, none] [.int (nI (0))] σ_106)
      have hc_101 : σ_106 279 = o11 G (upd F 7 (nI (1))) := hc_101
      have hc_107 : σ_106 0 = o10 G (nI (il)) (z2) (z3) := (hf_102 0 (by decide)).trans hv0
      have hc_108 : σ_106 1 = q_an G 600 f := (hf_102 1 (by decide)).trans hv1
      have hc_109 : σ_106 23 = o5 G (23) (nI (lo)) := (hf_102 23 (by decide)).trans hv2
      have hc_110 : σ_106 24 = q_an G 256 o := (hf_102 24 (by decide)).trans hv3
      have hc_111 : σ_106 224 = q_rn G 2 2 (fun j => some (243 + 18 * j)) := (hf_102 224 (by decide)).trans hv4
      have hc_112 : σ_106 225 = q_bn G 2 kp := (hf_102 225 (by decide)).trans hv5
      have hc_113 : σ_106 280 = q_an G 265 g := (hf_102 280 (by decide)).trans hv7
      have hc_114 : σ_106 281 = q_an G 265 wk := (hf_102 281 (by decide)).trans hv8
      have hc_115 : σ_106 282 = q_an G 265 as := (hf_102 282 (by decide)).trans hv9
      have hc_116 : σ_106 283 = q_an G 530 sh := (hf_102 283 (by decide)).trans hv10
      have hc_117 : σ_106 284 = q_an G 2120 a := (hf_102 284 (by decide)).trans hv11
      have hc_118 : σ_106 285 = q_bn G 1681 fb := (hf_102 285 (by decide)).trans hv12
      have hc_119 : σ_106 286 = q_an G 1681 nv := (hf_102 286 (by decide)).trans hv13
      have hc_120 : σ_106 287 = q_an G 1681 ns := (hf_102 287 (by decide)).trans hv14
      have hc_121 : σ_106 288 = q_an G 2000 mk := (hf_102 288 (by decide)).trans hv15
      have hc_122 : σ_106 289 = q_an G 6724 va := (hf_102 289 (by decide)).trans hv16
      have hc_123 : σ_106 290 = q_an G 6724 sp := (hf_102 290 (by decide)).trans hv17
      have hc_124 : σ_106 291 = q_an G 80 lp := (hf_102 291 (by decide)).trans hv18
      have hc_125 : σ_106 292 = q_an G 600 f := (hf_102 292 (by decide)).trans hv19
      have hc_126 : σ_106 293 = q_an G 300 ou := (hf_102 293 (by decide)).trans hv20
      have hc_127 : σ_106 294 = q_ln G 1 oL := (hf_102 294 (by decide)).trans hv21
      have hc_128 : σ_106 295 = q_dn G 1 oD := (hf_102 295 (by decide)).trans hv22
      refine A_istore hg dL_law_2823 (by decide) (q_c1d rfl) ?_
      refine A_eq (ls2 := [some (.ref bS), some (.ref (q_h G + 0)), some (.ref (q_h G + 279)), some (.ref (q_h G + 294)), some (.ref (q_h G + 295)), some (.int (nI (i))), some (.int (nI (1))), some (.int (nI (0))), none]) (st2 := []) (pc2 := 0) rfl rfl ?_
      refine A_aload_n hg dL_law_2825 rfl rfl ?_
      refine A_eV (kc2 := kc + 1) (ks2 := ks + 6) (As := []) (rest := []) hg lk_RL_170 in_X11_thrown se_X11_thrown rfl dL_law_2826 ⟨by decide, by decide⟩ rfl rfl (hfK 1 6 (by decide) (by decide)) hc_101 (by omega) rfl rfl (Nat.le_of_ble_eq_true rfl) (c_X11_thrown G false 296 σ_106 (upd F 7 (nI (1))) hc_101 (by omega)) ?_
      refine A_top (w := .int (nI (1))) (congrArg Value.int rfl) ?_
      refine A_iload hg dL_law_2829 rfl ?_
      refine A_icmp_eqN (tgt := 2836) hg dL_law_2831 (by decide) (by decide) (by decide) (fun c2831 => ?_) (fun c2831 => False.elim (by omega))
      refine A_iload hg dL_law_2836 rfl ?_
      refine A_if_neN (tgt := 2853) hg dL_law_2838 (by decide) (by decide) (fun c2838 => ?_) (fun c2838 => absurd c2838 (by decide))
      refine A_goto (tgt := 3062) hg dL_law_2853 (by decide) ?_
      refine A_drop 6 ?_
      refine A_drop 7 ?_
      refine A_eq (ls2 := [some (.ref bS), some (.ref (q_h G + 0)), some (.ref (q_h G + 279)), some (.ref (q_h G + 294)), some (.ref (q_h G + 295)), some (.int (nI (i))), none, none, none]) (st2 := []) (pc2 := 0) rfl rfl ?_
      refine A_wide (kc2 := kc + 8) (ks2 := ks + 48) (by omega) (by omega) ?_
      exact hnxt _ (iv_mk il z2 z3 f lo o g nx m ps kp sn (upd F 7 (nI (1))) wk as sh a fb nv ns mk va sp lp mc z ss ou oL oD hc_107 hc_108 hc_109 hc_110 hc_111 hc_112 hc_101 hc_113 hc_114 hc_115 hc_116 hc_117 hc_118 hc_119 hc_120 hc_121 hc_122 hc_123 hc_124 hc_125 hc_126 hc_127 hc_128 (x_lj_e (fun i _ _ => (hf_102 i (by omega))) hL) (x_gm_e (fun i _ _ => (hf_102 i (by omega))) hG) (x_mx_e (fun i _ _ => (hf_102 i (by omega))) hM) (x_hi_e (fun i _ _ => (hf_102 i (by omega))) hHi) (x_oj_e (fun i _ _ => (hf_102 i (by omega))) hO) (x_pj_e (fun i _ _ => (hf_102 i (by omega))) hT) (iv_hn (fun i _ _ => (hf_102 i (by omega))) hH) (iv_Sn (fun i _ _ => (hf_102 i (by omega))) hSn) (iv_Kp (fun i _ _ => (hf_102 i (by omega))) hKp) (by omega) hfb (by omega) hou hgd hps hk1 hkss hss hsn hF5 hF6 hF12 hF16 hF21 hF22 hF23 hF33 (by omega) hmk hTI hlo)
    · skip
      refine (?_ : AJ G K Q (kc + 1) (ks + 6) false 296 2823 [some (.ref bS), some (.ref (q_h G + 0)), some (.ref (q_h G + 279)), some (.ref (q_h G + 294)), some (.ref (q_h G + 295)), some (.int (nI (i))), some (.int (nI (1))), none, none] [.int (nI (m - 1))] σ_106)
      have hc_103 : σ_106 279 = o11 G (upd (upd F 5 (nI (m - 1))) 7 (nI (0))) := hc_103
      have hc_129 : σ_106 0 = o10 G (nI (il)) (z2) (z3) := (hf_105 0 (by decide)).trans hv0
      have hc_130 : σ_106 1 = q_an G 600 f := (hf_105 1 (by decide)).trans hv1
      have hc_131 : σ_106 23 = o5 G (23) (nI (lo)) := (hf_105 23 (by decide)).trans hv2
      have hc_132 : σ_106 24 = q_an G 256 o := (hf_105 24 (by decide)).trans hv3
      have hc_133 : σ_106 224 = q_rn G 2 2 (fun j => some (243 + 18 * j)) := (hf_105 224 (by decide)).trans hv4
      have hc_134 : σ_106 225 = q_bn G 2 kp := (hf_105 225 (by decide)).trans hv5
      have hc_135 : σ_106 281 = q_an G 265 wk := (hf_105 281 (by decide)).trans hv8
      have hc_136 : σ_106 282 = q_an G 265 as := (hf_105 282 (by decide)).trans hv9
      have hc_137 : σ_106 283 = q_an G 530 sh := (hf_105 283 (by decide)).trans hv10
      have hc_138 : σ_106 284 = q_an G 2120 a := (hf_105 284 (by decide)).trans hv11
      have hc_139 : σ_106 285 = q_bn G 1681 fb := (hf_105 285 (by decide)).trans hv12
      have hc_140 : σ_106 286 = q_an G 1681 nv := (hf_105 286 (by decide)).trans hv13
      have hc_141 : σ_106 287 = q_an G 1681 ns := (hf_105 287 (by decide)).trans hv14
      have hc_142 : σ_106 288 = q_an G 2000 mk := (hf_105 288 (by decide)).trans hv15
      have hc_143 : σ_106 289 = q_an G 6724 va := (hf_105 289 (by decide)).trans hv16
      have hc_144 : σ_106 290 = q_an G 6724 sp := (hf_105 290 (by decide)).trans hv17
      have hc_145 : σ_106 291 = q_an G 80 lp := (hf_105 291 (by decide)).trans hv18
      have hc_146 : σ_106 292 = q_an G 600 f := (hf_105 292 (by decide)).trans hv19
      have hc_147 : σ_106 293 = q_an G 300 ou := (hf_105 293 (by decide)).trans hv20
      have hc_148 : σ_106 294 = q_ln G 1 oL := (hf_105 294 (by decide)).trans hv21
      have hc_149 : σ_106 295 = q_dn G 1 oD := (hf_105 295 (by decide)).trans hv22
      exact (Mhm1 Chxx).elim
set_option maxRecDepth 100000 in
set_option maxHeartbeats 4000000 in
theorem law_c41 (G : GL) (K : KC) (Q : State → Prop) (hh : List (Nat × Nat × Nat × Nat)) (hg : Gd G K RL code 9 ret room_1 hh) (bS L : Nat) (xs : Nat → Int32) (hX : q_scr G K bS L xs) (i kc ks J : Nat) (hi : i + 5 < L) (hL31 : L < 2 ^ 31) (hkc : kc + 8 ≤ 601024) (hks : ks + 48 ≤ 7293034) (σ : Nat → va_E) (hI : iv G σ J) (hJ : J < 512) (hfd : q_fdn) (hdd : q_ddn) (hf2 : q_f2n) (hds : q_dcs) (hnxt : ∀ σ9 : Nat → va_E, iv G σ9 (J + 1) → AJ G K Q (kc + 8) (ks + 48) false 296 3062 [some (.ref bS), some (.ref (q_h G + 0)), some (.ref (q_h G + 279)), some (.ref (q_h G + 294)), some (.ref (q_h G + 295)), some (.int (nI (i))), none, none, none] [] σ9) : AJ G K Q kc ks false 296 2856 [some (.ref bS), some (.ref (q_h G + 0)), some (.ref (q_h G + 279)), some (.ref (q_h G + 294)), some (.ref (q_h G + 295)), some (.int (nI (i))), none, none, none] [] σ := by
  refine iv_el hI ?_
  intro il z2 z3 f lo o g nx m ps kp sn F wk as sh a fb nv ns mk va sp lp mc z ss ou oL oD
  intro hv0 hv1 hv2 hv3 hv4 hv5 hv6 hv7 hv8 hv9 hv10 hv11 hv12 hv13 hv14 hv15 hv16 hv17 hv18 hv19 hv20 hv21 hv22
  intro hL hG hM hHi hO hT hH hSn hKp
  intro hil hfb hlo2 hou hgd hps hk1 hkss hss hsn hF5 hF6 hF12 hF16 hF21 hF22 hF23 hF33 hmc hmk hTI hlo
  have hfK : ∀ a b : Nat, a ≤ 8 → b ≤ 48 → kc + a ≤ room_1.cells ∧ ks + b ≤ room_1.slots := fun a b h1 h2 => ⟨by show kc + a ≤ 601024; omega, by show ks + b ≤ 7293034; omega⟩
  have hg9 := iv_g hG
  obtain ⟨hnx8, hm8, hc78⟩ := iv_hi hHi
  have hbb := iv_byte (m := il) hfb
  have hg90 := hg9.1
  have hg96 := hg9.2.2.2.2.1
  have hnp8 := s_np_le hg9
  refine A_aload_n hg dL_law_2856 rfl rfl ?_
  refine A_hV (kc2 := kc + 0) (ks2 := ks + 0) (As := []) (rest := []) hg lk_RL_286 in_X10_printParts se_X10_printParts rfl dL_law_2857 ⟨by decide, by decide⟩ rfl rfl (hfK 0 0 (by decide) (by decide)) hv0 (by omega) rfl rfl (Nat.le_of_ble_eq_true rfl) (c_X10_printParts G false 296 σ (nI (il)) z2 z3 (nI (lo)) o g hv0 hv2 hv3 (by omega) hG) ?_
  rintro _ σ_4 ⟨oqC, rfl, ChO, Chlen, hc_1, hc_2, hf_3⟩
  refine (?_ : AJ G K Q (kc + 0) (ks + 0) false 296 2860 [some (.ref bS), some (.ref (q_h G + 0)), some (.ref (q_h G + 279)), some (.ref (q_h G + 294)), some (.ref (q_h G + 295)), some (.int (nI (i))), none, none, none] [.int (nI ((s_prk g (s_np g)).length))] σ_4)
  have hc_5 : σ_4 0 = o10 G (nI (il)) (z2) (z3) := (hf_3 0 (by decide)).trans hv0
  have hc_6 : σ_4 1 = q_an G 600 f := (hf_3 1 (by decide)).trans hv1
  have hc_7 : σ_4 224 = q_rn G 2 2 (fun j => some (243 + 18 * j)) := (hf_3 224 (by decide)).trans hv4
  have hc_8 : σ_4 225 = q_bn G 2 kp := (hf_3 225 (by decide)).trans hv5
  have hc_9 : σ_4 279 = o11 G F := (hf_3 279 (by decide)).trans hv6
  have hc_10 : σ_4 280 = q_an G 265 g := (hf_3 280 (by decide)).trans hv7
  have hc_11 : σ_4 281 = q_an G 265 wk := (hf_3 281 (by decide)).trans hv8
  have hc_12 : σ_4 282 = q_an G 265 as := (hf_3 282 (by decide)).trans hv9
  have hc_13 : σ_4 283 = q_an G 530 sh := (hf_3 283 (by decide)).trans hv10
  have hc_14 : σ_4 284 = q_an G 2120 a := (hf_3 284 (by decide)).trans hv11
  have hc_15 : σ_4 285 = q_bn G 1681 fb := (hf_3 285 (by decide)).trans hv12
  have hc_16 : σ_4 286 = q_an G 1681 nv := (hf_3 286 (by decide)).trans hv13
  have hc_17 : σ_4 287 = q_an G 1681 ns := (hf_3 287 (by decide)).trans hv14
  have hc_18 : σ_4 288 = q_an G 2000 mk := (hf_3 288 (by decide)).trans hv15
  have hc_19 : σ_4 289 = q_an G 6724 va := (hf_3 289 (by decide)).trans hv16
  have hc_20 : σ_4 290 = q_an G 6724 sp := (hf_3 290 (by decide)).trans hv17
  have hc_21 : σ_4 291 = q_an G 80 lp := (hf_3 291 (by decide)).trans hv18
  have hc_22 : σ_4 292 = q_an G 600 f := (hf_3 292 (by decide)).trans hv19
  have hc_23 : σ_4 293 = q_an G 300 ou := (hf_3 293 (by decide)).trans hv20
  have hc_24 : σ_4 294 = q_ln G 1 oL := (hf_3 294 (by decide)).trans hv21
  have hc_25 : σ_4 295 = q_dn G 1 oD := (hf_3 295 (by decide)).trans hv22
  refine A_aload_n hg dL_law_2860 rfl rfl ?_
  refine A_hV (kc2 := kc + 0) (ks2 := ks + 0) (As := []) (rest := [.int (nI ((s_prk g (s_np g)).length))]) hg lk_RL_289 in_X11_printParts se_X11_printParts rfl dL_law_2861 ⟨by decide, by decide⟩ rfl rfl (hfK 0 0 (by decide) (by decide)) hc_9 (by omega) rfl rfl (Nat.le_of_ble_eq_true rfl) (c_X11_printParts G false 296 σ_4 F g ou hc_9 hc_10 hc_23 (by omega) hg9) ?_
  rintro _ σ_29 ⟨oqM, rfl, MhO, Mhlen, hc_26, hc_27, hf_28⟩
  refine (?_ : AJ G K Q (kc + 0) (ks + 0) false 296 2864 [some (.ref bS), some (.ref (q_h G + 0)), some (.ref (q_h G + 279)), some (.ref (q_h G + 294)), some (.ref (q_h G + 295)), some (.int (nI (i))), none, none, none] [.int (nI ((s_prk g (s_np g)).length)), .int (nI ((s_prk g (s_np g)).length))] σ_29)
  have hc_26 : σ_29 279 = o11 G (upd (upd F 7 (nI (0))) 33 (nI ((s_prk g (s_np g)).length))) := hc_26
  have hc_30 : σ_29 0 = o10 G (nI (il)) (z2) (z3) := (hf_28 0 (by decide)).trans hc_5
  have hc_31 : σ_29 1 = q_an G 600 f := (hf_28 1 (by decide)).trans hc_6
  have hc_32 : σ_29 224 = q_rn G 2 2 (fun j => some (243 + 18 * j)) := (hf_28 224 (by decide)).trans hc_7
  have hc_33 : σ_29 225 = q_bn G 2 kp := (hf_28 225 (by decide)).trans hc_8
  have hc_34 : σ_29 280 = q_an G 265 g := (hf_28 280 (by decide)).trans hc_10
  have hc_35 : σ_29 281 = q_an G 265 wk := (hf_28 281 (by decide)).trans hc_11
  have hc_36 : σ_29 282 = q_an G 265 as := (hf_28 282 (by decide)).trans hc_12
  have hc_37 : σ_29 283 = q_an G 530 sh := (hf_28 283 (by decide)).trans hc_13
  have hc_38 : σ_29 284 = q_an G 2120 a := (hf_28 284 (by decide)).trans hc_14
  have hc_39 : σ_29 285 = q_bn G 1681 fb := (hf_28 285 (by decide)).trans hc_15
  have hc_40 : σ_29 286 = q_an G 1681 nv := (hf_28 286 (by decide)).trans hc_16
  have hc_41 : σ_29 287 = q_an G 1681 ns := (hf_28 287 (by decide)).trans hc_17
  have hc_42 : σ_29 288 = q_an G 2000 mk := (hf_28 288 (by decide)).trans hc_18
  have hc_43 : σ_29 289 = q_an G 6724 va := (hf_28 289 (by decide)).trans hc_19
  have hc_44 : σ_29 290 = q_an G 6724 sp := (hf_28 290 (by decide)).trans hc_20
  have hc_45 : σ_29 291 = q_an G 80 lp := (hf_28 291 (by decide)).trans hc_21
  have hc_46 : σ_29 292 = q_an G 600 f := (hf_28 292 (by decide)).trans hc_22
  have hc_47 : σ_29 294 = q_ln G 1 oL := (hf_28 294 (by decide)).trans hc_24
  have hc_48 : σ_29 295 = q_dn G 1 oD := (hf_28 295 (by decide)).trans hc_25
  have hc_49 : σ_29 23 = o5 G (23) (nI ((s_prk g (s_np g)).length)) := (hf_28 23 (by decide)).trans hc_1
  have hc_50 : σ_29 24 = q_an G 256 oqC := (hf_28 24 (by decide)).trans hc_2
  refine A_icmp_eq (tgt := 3062) hg dL_law_2864 (by decide) (fun _ => ?_) (fun z9 => absurd rfl z9)
  refine A_eq (ls2 := [some (.ref bS), some (.ref (q_h G + 0)), some (.ref (q_h G + 279)), some (.ref (q_h G + 294)), some (.ref (q_h G + 295)), some (.int (nI (i))), none, none, none]) (st2 := []) (pc2 := 0) rfl rfl ?_
  refine A_wide (kc2 := kc + 8) (ks2 := ks + 48) (by omega) (by omega) ?_
  exact hnxt _ (iv_mk il z2 z3 f ((s_prk g (s_np g)).length) oqC g nx m ps kp sn (upd (upd F 7 (nI (0))) 33 (nI ((s_prk g (s_np g)).length))) wk as sh a fb nv ns mk va sp lp mc z ss oqM oL oD hc_30 hc_31 hc_49 hc_50 hc_32 hc_33 hc_26 hc_34 hc_35 hc_36 hc_37 hc_38 hc_39 hc_40 hc_41 hc_42 hc_43 hc_44 hc_45 hc_46 hc_27 hc_47 hc_48 (x_lj_e (fun i _ _ => ((hf_28 i (by omega)).trans (hf_3 i (by omega)))) hL) (x_gm_e (fun i _ _ => ((hf_28 i (by omega)).trans (hf_3 i (by omega)))) hG) (x_mx_e (fun i _ _ => ((hf_28 i (by omega)).trans (hf_3 i (by omega)))) hM) (x_hi_e (fun i _ _ => ((hf_28 i (by omega)).trans (hf_3 i (by omega)))) hHi) (x_oj_e (fun i _ _ => ((hf_28 i (by omega)).trans (hf_3 i (by omega)))) hO) (x_pj_e (fun i _ _ => ((hf_28 i (by omega)).trans (hf_3 i (by omega)))) hT) (iv_hn (fun i _ _ => ((hf_28 i (by omega)).trans (hf_3 i (by omega)))) hH) (iv_Sn (fun i _ _ => ((hf_28 i (by omega)).trans (hf_3 i (by omega)))) hSn) (iv_Kp (fun i _ _ => ((hf_28 i (by omega)).trans (hf_3 i (by omega)))) hKp) (by omega) hfb (by omega) (iv_out (o := o) ChO MhO) hgd hps hk1 hkss hss hsn hF5 hF6 hF12 hF16 hF21 hF22 hF23 rfl (by omega) hmk hTI hlo)
set_option maxRecDepth 100000 in
set_option maxHeartbeats 4000000 in
theorem law_c42 (G : GL) (K : KC) (Q : State → Prop) (hh : List (Nat × Nat × Nat × Nat)) (hg : Gd G K RL code 9 ret room_1 hh) (bS L : Nat) (xs : Nat → Int32) (hX : q_scr G K bS L xs) (i kc ks J : Nat) (hi : i + 5 < L) (hL31 : L < 2 ^ 31) (hkc : kc + 8 ≤ 601024) (hks : ks + 48 ≤ 7293034) (σ : Nat → va_E) (hI : iv G σ J) (hJ : J < 512) (hfd : q_fdn) (hdd : q_ddn) (hf2 : q_f2n) (hds : q_dcs) (hnxt : ∀ σ9 : Nat → va_E, iv G σ9 (J + 1) → AJ G K Q (kc + 8) (ks + 48) false 296 3062 [some (.ref bS), some (.ref (q_h G + 0)), some (.ref (q_h G + 279)), some (.ref (q_h G + 294)), some (.ref (q_h G + 295)), some (.int (nI (i))), none, none, none] [] σ9) : AJ G K Q kc ks false 296 2869 [some (.ref bS), some (.ref (q_h G + 0)), some (.ref (q_h G + 279)), some (.ref (q_h G + 294)), some (.ref (q_h G + 295)), some (.int (nI (i))), none, none, none] [] σ := by
  refine iv_el hI ?_
  intro il z2 z3 f lo o g nx m ps kp sn F wk as sh a fb nv ns mk va sp lp mc z ss ou oL oD
  intro hv0 hv1 hv2 hv3 hv4 hv5 hv6 hv7 hv8 hv9 hv10 hv11 hv12 hv13 hv14 hv15 hv16 hv17 hv18 hv19 hv20 hv21 hv22
  intro hL hG hM hHi hO hT hH hSn hKp
  intro hil hfb hlo2 hou hgd hps hk1 hkss hss hsn hF5 hF6 hF12 hF16 hF21 hF22 hF23 hF33 hmc hmk hTI hlo
  have hfK : ∀ a b : Nat, a ≤ 8 → b ≤ 48 → kc + a ≤ room_1.cells ∧ ks + b ≤ room_1.slots := fun a b h1 h2 => ⟨by show kc + a ≤ 601024; omega, by show ks + b ≤ 7293034; omega⟩
  have hg9 := iv_g hG
  obtain ⟨hnx8, hm8, hc78⟩ := iv_hi hHi
  have hbb := iv_byte (m := il) hfb
  have hg90 := hg9.1
  have hg96 := hg9.2.2.2.2.1
  have hnp8 := s_np_le hg9
  refine A_aload_n hg dL_law_2869 rfl rfl ?_
  refine A_aload_n hg dL_law_2870 rfl rfl ?_
  refine A_iload hg dL_law_2871 rfl ?_
  refine A_iconst (v := (nI (1))) hg dL_law_2873 (by decide) ?_
  refine A_iaddN hg dL_law_2874 ?_
  refine A_sld hg hX (i + 1) (by omega) dL_law_2875 ?_
  refine A_aload_n hg dL_law_2876 rfl rfl ?_
  refine A_callSH (As := [.ref (q_h G + 0), .int (xs (i + 1)), .ref (q_h G + 294)]) (rest := []) hg lkH_290 stH_L_printRule dL_law_2877 ⟨by decide, by decide⟩ (hfK 1 6 (by decide) (by decide)) rfl rfl (Nat.le_of_ble_eq_true rfl) (c_L_printRule G 296 σ (nI (il)) z2 z3 (nI (lo)) o g (xs (i + 1)) oL hv0 hv2 hv3 hv21 (by omega) hG (by omega)) ?_
  rintro _ σ_1 (⟨r1C, oqC, rfl, Chre, Chrl, ChO, Chlen, hc_2, hc_3, hc_4, hf_5⟩ | ⟨rfl, Chxx, he_6⟩)
  · skip
    refine (?_ : AJ G K Q (kc + 1) (ks + 6) false 296 2880 [some (.ref bS), some (.ref (q_h G + 0)), some (.ref (q_h G + 279)), some (.ref (q_h G + 294)), some (.ref (q_h G + 295)), some (.int (nI (i))), none, none, none] [.int (nI (0))] σ_1)
    have hc_7 : σ_1 0 = o10 G (nI (il)) (z2) (z3) := (hf_5 0 (by decide)).trans hv0
    have hc_8 : σ_1 1 = q_an G 600 f := (hf_5 1 (by decide)).trans hv1
    have hc_9 : σ_1 224 = q_rn G 2 2 (fun j => some (243 + 18 * j)) := (hf_5 224 (by decide)).trans hv4
    have hc_10 : σ_1 225 = q_bn G 2 kp := (hf_5 225 (by decide)).trans hv5
    have hc_11 : σ_1 279 = o11 G F := (hf_5 279 (by decide)).trans hv6
    have hc_12 : σ_1 280 = q_an G 265 g := (hf_5 280 (by decide)).trans hv7
    have hc_13 : σ_1 281 = q_an G 265 wk := (hf_5 281 (by decide)).trans hv8
    have hc_14 : σ_1 282 = q_an G 265 as := (hf_5 282 (by decide)).trans hv9
    have hc_15 : σ_1 283 = q_an G 530 sh := (hf_5 283 (by decide)).trans hv10
    have hc_16 : σ_1 284 = q_an G 2120 a := (hf_5 284 (by decide)).trans hv11
    have hc_17 : σ_1 285 = q_bn G 1681 fb := (hf_5 285 (by decide)).trans hv12
    have hc_18 : σ_1 286 = q_an G 1681 nv := (hf_5 286 (by decide)).trans hv13
    have hc_19 : σ_1 287 = q_an G 1681 ns := (hf_5 287 (by decide)).trans hv14
    have hc_20 : σ_1 288 = q_an G 2000 mk := (hf_5 288 (by decide)).trans hv15
    have hc_21 : σ_1 289 = q_an G 6724 va := (hf_5 289 (by decide)).trans hv16
    have hc_22 : σ_1 290 = q_an G 6724 sp := (hf_5 290 (by decide)).trans hv17
    have hc_23 : σ_1 291 = q_an G 80 lp := (hf_5 291 (by decide)).trans hv18
    have hc_24 : σ_1 292 = q_an G 600 f := (hf_5 292 (by decide)).trans hv19
    have hc_25 : σ_1 293 = q_an G 300 ou := (hf_5 293 (by decide)).trans hv20
    have hc_26 : σ_1 295 = q_dn G 1 oD := (hf_5 295 (by decide)).trans hv22
    refine A_istore hg dL_law_2880 (by decide) (q_c1d rfl) ?_
    refine A_eq (ls2 := [some (.ref bS), some (.ref (q_h G + 0)), some (.ref (q_h G + 279)), some (.ref (q_h G + 294)), some (.ref (q_h G + 295)), some (.int (nI (i))), some (.int (nI (0))), none, none]) (st2 := []) (pc2 := 0) rfl rfl ?_
    refine A_aload_n hg dL_law_2882 rfl rfl ?_
    refine A_aload_n hg dL_law_2883 rfl rfl ?_
    refine A_iload hg dL_law_2884 rfl ?_
    refine A_iconst (v := (nI (1))) hg dL_law_2886 (by decide) ?_
    refine A_iaddN hg dL_law_2887 ?_
    refine A_sld hg hX (i + 1) (by omega) dL_law_2888 ?_
    refine A_hV (kc2 := kc + 1) (ks2 := ks + 6) (As := [.int (xs (i + 1))]) (rest := []) hg lk_RL_292 in_X11_printRule se_X11_printRule rfl dL_law_2889 ⟨by decide, by decide⟩ rfl rfl (hfK 1 6 (by decide) (by decide)) hc_11 (by omega) rfl rfl (Nat.le_of_ble_eq_true rfl) (c_X11_printRule G false 296 σ_1 F g ou (xs (i + 1)) hc_11 hc_12 hc_25 (by omega) hg9) ?_
    rintro _ σ_32 (⟨rfl, Mhno, hc_27, hf_28⟩ | ⟨r1M, oqM, rfl, Mhre, Mhrl, MhO, Mhlen, hc_29, hc_30, hf_31⟩)
    · skip
      refine (?_ : AJ G K Q (kc + 1) (ks + 6) false 296 2892 [some (.ref bS), some (.ref (q_h G + 0)), some (.ref (q_h G + 279)), some (.ref (q_h G + 294)), some (.ref (q_h G + 295)), some (.int (nI (i))), some (.int (nI (0))), none, none] [.int (nI (0))] σ_32)
      have hc_27 : σ_32 279 = o11 G (upd F 7 (nI (1))) := hc_27
      have hc_33 : σ_32 0 = o10 G (nI (il)) (z2) (z3) := (hf_28 0 (by decide)).trans hc_7
      have hc_34 : σ_32 1 = q_an G 600 f := (hf_28 1 (by decide)).trans hc_8
      have hc_35 : σ_32 224 = q_rn G 2 2 (fun j => some (243 + 18 * j)) := (hf_28 224 (by decide)).trans hc_9
      have hc_36 : σ_32 225 = q_bn G 2 kp := (hf_28 225 (by decide)).trans hc_10
      have hc_37 : σ_32 280 = q_an G 265 g := (hf_28 280 (by decide)).trans hc_12
      have hc_38 : σ_32 281 = q_an G 265 wk := (hf_28 281 (by decide)).trans hc_13
      have hc_39 : σ_32 282 = q_an G 265 as := (hf_28 282 (by decide)).trans hc_14
      have hc_40 : σ_32 283 = q_an G 530 sh := (hf_28 283 (by decide)).trans hc_15
      have hc_41 : σ_32 284 = q_an G 2120 a := (hf_28 284 (by decide)).trans hc_16
      have hc_42 : σ_32 285 = q_bn G 1681 fb := (hf_28 285 (by decide)).trans hc_17
      have hc_43 : σ_32 286 = q_an G 1681 nv := (hf_28 286 (by decide)).trans hc_18
      have hc_44 : σ_32 287 = q_an G 1681 ns := (hf_28 287 (by decide)).trans hc_19
      have hc_45 : σ_32 288 = q_an G 2000 mk := (hf_28 288 (by decide)).trans hc_20
      have hc_46 : σ_32 289 = q_an G 6724 va := (hf_28 289 (by decide)).trans hc_21
      have hc_47 : σ_32 290 = q_an G 6724 sp := (hf_28 290 (by decide)).trans hc_22
      have hc_48 : σ_32 291 = q_an G 80 lp := (hf_28 291 (by decide)).trans hc_23
      have hc_49 : σ_32 292 = q_an G 600 f := (hf_28 292 (by decide)).trans hc_24
      have hc_50 : σ_32 293 = q_an G 300 ou := (hf_28 293 (by decide)).trans hc_25
      have hc_51 : σ_32 295 = q_dn G 1 oD := (hf_28 295 (by decide)).trans hc_26
      have hc_52 : σ_32 23 = o5 G (23) (nI ((s_prR (s_rule g r1C)).length)) := (hf_28 23 (by decide)).trans hc_2
      have hc_53 : σ_32 24 = q_an G 256 oqC := (hf_28 24 (by decide)).trans hc_3
      have hc_54 : σ_32 294 = q_ln G 1 (va_up oL 0 ((nI ((s_prR (s_rule g r1C)).length)).toInt64)) := (hf_28 294 (by decide)).trans hc_4
      exact (Mhno r1C (by omega) Chre).elim
    · skip
      refine (?_ : AJ G K Q (kc + 1) (ks + 6) false 296 2892 [some (.ref bS), some (.ref (q_h G + 0)), some (.ref (q_h G + 279)), some (.ref (q_h G + 294)), some (.ref (q_h G + 295)), some (.int (nI (i))), some (.int (nI (0))), none, none] [.int (nI ((s_prR (s_rule g r1M)).length))] σ_32)
      have hc_29 : σ_32 279 = o11 G (upd (upd F 7 (nI (0))) 33 (nI ((s_prR (s_rule g r1M)).length))) := hc_29
      have hc_55 : σ_32 0 = o10 G (nI (il)) (z2) (z3) := (hf_31 0 (by decide)).trans hc_7
      have hc_56 : σ_32 1 = q_an G 600 f := (hf_31 1 (by decide)).trans hc_8
      have hc_57 : σ_32 224 = q_rn G 2 2 (fun j => some (243 + 18 * j)) := (hf_31 224 (by decide)).trans hc_9
      have hc_58 : σ_32 225 = q_bn G 2 kp := (hf_31 225 (by decide)).trans hc_10
      have hc_59 : σ_32 280 = q_an G 265 g := (hf_31 280 (by decide)).trans hc_12
      have hc_60 : σ_32 281 = q_an G 265 wk := (hf_31 281 (by decide)).trans hc_13
      have hc_61 : σ_32 282 = q_an G 265 as := (hf_31 282 (by decide)).trans hc_14
      have hc_62 : σ_32 283 = q_an G 530 sh := (hf_31 283 (by decide)).trans hc_15
      have hc_63 : σ_32 284 = q_an G 2120 a := (hf_31 284 (by decide)).trans hc_16
      have hc_64 : σ_32 285 = q_bn G 1681 fb := (hf_31 285 (by decide)).trans hc_17
      have hc_65 : σ_32 286 = q_an G 1681 nv := (hf_31 286 (by decide)).trans hc_18
      have hc_66 : σ_32 287 = q_an G 1681 ns := (hf_31 287 (by decide)).trans hc_19
      have hc_67 : σ_32 288 = q_an G 2000 mk := (hf_31 288 (by decide)).trans hc_20
      have hc_68 : σ_32 289 = q_an G 6724 va := (hf_31 289 (by decide)).trans hc_21
      have hc_69 : σ_32 290 = q_an G 6724 sp := (hf_31 290 (by decide)).trans hc_22
      have hc_70 : σ_32 291 = q_an G 80 lp := (hf_31 291 (by decide)).trans hc_23
      have hc_71 : σ_32 292 = q_an G 600 f := (hf_31 292 (by decide)).trans hc_24
      have hc_72 : σ_32 295 = q_dn G 1 oD := (hf_31 295 (by decide)).trans hc_26
      have hc_73 : σ_32 23 = o5 G (23) (nI ((s_prR (s_rule g r1C)).length)) := (hf_31 23 (by decide)).trans hc_2
      have hc_74 : σ_32 24 = q_an G 256 oqC := (hf_31 24 (by decide)).trans hc_3
      have hc_75 : σ_32 294 = q_ln G 1 (va_up oL 0 ((nI ((s_prR (s_rule g r1C)).length)).toInt64)) := (hf_31 294 (by decide)).trans hc_4
      have e_r : r1C = r1M := q_nI_inj (by omega) (by omega) (Chre.symm.trans Mhre)
      subst e_r
      refine A_istore hg dL_law_2892 (by decide) (q_c1d rfl) ?_
      refine A_eq (ls2 := [some (.ref bS), some (.ref (q_h G + 0)), some (.ref (q_h G + 279)), some (.ref (q_h G + 294)), some (.ref (q_h G + 295)), some (.int (nI (i))), some (.int (nI (0))), some (.int (nI ((s_prR (s_rule g r1C)).length))), none]) (st2 := []) (pc2 := 0) rfl rfl ?_
      refine A_aload_n hg dL_law_2894 rfl rfl ?_
      refine A_eV (kc2 := kc + 1) (ks2 := ks + 6) (As := []) (rest := []) hg lk_RL_170 in_X11_thrown se_X11_thrown rfl dL_law_2895 ⟨by decide, by decide⟩ rfl rfl (hfK 1 6 (by decide) (by decide)) hc_29 (by omega) rfl rfl (Nat.le_of_ble_eq_true rfl) (c_X11_thrown G false 296 σ_32 (upd (upd F 7 (nI (0))) 33 (nI ((s_prR (s_rule g r1C)).length))) hc_29 (by omega)) ?_
      refine A_top (w := .int (nI (0))) (congrArg Value.int rfl) ?_
      refine A_iload hg dL_law_2898 rfl ?_
      refine A_icmp_eqN (tgt := 2905) hg dL_law_2900 (by decide) (by decide) (by decide) (fun c2900 => ?_) (fun c2900 => False.elim (by omega))
      refine A_iload hg dL_law_2905 rfl ?_
      refine A_if_neN (tgt := 2922) hg dL_law_2907 (by decide) (by decide) (fun c2907 => absurd (by decide) c2907) (fun c2907 => ?_)
      refine A_aload_n hg dL_law_2910 rfl rfl ?_
      refine A_iconst (v := (nI (0))) hg dL_law_2911 (by decide) ?_
      refine A_lald (j := 0) hg dL_law_2912 hc_75 (by omega) (by decide) (by decide) ?_
      refine A_top (w := .long ((nI ((s_prR (s_rule g r1C)).length)).toInt64)) (congrArg Value.long iv_up0) ?_
      refine A_iload hg dL_law_2913 rfl ?_
      refine A_i2l (v := (nI ((s_prR (s_rule g r1C)).length)).toInt64) hg dL_law_2915 rfl ?_
      refine A_lcmp hg dL_law_2916 ?_
      refine A_top (w := .int (nI 0)) (congrArg Value.int (lc_self _)) ?_
      refine A_if_eqN (tgt := 2922) hg dL_law_2917 (by decide) (by decide) (fun c2917 => ?_) (fun c2917 => absurd (by decide) c2917)
      refine A_goto (tgt := 3062) hg dL_law_2922 (by decide) ?_
      refine A_drop 6 ?_
      refine A_drop 7 ?_
      refine A_eq (ls2 := [some (.ref bS), some (.ref (q_h G + 0)), some (.ref (q_h G + 279)), some (.ref (q_h G + 294)), some (.ref (q_h G + 295)), some (.int (nI (i))), none, none, none]) (st2 := []) (pc2 := 0) rfl rfl ?_
      refine A_wide (kc2 := kc + 8) (ks2 := ks + 48) (by omega) (by omega) ?_
      exact hnxt _ (iv_mk il z2 z3 f ((s_prR (s_rule g r1C)).length) oqC g nx m ps kp sn (upd (upd F 7 (nI (0))) 33 (nI ((s_prR (s_rule g r1C)).length))) wk as sh a fb nv ns mk va sp lp mc z ss oqM (va_up oL 0 ((nI ((s_prR (s_rule g r1C)).length)).toInt64)) oD hc_55 hc_56 hc_73 hc_74 hc_57 hc_58 hc_29 hc_59 hc_60 hc_61 hc_62 hc_63 hc_64 hc_65 hc_66 hc_67 hc_68 hc_69 hc_70 hc_71 hc_30 hc_75 hc_72 (x_lj_e (fun i _ _ => ((hf_31 i (by omega)).trans (hf_5 i (by omega)))) hL) (x_gm_e (fun i _ _ => ((hf_31 i (by omega)).trans (hf_5 i (by omega)))) hG) (x_mx_e (fun i _ _ => ((hf_31 i (by omega)).trans (hf_5 i (by omega)))) hM) (x_hi_e (fun i _ _ => ((hf_31 i (by omega)).trans (hf_5 i (by omega)))) hHi) (x_oj_e (fun i _ _ => ((hf_31 i (by omega)).trans (hf_5 i (by omega)))) hO) (x_pj_e (fun i _ _ => ((hf_31 i (by omega)).trans (hf_5 i (by omega)))) hT) (iv_hn (fun i _ _ => ((hf_31 i (by omega)).trans (hf_5 i (by omega)))) hH) (iv_Sn (fun i _ _ => ((hf_31 i (by omega)).trans (hf_5 i (by omega)))) hSn) (iv_Kp (fun i _ _ => ((hf_31 i (by omega)).trans (hf_5 i (by omega)))) hKp) (by omega) hfb (by omega) (iv_out (o := o) ChO MhO) hgd hps hk1 hkss hss hsn hF5 hF6 hF12 hF16 hF21 hF22 hF23 rfl (by omega) hmk hTI hlo)
  · skip
    rw [he_6]
    refine (?_ : AJ G K Q (kc + 1) (ks + 6) false 296 2880 [some (.ref bS), some (.ref (q_h G + 0)), some (.ref (q_h G + 279)), some (.ref (q_h G + 294)), some (.ref (q_h G + 295)), some (.int (nI (i))), none, none, none] [.int (nI (1))] σ)
    refine A_istore hg dL_law_2880 (by decide) (q_c1d rfl) ?_
    refine A_eq (ls2 := [some (.ref bS), some (.ref (q_h G + 0)), some (.ref (q_h G + 279)), some (.ref (q_h G + 294)), some (.ref (q_h G + 295)), some (.int (nI (i))), some (.int (nI (1))), none, none]) (st2 := []) (pc2 := 0) rfl rfl ?_
    refine A_aload_n hg dL_law_2882 rfl rfl ?_
    refine A_aload_n hg dL_law_2883 rfl rfl ?_
    refine A_iload hg dL_law_2884 rfl ?_
    refine A_iconst (v := (nI (1))) hg dL_law_2886 (by decide) ?_
    refine A_iaddN hg dL_law_2887 ?_
    refine A_sld hg hX (i + 1) (by omega) dL_law_2888 ?_
    refine A_hV (kc2 := kc + 1) (ks2 := ks + 6) (As := [.int (xs (i + 1))]) (rest := []) hg lk_RL_292 in_X11_printRule se_X11_printRule rfl dL_law_2889 ⟨by decide, by decide⟩ rfl rfl (hfK 1 6 (by decide) (by decide)) hv6 (by omega) rfl rfl (Nat.le_of_ble_eq_true rfl) (c_X11_printRule G false 296 σ F g ou (xs (i + 1)) hv6 hv7 hv20 (by omega) hg9) ?_
    rintro _ σ_81 (⟨rfl, Mhno, hc_76, hf_77⟩ | ⟨r1M, oqM, rfl, Mhre, Mhrl, MhO, Mhlen, hc_78, hc_79, hf_80⟩)
    · skip
      refine (?_ : AJ G K Q (kc + 1) (ks + 6) false 296 2892 [some (.ref bS), some (.ref (q_h G + 0)), some (.ref (q_h G + 279)), some (.ref (q_h G + 294)), some (.ref (q_h G + 295)), some (.int (nI (i))), some (.int (nI (1))), none, none] [.int (nI (0))] σ_81)
      have hc_76 : σ_81 279 = o11 G (upd F 7 (nI (1))) := hc_76
      have hc_82 : σ_81 0 = o10 G (nI (il)) (z2) (z3) := (hf_77 0 (by decide)).trans hv0
      have hc_83 : σ_81 1 = q_an G 600 f := (hf_77 1 (by decide)).trans hv1
      have hc_84 : σ_81 23 = o5 G (23) (nI (lo)) := (hf_77 23 (by decide)).trans hv2
      have hc_85 : σ_81 24 = q_an G 256 o := (hf_77 24 (by decide)).trans hv3
      have hc_86 : σ_81 224 = q_rn G 2 2 (fun j => some (243 + 18 * j)) := (hf_77 224 (by decide)).trans hv4
      have hc_87 : σ_81 225 = q_bn G 2 kp := (hf_77 225 (by decide)).trans hv5
      have hc_88 : σ_81 280 = q_an G 265 g := (hf_77 280 (by decide)).trans hv7
      have hc_89 : σ_81 281 = q_an G 265 wk := (hf_77 281 (by decide)).trans hv8
      have hc_90 : σ_81 282 = q_an G 265 as := (hf_77 282 (by decide)).trans hv9
      have hc_91 : σ_81 283 = q_an G 530 sh := (hf_77 283 (by decide)).trans hv10
      have hc_92 : σ_81 284 = q_an G 2120 a := (hf_77 284 (by decide)).trans hv11
      have hc_93 : σ_81 285 = q_bn G 1681 fb := (hf_77 285 (by decide)).trans hv12
      have hc_94 : σ_81 286 = q_an G 1681 nv := (hf_77 286 (by decide)).trans hv13
      have hc_95 : σ_81 287 = q_an G 1681 ns := (hf_77 287 (by decide)).trans hv14
      have hc_96 : σ_81 288 = q_an G 2000 mk := (hf_77 288 (by decide)).trans hv15
      have hc_97 : σ_81 289 = q_an G 6724 va := (hf_77 289 (by decide)).trans hv16
      have hc_98 : σ_81 290 = q_an G 6724 sp := (hf_77 290 (by decide)).trans hv17
      have hc_99 : σ_81 291 = q_an G 80 lp := (hf_77 291 (by decide)).trans hv18
      have hc_100 : σ_81 292 = q_an G 600 f := (hf_77 292 (by decide)).trans hv19
      have hc_101 : σ_81 293 = q_an G 300 ou := (hf_77 293 (by decide)).trans hv20
      have hc_102 : σ_81 294 = q_ln G 1 oL := (hf_77 294 (by decide)).trans hv21
      have hc_103 : σ_81 295 = q_dn G 1 oD := (hf_77 295 (by decide)).trans hv22
      refine A_istore hg dL_law_2892 (by decide) (q_c1d rfl) ?_
      refine A_eq (ls2 := [some (.ref bS), some (.ref (q_h G + 0)), some (.ref (q_h G + 279)), some (.ref (q_h G + 294)), some (.ref (q_h G + 295)), some (.int (nI (i))), some (.int (nI (1))), some (.int (nI (0))), none]) (st2 := []) (pc2 := 0) rfl rfl ?_
      refine A_aload_n hg dL_law_2894 rfl rfl ?_
      refine A_eV (kc2 := kc + 1) (ks2 := ks + 6) (As := []) (rest := []) hg lk_RL_170 in_X11_thrown se_X11_thrown rfl dL_law_2895 ⟨by decide, by decide⟩ rfl rfl (hfK 1 6 (by decide) (by decide)) hc_76 (by omega) rfl rfl (Nat.le_of_ble_eq_true rfl) (c_X11_thrown G false 296 σ_81 (upd F 7 (nI (1))) hc_76 (by omega)) ?_
      refine A_top (w := .int (nI (1))) (congrArg Value.int rfl) ?_
      refine A_iload hg dL_law_2898 rfl ?_
      refine A_icmp_eqN (tgt := 2905) hg dL_law_2900 (by decide) (by decide) (by decide) (fun c2900 => ?_) (fun c2900 => False.elim (by omega))
      refine A_iload hg dL_law_2905 rfl ?_
      refine A_if_neN (tgt := 2922) hg dL_law_2907 (by decide) (by decide) (fun c2907 => ?_) (fun c2907 => absurd c2907 (by decide))
      refine A_goto (tgt := 3062) hg dL_law_2922 (by decide) ?_
      refine A_drop 6 ?_
      refine A_drop 7 ?_
      refine A_eq (ls2 := [some (.ref bS), some (.ref (q_h G + 0)), some (.ref (q_h G + 279)), some (.ref (q_h G + 294)), some (.ref (q_h G + 295)), some (.int (nI (i))), none, none, none]) (st2 := []) (pc2 := 0) rfl rfl ?_
      refine A_wide (kc2 := kc + 8) (ks2 := ks + 48) (by omega) (by omega) ?_
      exact hnxt _ (iv_mk il z2 z3 f lo o g nx m ps kp sn (upd F 7 (nI (1))) wk as sh a fb nv ns mk va sp lp mc z ss ou oL oD hc_82 hc_83 hc_84 hc_85 hc_86 hc_87 hc_76 hc_88 hc_89 hc_90 hc_91 hc_92 hc_93 hc_94 hc_95 hc_96 hc_97 hc_98 hc_99 hc_100 hc_101 hc_102 hc_103 (x_lj_e (fun i _ _ => (hf_77 i (by omega))) hL) (x_gm_e (fun i _ _ => (hf_77 i (by omega))) hG) (x_mx_e (fun i _ _ => (hf_77 i (by omega))) hM) (x_hi_e (fun i _ _ => (hf_77 i (by omega))) hHi) (x_oj_e (fun i _ _ => (hf_77 i (by omega))) hO) (x_pj_e (fun i _ _ => (hf_77 i (by omega))) hT) (iv_hn (fun i _ _ => (hf_77 i (by omega))) hH) (iv_Sn (fun i _ _ => (hf_77 i (by omega))) hSn) (iv_Kp (fun i _ _ => (hf_77 i (by omega))) hKp) (by omega) hfb (by omega) hou hgd hps hk1 hkss hss hsn hF5 hF6 hF12 hF16 hF21 hF22 hF23 hF33 (by omega) hmk hTI hlo)
    · skip
      refine (?_ : AJ G K Q (kc + 1) (ks + 6) false 296 2892 [some (.ref bS), some (.ref (q_h G + 0)), some (.ref (q_h G + 279)), some (.ref (q_h G + 294)), some (.ref (q_h G + 295)), some (.int (nI (i))), some (.int (nI (1))), none, none] [.int (nI ((s_prR (s_rule g r1M)).length))] σ_81)
      have hc_78 : σ_81 279 = o11 G (upd (upd F 7 (nI (0))) 33 (nI ((s_prR (s_rule g r1M)).length))) := hc_78
      have hc_104 : σ_81 0 = o10 G (nI (il)) (z2) (z3) := (hf_80 0 (by decide)).trans hv0
      have hc_105 : σ_81 1 = q_an G 600 f := (hf_80 1 (by decide)).trans hv1
      have hc_106 : σ_81 23 = o5 G (23) (nI (lo)) := (hf_80 23 (by decide)).trans hv2
      have hc_107 : σ_81 24 = q_an G 256 o := (hf_80 24 (by decide)).trans hv3
      have hc_108 : σ_81 224 = q_rn G 2 2 (fun j => some (243 + 18 * j)) := (hf_80 224 (by decide)).trans hv4
      have hc_109 : σ_81 225 = q_bn G 2 kp := (hf_80 225 (by decide)).trans hv5
      have hc_110 : σ_81 280 = q_an G 265 g := (hf_80 280 (by decide)).trans hv7
      have hc_111 : σ_81 281 = q_an G 265 wk := (hf_80 281 (by decide)).trans hv8
      have hc_112 : σ_81 282 = q_an G 265 as := (hf_80 282 (by decide)).trans hv9
      have hc_113 : σ_81 283 = q_an G 530 sh := (hf_80 283 (by decide)).trans hv10
      have hc_114 : σ_81 284 = q_an G 2120 a := (hf_80 284 (by decide)).trans hv11
      have hc_115 : σ_81 285 = q_bn G 1681 fb := (hf_80 285 (by decide)).trans hv12
      have hc_116 : σ_81 286 = q_an G 1681 nv := (hf_80 286 (by decide)).trans hv13
      have hc_117 : σ_81 287 = q_an G 1681 ns := (hf_80 287 (by decide)).trans hv14
      have hc_118 : σ_81 288 = q_an G 2000 mk := (hf_80 288 (by decide)).trans hv15
      have hc_119 : σ_81 289 = q_an G 6724 va := (hf_80 289 (by decide)).trans hv16
      have hc_120 : σ_81 290 = q_an G 6724 sp := (hf_80 290 (by decide)).trans hv17
      have hc_121 : σ_81 291 = q_an G 80 lp := (hf_80 291 (by decide)).trans hv18
      have hc_122 : σ_81 292 = q_an G 600 f := (hf_80 292 (by decide)).trans hv19
      have hc_123 : σ_81 294 = q_ln G 1 oL := (hf_80 294 (by decide)).trans hv21
      have hc_124 : σ_81 295 = q_dn G 1 oD := (hf_80 295 (by decide)).trans hv22
      exact (Chxx r1M (by omega) Mhre).elim
set_option maxRecDepth 100000 in
set_option maxHeartbeats 4000000 in
theorem law_c43 (G : GL) (K : KC) (Q : State → Prop) (hh : List (Nat × Nat × Nat × Nat)) (hg : Gd G K RL code 9 ret room_1 hh) (bS L : Nat) (xs : Nat → Int32) (hX : q_scr G K bS L xs) (i kc ks J : Nat) (hi : i + 5 < L) (hL31 : L < 2 ^ 31) (hkc : kc + 8 ≤ 601024) (hks : ks + 48 ≤ 7293034) (σ : Nat → va_E) (hI : iv G σ J) (hJ : J < 512) (hfd : q_fdn) (hdd : q_ddn) (hf2 : q_f2n) (hds : q_dcs) (hnxt : ∀ σ9 : Nat → va_E, iv G σ9 (J + 1) → AJ G K Q (kc + 8) (ks + 48) false 296 3062 [some (.ref bS), some (.ref (q_h G + 0)), some (.ref (q_h G + 279)), some (.ref (q_h G + 294)), some (.ref (q_h G + 295)), some (.int (nI (i))), none, none, none] [] σ9) : AJ G K Q kc ks false 296 2925 [some (.ref bS), some (.ref (q_h G + 0)), some (.ref (q_h G + 279)), some (.ref (q_h G + 294)), some (.ref (q_h G + 295)), some (.int (nI (i))), none, none, none] [] σ := by
  refine iv_el hI ?_
  intro il z2 z3 f lo o g nx m ps kp sn F wk as sh a fb nv ns mk va sp lp mc z ss ou oL oD
  intro hv0 hv1 hv2 hv3 hv4 hv5 hv6 hv7 hv8 hv9 hv10 hv11 hv12 hv13 hv14 hv15 hv16 hv17 hv18 hv19 hv20 hv21 hv22
  intro hL hG hM hHi hO hT hH hSn hKp
  intro hil hfb hlo2 hou hgd hps hk1 hkss hss hsn hF5 hF6 hF12 hF16 hF21 hF22 hF23 hF33 hmc hmk hTI hlo
  have hfK : ∀ a b : Nat, a ≤ 8 → b ≤ 48 → kc + a ≤ room_1.cells ∧ ks + b ≤ room_1.slots := fun a b h1 h2 => ⟨by show kc + a ≤ 601024; omega, by show ks + b ≤ 7293034; omega⟩
  have hg9 := iv_g hG
  obtain ⟨hnx8, hm8, hc78⟩ := iv_hi hHi
  have hbb := iv_byte (m := il) hfb
  have hg90 := hg9.1
  have hg96 := hg9.2.2.2.2.1
  have hnp8 := s_np_le hg9
  refine A_aload_n hg dL_law_2925 rfl rfl ?_
  refine A_aload_n hg dL_law_2926 rfl rfl ?_
  refine A_iload hg dL_law_2927 rfl ?_
  refine A_iconst (v := (nI (1))) hg dL_law_2929 (by decide) ?_
  refine A_iaddN hg dL_law_2930 ?_
  refine A_sld hg hX (i + 1) (by omega) dL_law_2931 ?_
  refine A_hV (kc2 := kc + 0) (ks2 := ks + 0) (As := [.int (xs (i + 1))]) (rest := []) hg lk_RL_293 in_X10_outputByte se_X10_outputByte rfl dL_law_2932 ⟨by decide, by decide⟩ rfl rfl (hfK 0 0 (by decide) (by decide)) hv0 (by omega) rfl rfl (Nat.le_of_ble_eq_true rfl) (c_X10_outputByte G false 296 σ (nI (il)) z2 z3 lo o (xs (i + 1)) hv0 hv2 hv3 (by omega) (by omega)) ?_
  rintro _ σ_3 (⟨x1C, rfl, Chxe, Chxl, he_1⟩ | ⟨rfl, Chno, he_2⟩)
  · skip
    rw [he_1]
    refine (?_ : AJ G K Q (kc + 0) (ks + 0) false 296 2935 [some (.ref bS), some (.ref (q_h G + 0)), some (.ref (q_h G + 279)), some (.ref (q_h G + 294)), some (.ref (q_h G + 295)), some (.int (nI (i))), none, none, none] [.int (nI (o x1C))] σ)
    refine A_aload_n hg dL_law_2935 rfl rfl ?_
    refine A_aload_n hg dL_law_2936 rfl rfl ?_
    refine A_iload hg dL_law_2937 rfl ?_
    refine A_iconst (v := (nI (1))) hg dL_law_2939 (by decide) ?_
    refine A_iaddN hg dL_law_2940 ?_
    refine A_sld hg hX (i + 1) (by omega) dL_law_2941 ?_
    refine A_hV (kc2 := kc + 0) (ks2 := ks + 0) (As := [.int (xs (i + 1))]) (rest := [.int (nI (o x1C))]) hg lk_RL_296 in_X11_outputByte se_X11_outputByte rfl dL_law_2942 ⟨by decide, by decide⟩ rfl rfl (hfK 0 0 (by decide) (by decide)) hv6 (by omega) rfl rfl (Nat.le_of_ble_eq_true rfl) (c_X11_outputByte G false 296 σ F ou lo (xs (i + 1)) hv6 hv20 (by omega) hF33 (by omega)) ?_
    rintro _ σ_8 (⟨x1M, rfl, Mhxe, Mhxl, hc_4, hf_5⟩ | ⟨rfl, Mhno, hc_6, hf_7⟩)
    · skip
      refine (?_ : AJ G K Q (kc + 0) (ks + 0) false 296 2945 [some (.ref bS), some (.ref (q_h G + 0)), some (.ref (q_h G + 279)), some (.ref (q_h G + 294)), some (.ref (q_h G + 295)), some (.int (nI (i))), none, none, none] [.int (nI (ou x1M)), .int (nI (o x1C))] σ_8)
      have hc_4 : σ_8 279 = o11 G (upd F 7 (nI (0))) := hc_4
      have hc_9 : σ_8 0 = o10 G (nI (il)) (z2) (z3) := (hf_5 0 (by decide)).trans hv0
      have hc_10 : σ_8 1 = q_an G 600 f := (hf_5 1 (by decide)).trans hv1
      have hc_11 : σ_8 23 = o5 G (23) (nI (lo)) := (hf_5 23 (by decide)).trans hv2
      have hc_12 : σ_8 24 = q_an G 256 o := (hf_5 24 (by decide)).trans hv3
      have hc_13 : σ_8 224 = q_rn G 2 2 (fun j => some (243 + 18 * j)) := (hf_5 224 (by decide)).trans hv4
      have hc_14 : σ_8 225 = q_bn G 2 kp := (hf_5 225 (by decide)).trans hv5
      have hc_15 : σ_8 280 = q_an G 265 g := (hf_5 280 (by decide)).trans hv7
      have hc_16 : σ_8 281 = q_an G 265 wk := (hf_5 281 (by decide)).trans hv8
      have hc_17 : σ_8 282 = q_an G 265 as := (hf_5 282 (by decide)).trans hv9
      have hc_18 : σ_8 283 = q_an G 530 sh := (hf_5 283 (by decide)).trans hv10
      have hc_19 : σ_8 284 = q_an G 2120 a := (hf_5 284 (by decide)).trans hv11
      have hc_20 : σ_8 285 = q_bn G 1681 fb := (hf_5 285 (by decide)).trans hv12
      have hc_21 : σ_8 286 = q_an G 1681 nv := (hf_5 286 (by decide)).trans hv13
      have hc_22 : σ_8 287 = q_an G 1681 ns := (hf_5 287 (by decide)).trans hv14
      have hc_23 : σ_8 288 = q_an G 2000 mk := (hf_5 288 (by decide)).trans hv15
      have hc_24 : σ_8 289 = q_an G 6724 va := (hf_5 289 (by decide)).trans hv16
      have hc_25 : σ_8 290 = q_an G 6724 sp := (hf_5 290 (by decide)).trans hv17
      have hc_26 : σ_8 291 = q_an G 80 lp := (hf_5 291 (by decide)).trans hv18
      have hc_27 : σ_8 292 = q_an G 600 f := (hf_5 292 (by decide)).trans hv19
      have hc_28 : σ_8 293 = q_an G 300 ou := (hf_5 293 (by decide)).trans hv20
      have hc_29 : σ_8 294 = q_ln G 1 oL := (hf_5 294 (by decide)).trans hv21
      have hc_30 : σ_8 295 = q_dn G 1 oD := (hf_5 295 (by decide)).trans hv22
      have e_x : x1C = x1M := q_nI_inj (by omega) (by omega) (Chxe.symm.trans Mhxe)
      subst e_x
      refine A_icmp_eq (tgt := 3062) hg dL_law_2945 (by decide) (fun _ => ?_) (fun z9 => absurd (congrArg nI (hou x1C (by omega)).symm) z9)
      refine A_eq (ls2 := [some (.ref bS), some (.ref (q_h G + 0)), some (.ref (q_h G + 279)), some (.ref (q_h G + 294)), some (.ref (q_h G + 295)), some (.int (nI (i))), none, none, none]) (st2 := []) (pc2 := 0) rfl rfl ?_
      refine A_wide (kc2 := kc + 8) (ks2 := ks + 48) (by omega) (by omega) ?_
      exact hnxt _ (iv_mk il z2 z3 f lo o g nx m ps kp sn (upd F 7 (nI (0))) wk as sh a fb nv ns mk va sp lp mc z ss ou oL oD hc_9 hc_10 hc_11 hc_12 hc_13 hc_14 hc_4 hc_15 hc_16 hc_17 hc_18 hc_19 hc_20 hc_21 hc_22 hc_23 hc_24 hc_25 hc_26 hc_27 hc_28 hc_29 hc_30 (x_lj_e (fun i _ _ => (hf_5 i (by omega))) hL) (x_gm_e (fun i _ _ => (hf_5 i (by omega))) hG) (x_mx_e (fun i _ _ => (hf_5 i (by omega))) hM) (x_hi_e (fun i _ _ => (hf_5 i (by omega))) hHi) (x_oj_e (fun i _ _ => (hf_5 i (by omega))) hO) (x_pj_e (fun i _ _ => (hf_5 i (by omega))) hT) (iv_hn (fun i _ _ => (hf_5 i (by omega))) hH) (iv_Sn (fun i _ _ => (hf_5 i (by omega))) hSn) (iv_Kp (fun i _ _ => (hf_5 i (by omega))) hKp) (by omega) hfb (by omega) hou hgd hps hk1 hkss hss hsn hF5 hF6 hF12 hF16 hF21 hF22 hF23 hF33 (by omega) hmk hTI hlo)
    · skip
      refine (?_ : AJ G K Q (kc + 0) (ks + 0) false 296 2945 [some (.ref bS), some (.ref (q_h G + 0)), some (.ref (q_h G + 279)), some (.ref (q_h G + 294)), some (.ref (q_h G + 295)), some (.int (nI (i))), none, none, none] [.int (q_d (0)), .int (nI (o x1C))] σ_8)
      have hc_6 : σ_8 279 = o11 G (upd F 7 (nI (0))) := hc_6
      have hc_31 : σ_8 0 = o10 G (nI (il)) (z2) (z3) := (hf_7 0 (by decide)).trans hv0
      have hc_32 : σ_8 1 = q_an G 600 f := (hf_7 1 (by decide)).trans hv1
      have hc_33 : σ_8 23 = o5 G (23) (nI (lo)) := (hf_7 23 (by decide)).trans hv2
      have hc_34 : σ_8 24 = q_an G 256 o := (hf_7 24 (by decide)).trans hv3
      have hc_35 : σ_8 224 = q_rn G 2 2 (fun j => some (243 + 18 * j)) := (hf_7 224 (by decide)).trans hv4
      have hc_36 : σ_8 225 = q_bn G 2 kp := (hf_7 225 (by decide)).trans hv5
      have hc_37 : σ_8 280 = q_an G 265 g := (hf_7 280 (by decide)).trans hv7
      have hc_38 : σ_8 281 = q_an G 265 wk := (hf_7 281 (by decide)).trans hv8
      have hc_39 : σ_8 282 = q_an G 265 as := (hf_7 282 (by decide)).trans hv9
      have hc_40 : σ_8 283 = q_an G 530 sh := (hf_7 283 (by decide)).trans hv10
      have hc_41 : σ_8 284 = q_an G 2120 a := (hf_7 284 (by decide)).trans hv11
      have hc_42 : σ_8 285 = q_bn G 1681 fb := (hf_7 285 (by decide)).trans hv12
      have hc_43 : σ_8 286 = q_an G 1681 nv := (hf_7 286 (by decide)).trans hv13
      have hc_44 : σ_8 287 = q_an G 1681 ns := (hf_7 287 (by decide)).trans hv14
      have hc_45 : σ_8 288 = q_an G 2000 mk := (hf_7 288 (by decide)).trans hv15
      have hc_46 : σ_8 289 = q_an G 6724 va := (hf_7 289 (by decide)).trans hv16
      have hc_47 : σ_8 290 = q_an G 6724 sp := (hf_7 290 (by decide)).trans hv17
      have hc_48 : σ_8 291 = q_an G 80 lp := (hf_7 291 (by decide)).trans hv18
      have hc_49 : σ_8 292 = q_an G 600 f := (hf_7 292 (by decide)).trans hv19
      have hc_50 : σ_8 293 = q_an G 300 ou := (hf_7 293 (by decide)).trans hv20
      have hc_51 : σ_8 294 = q_ln G 1 oL := (hf_7 294 (by decide)).trans hv21
      have hc_52 : σ_8 295 = q_dn G 1 oD := (hf_7 295 (by decide)).trans hv22
      exact (Mhno x1C (by omega) Chxe).elim
  · skip
    rw [he_2]
    refine (?_ : AJ G K Q (kc + 0) (ks + 0) false 296 2935 [some (.ref bS), some (.ref (q_h G + 0)), some (.ref (q_h G + 279)), some (.ref (q_h G + 294)), some (.ref (q_h G + 295)), some (.int (nI (i))), none, none, none] [.int (q_d (0))] σ)
    refine A_aload_n hg dL_law_2935 rfl rfl ?_
    refine A_aload_n hg dL_law_2936 rfl rfl ?_
    refine A_iload hg dL_law_2937 rfl ?_
    refine A_iconst (v := (nI (1))) hg dL_law_2939 (by decide) ?_
    refine A_iaddN hg dL_law_2940 ?_
    refine A_sld hg hX (i + 1) (by omega) dL_law_2941 ?_
    refine A_hV (kc2 := kc + 0) (ks2 := ks + 0) (As := [.int (xs (i + 1))]) (rest := [.int (q_d (0))]) hg lk_RL_296 in_X11_outputByte se_X11_outputByte rfl dL_law_2942 ⟨by decide, by decide⟩ rfl rfl (hfK 0 0 (by decide) (by decide)) hv6 (by omega) rfl rfl (Nat.le_of_ble_eq_true rfl) (c_X11_outputByte G false 296 σ F ou lo (xs (i + 1)) hv6 hv20 (by omega) hF33 (by omega)) ?_
    rintro _ σ_57 (⟨x1M, rfl, Mhxe, Mhxl, hc_53, hf_54⟩ | ⟨rfl, Mhno, hc_55, hf_56⟩)
    · skip
      refine (?_ : AJ G K Q (kc + 0) (ks + 0) false 296 2945 [some (.ref bS), some (.ref (q_h G + 0)), some (.ref (q_h G + 279)), some (.ref (q_h G + 294)), some (.ref (q_h G + 295)), some (.int (nI (i))), none, none, none] [.int (nI (ou x1M)), .int (q_d (0))] σ_57)
      have hc_53 : σ_57 279 = o11 G (upd F 7 (nI (0))) := hc_53
      have hc_58 : σ_57 0 = o10 G (nI (il)) (z2) (z3) := (hf_54 0 (by decide)).trans hv0
      have hc_59 : σ_57 1 = q_an G 600 f := (hf_54 1 (by decide)).trans hv1
      have hc_60 : σ_57 23 = o5 G (23) (nI (lo)) := (hf_54 23 (by decide)).trans hv2
      have hc_61 : σ_57 24 = q_an G 256 o := (hf_54 24 (by decide)).trans hv3
      have hc_62 : σ_57 224 = q_rn G 2 2 (fun j => some (243 + 18 * j)) := (hf_54 224 (by decide)).trans hv4
      have hc_63 : σ_57 225 = q_bn G 2 kp := (hf_54 225 (by decide)).trans hv5
      have hc_64 : σ_57 280 = q_an G 265 g := (hf_54 280 (by decide)).trans hv7
      have hc_65 : σ_57 281 = q_an G 265 wk := (hf_54 281 (by decide)).trans hv8
      have hc_66 : σ_57 282 = q_an G 265 as := (hf_54 282 (by decide)).trans hv9
      have hc_67 : σ_57 283 = q_an G 530 sh := (hf_54 283 (by decide)).trans hv10
      have hc_68 : σ_57 284 = q_an G 2120 a := (hf_54 284 (by decide)).trans hv11
      have hc_69 : σ_57 285 = q_bn G 1681 fb := (hf_54 285 (by decide)).trans hv12
      have hc_70 : σ_57 286 = q_an G 1681 nv := (hf_54 286 (by decide)).trans hv13
      have hc_71 : σ_57 287 = q_an G 1681 ns := (hf_54 287 (by decide)).trans hv14
      have hc_72 : σ_57 288 = q_an G 2000 mk := (hf_54 288 (by decide)).trans hv15
      have hc_73 : σ_57 289 = q_an G 6724 va := (hf_54 289 (by decide)).trans hv16
      have hc_74 : σ_57 290 = q_an G 6724 sp := (hf_54 290 (by decide)).trans hv17
      have hc_75 : σ_57 291 = q_an G 80 lp := (hf_54 291 (by decide)).trans hv18
      have hc_76 : σ_57 292 = q_an G 600 f := (hf_54 292 (by decide)).trans hv19
      have hc_77 : σ_57 293 = q_an G 300 ou := (hf_54 293 (by decide)).trans hv20
      have hc_78 : σ_57 294 = q_ln G 1 oL := (hf_54 294 (by decide)).trans hv21
      have hc_79 : σ_57 295 = q_dn G 1 oD := (hf_54 295 (by decide)).trans hv22
      exact (Chno x1M (by omega) Mhxe).elim
    · skip
      refine (?_ : AJ G K Q (kc + 0) (ks + 0) false 296 2945 [some (.ref bS), some (.ref (q_h G + 0)), some (.ref (q_h G + 279)), some (.ref (q_h G + 294)), some (.ref (q_h G + 295)), some (.int (nI (i))), none, none, none] [.int (q_d (0)), .int (q_d (0))] σ_57)
      have hc_55 : σ_57 279 = o11 G (upd F 7 (nI (0))) := hc_55
      have hc_80 : σ_57 0 = o10 G (nI (il)) (z2) (z3) := (hf_56 0 (by decide)).trans hv0
      have hc_81 : σ_57 1 = q_an G 600 f := (hf_56 1 (by decide)).trans hv1
      have hc_82 : σ_57 23 = o5 G (23) (nI (lo)) := (hf_56 23 (by decide)).trans hv2
      have hc_83 : σ_57 24 = q_an G 256 o := (hf_56 24 (by decide)).trans hv3
      have hc_84 : σ_57 224 = q_rn G 2 2 (fun j => some (243 + 18 * j)) := (hf_56 224 (by decide)).trans hv4
      have hc_85 : σ_57 225 = q_bn G 2 kp := (hf_56 225 (by decide)).trans hv5
      have hc_86 : σ_57 280 = q_an G 265 g := (hf_56 280 (by decide)).trans hv7
      have hc_87 : σ_57 281 = q_an G 265 wk := (hf_56 281 (by decide)).trans hv8
      have hc_88 : σ_57 282 = q_an G 265 as := (hf_56 282 (by decide)).trans hv9
      have hc_89 : σ_57 283 = q_an G 530 sh := (hf_56 283 (by decide)).trans hv10
      have hc_90 : σ_57 284 = q_an G 2120 a := (hf_56 284 (by decide)).trans hv11
      have hc_91 : σ_57 285 = q_bn G 1681 fb := (hf_56 285 (by decide)).trans hv12
      have hc_92 : σ_57 286 = q_an G 1681 nv := (hf_56 286 (by decide)).trans hv13
      have hc_93 : σ_57 287 = q_an G 1681 ns := (hf_56 287 (by decide)).trans hv14
      have hc_94 : σ_57 288 = q_an G 2000 mk := (hf_56 288 (by decide)).trans hv15
      have hc_95 : σ_57 289 = q_an G 6724 va := (hf_56 289 (by decide)).trans hv16
      have hc_96 : σ_57 290 = q_an G 6724 sp := (hf_56 290 (by decide)).trans hv17
      have hc_97 : σ_57 291 = q_an G 80 lp := (hf_56 291 (by decide)).trans hv18
      have hc_98 : σ_57 292 = q_an G 600 f := (hf_56 292 (by decide)).trans hv19
      have hc_99 : σ_57 293 = q_an G 300 ou := (hf_56 293 (by decide)).trans hv20
      have hc_100 : σ_57 294 = q_ln G 1 oL := (hf_56 294 (by decide)).trans hv21
      have hc_101 : σ_57 295 = q_dn G 1 oD := (hf_56 295 (by decide)).trans hv22
      refine A_icmp_eq (tgt := 3062) hg dL_law_2945 (by decide) (fun _ => ?_) (fun z9 => absurd rfl z9)
      refine A_eq (ls2 := [some (.ref bS), some (.ref (q_h G + 0)), some (.ref (q_h G + 279)), some (.ref (q_h G + 294)), some (.ref (q_h G + 295)), some (.int (nI (i))), none, none, none]) (st2 := []) (pc2 := 0) rfl rfl ?_
      refine A_wide (kc2 := kc + 8) (ks2 := ks + 48) (by omega) (by omega) ?_
      exact hnxt _ (iv_mk il z2 z3 f lo o g nx m ps kp sn (upd F 7 (nI (0))) wk as sh a fb nv ns mk va sp lp mc z ss ou oL oD hc_80 hc_81 hc_82 hc_83 hc_84 hc_85 hc_55 hc_86 hc_87 hc_88 hc_89 hc_90 hc_91 hc_92 hc_93 hc_94 hc_95 hc_96 hc_97 hc_98 hc_99 hc_100 hc_101 (x_lj_e (fun i _ _ => (hf_56 i (by omega))) hL) (x_gm_e (fun i _ _ => (hf_56 i (by omega))) hG) (x_mx_e (fun i _ _ => (hf_56 i (by omega))) hM) (x_hi_e (fun i _ _ => (hf_56 i (by omega))) hHi) (x_oj_e (fun i _ _ => (hf_56 i (by omega))) hO) (x_pj_e (fun i _ _ => (hf_56 i (by omega))) hT) (iv_hn (fun i _ _ => (hf_56 i (by omega))) hH) (iv_Sn (fun i _ _ => (hf_56 i (by omega))) hSn) (iv_Kp (fun i _ _ => (hf_56 i (by omega))) hKp) (by omega) hfb (by omega) hou hgd hps hk1 hkss hss hsn hF5 hF6 hF12 hF16 hF21 hF22 hF23 hF33 (by omega) hmk hTI hlo)
set_option maxRecDepth 100000 in
set_option maxHeartbeats 4000000 in
theorem law_c44 (G : GL) (K : KC) (Q : State → Prop) (hh : List (Nat × Nat × Nat × Nat)) (hg : Gd G K RL code 9 ret room_1 hh) (bS L : Nat) (xs : Nat → Int32) (hX : q_scr G K bS L xs) (i kc ks J : Nat) (hi : i + 5 < L) (hL31 : L < 2 ^ 31) (hkc : kc + 8 ≤ 601024) (hks : ks + 48 ≤ 7293034) (σ : Nat → va_E) (hI : iv G σ J) (hJ : J < 512) (hfd : q_fdn) (hdd : q_ddn) (hf2 : q_f2n) (hds : q_dcs) (hnxt : ∀ σ9 : Nat → va_E, iv G σ9 (J + 1) → AJ G K Q (kc + 8) (ks + 48) false 296 3062 [some (.ref bS), some (.ref (q_h G + 0)), some (.ref (q_h G + 279)), some (.ref (q_h G + 294)), some (.ref (q_h G + 295)), some (.int (nI (i))), none, none, none] [] σ9) : AJ G K Q kc ks false 296 2950 [some (.ref bS), some (.ref (q_h G + 0)), some (.ref (q_h G + 279)), some (.ref (q_h G + 294)), some (.ref (q_h G + 295)), some (.int (nI (i))), none, none, none] [] σ := by
  refine iv_el hI ?_
  intro il z2 z3 f lo o g nx m ps kp sn F wk as sh a fb nv ns mk va sp lp mc z ss ou oL oD
  intro hv0 hv1 hv2 hv3 hv4 hv5 hv6 hv7 hv8 hv9 hv10 hv11 hv12 hv13 hv14 hv15 hv16 hv17 hv18 hv19 hv20 hv21 hv22
  intro hL hG hM hHi hO hT hH hSn hKp
  intro hil hfb hlo2 hou hgd hps hk1 hkss hss hsn hF5 hF6 hF12 hF16 hF21 hF22 hF23 hF33 hmc hmk hTI hlo
  have hfK : ∀ a b : Nat, a ≤ 8 → b ≤ 48 → kc + a ≤ room_1.cells ∧ ks + b ≤ room_1.slots := fun a b h1 h2 => ⟨by show kc + a ≤ 601024; omega, by show ks + b ≤ 7293034; omega⟩
  have hg9 := iv_g hG
  obtain ⟨hnx8, hm8, hc78⟩ := iv_hi hHi
  have hbb := iv_byte (m := il) hfb
  have hg90 := hg9.1
  have hg96 := hg9.2.2.2.2.1
  have hnp8 := s_np_le hg9
  refine A_aload_n hg dL_law_2950 rfl rfl ?_
  refine A_aload_n hg dL_law_2951 rfl rfl ?_
  refine A_iload hg dL_law_2952 rfl ?_
  refine A_iconst (v := (nI (1))) hg dL_law_2954 (by decide) ?_
  refine A_iaddN hg dL_law_2955 ?_
  refine A_sld hg hX (i + 1) (by omega) dL_law_2956 ?_
  refine A_aload_n hg dL_law_2957 rfl rfl ?_
  refine A_callSH (As := [.ref (q_h G + 0), .int (xs (i + 1)), .ref (q_h G + 294)]) (rest := []) hg lkH_297 stH_L_keep dL_law_2958 ⟨by decide, by decide⟩ (hfK 1 6 (by decide) (by decide)) rfl rfl (Nat.le_of_ble_eq_true rfl) (c_L_keep G 296 σ (nI (il)) z2 z3 g kp (xs (i + 1)) oL hv0 hv4 hv5 hv21 (by omega) hG hSn (by omega)) ?_
  rintro _ σ_1 (⟨s1C, rfl, Chxe, Chxl, ChS2, hc_2, hc_3, hf_4⟩ | ⟨rfl, Chxx, he_5⟩)
  · skip
    refine (?_ : AJ G K Q (kc + 1) (ks + 6) false 296 2961 [some (.ref bS), some (.ref (q_h G + 0)), some (.ref (q_h G + 279)), some (.ref (q_h G + 294)), some (.ref (q_h G + 295)), some (.int (nI (i))), none, none, none] [.int (nI (0))] σ_1)
    have hc_6 : σ_1 0 = o10 G (nI (il)) (z2) (z3) := (hf_4 0 (by omega)).trans hv0
    have hc_7 : σ_1 1 = q_an G 600 f := (hf_4 1 (by omega)).trans hv1
    have hc_8 : σ_1 23 = o5 G (23) (nI (lo)) := (hf_4 23 (by omega)).trans hv2
    have hc_9 : σ_1 24 = q_an G 256 o := (hf_4 24 (by omega)).trans hv3
    have hc_10 : σ_1 224 = q_rn G 2 2 (fun j => some (243 + 18 * j)) := (hf_4 224 (by omega)).trans hv4
    have hc_11 : σ_1 279 = o11 G F := (hf_4 279 (by omega)).trans hv6
    have hc_12 : σ_1 280 = q_an G 265 g := (hf_4 280 (by omega)).trans hv7
    have hc_13 : σ_1 281 = q_an G 265 wk := (hf_4 281 (by omega)).trans hv8
    have hc_14 : σ_1 282 = q_an G 265 as := (hf_4 282 (by omega)).trans hv9
    have hc_15 : σ_1 283 = q_an G 530 sh := (hf_4 283 (by omega)).trans hv10
    have hc_16 : σ_1 284 = q_an G 2120 a := (hf_4 284 (by omega)).trans hv11
    have hc_17 : σ_1 285 = q_bn G 1681 fb := (hf_4 285 (by omega)).trans hv12
    have hc_18 : σ_1 286 = q_an G 1681 nv := (hf_4 286 (by omega)).trans hv13
    have hc_19 : σ_1 287 = q_an G 1681 ns := (hf_4 287 (by omega)).trans hv14
    have hc_20 : σ_1 288 = q_an G 2000 mk := (hf_4 288 (by omega)).trans hv15
    have hc_21 : σ_1 289 = q_an G 6724 va := (hf_4 289 (by omega)).trans hv16
    have hc_22 : σ_1 290 = q_an G 6724 sp := (hf_4 290 (by omega)).trans hv17
    have hc_23 : σ_1 291 = q_an G 80 lp := (hf_4 291 (by omega)).trans hv18
    have hc_24 : σ_1 292 = q_an G 600 f := (hf_4 292 (by omega)).trans hv19
    have hc_25 : σ_1 293 = q_an G 300 ou := (hf_4 293 (by omega)).trans hv20
    have hc_26 : σ_1 295 = q_dn G 1 oD := (hf_4 295 (by omega)).trans hv22
    refine A_istore hg dL_law_2961 (by decide) (q_c1d rfl) ?_
    refine A_eq (ls2 := [some (.ref bS), some (.ref (q_h G + 0)), some (.ref (q_h G + 279)), some (.ref (q_h G + 294)), some (.ref (q_h G + 295)), some (.int (nI (i))), some (.int (nI (0))), none, none]) (st2 := []) (pc2 := 0) rfl rfl ?_
    refine A_aload_n hg dL_law_2963 rfl rfl ?_
    refine A_aload_n hg dL_law_2964 rfl rfl ?_
    refine A_iload hg dL_law_2965 rfl ?_
    refine A_iconst (v := (nI (1))) hg dL_law_2967 (by decide) ?_
    refine A_iaddN hg dL_law_2968 ?_
    refine A_sld hg hX (i + 1) (by omega) dL_law_2969 ?_
    refine A_hV (kc2 := kc + 1) (ks2 := ks + 6) (As := [.int (xs (i + 1))]) (rest := []) hg lk_RL_299 in_X11_keep se_X11_keep rfl dL_law_2970 ⟨by decide, by decide⟩ rfl rfl (hfK 1 6 (by decide) (by decide)) hc_11 (by omega) rfl rfl (Nat.le_of_ble_eq_true rfl) (c_X11_keep G false 296 σ_1 F g sh ss (xs (i + 1)) hc_11 hc_12 hc_15 (by omega) hF6 (by omega)) ?_
    rintro _ σ_32 (⟨rfl, Mhno, hc_27, hf_28⟩ | ⟨s1M, shqM, rfl, Mhse, Mhsl, Mhk1, Mhk2, hc_29, hc_30, hf_31⟩)
    · skip
      refine (?_ : AJ G K Q (kc + 1) (ks + 6) false 296 2973 [some (.ref bS), some (.ref (q_h G + 0)), some (.ref (q_h G + 279)), some (.ref (q_h G + 294)), some (.ref (q_h G + 295)), some (.int (nI (i))), some (.int (nI (0))), none, none] [.int (nI (0))] σ_32)
      have hc_27 : σ_32 279 = o11 G (upd F 7 (nI (1))) := hc_27
      have hc_33 : σ_32 0 = o10 G (nI (il)) (z2) (z3) := (hf_28 0 (by omega)).trans hc_6
      have hc_34 : σ_32 1 = q_an G 600 f := (hf_28 1 (by omega)).trans hc_7
      have hc_35 : σ_32 23 = o5 G (23) (nI (lo)) := (hf_28 23 (by omega)).trans hc_8
      have hc_36 : σ_32 24 = q_an G 256 o := (hf_28 24 (by omega)).trans hc_9
      have hc_37 : σ_32 224 = q_rn G 2 2 (fun j => some (243 + 18 * j)) := (hf_28 224 (by omega)).trans hc_10
      have hc_38 : σ_32 280 = q_an G 265 g := (hf_28 280 (by omega)).trans hc_12
      have hc_39 : σ_32 281 = q_an G 265 wk := (hf_28 281 (by omega)).trans hc_13
      have hc_40 : σ_32 282 = q_an G 265 as := (hf_28 282 (by omega)).trans hc_14
      have hc_41 : σ_32 283 = q_an G 530 sh := (hf_28 283 (by omega)).trans hc_15
      have hc_42 : σ_32 284 = q_an G 2120 a := (hf_28 284 (by omega)).trans hc_16
      have hc_43 : σ_32 285 = q_bn G 1681 fb := (hf_28 285 (by omega)).trans hc_17
      have hc_44 : σ_32 286 = q_an G 1681 nv := (hf_28 286 (by omega)).trans hc_18
      have hc_45 : σ_32 287 = q_an G 1681 ns := (hf_28 287 (by omega)).trans hc_19
      have hc_46 : σ_32 288 = q_an G 2000 mk := (hf_28 288 (by omega)).trans hc_20
      have hc_47 : σ_32 289 = q_an G 6724 va := (hf_28 289 (by omega)).trans hc_21
      have hc_48 : σ_32 290 = q_an G 6724 sp := (hf_28 290 (by omega)).trans hc_22
      have hc_49 : σ_32 291 = q_an G 80 lp := (hf_28 291 (by omega)).trans hc_23
      have hc_50 : σ_32 292 = q_an G 600 f := (hf_28 292 (by omega)).trans hc_24
      have hc_51 : σ_32 293 = q_an G 300 ou := (hf_28 293 (by omega)).trans hc_25
      have hc_52 : σ_32 295 = q_dn G 1 oD := (hf_28 295 (by omega)).trans hc_26
      have hc_53 : σ_32 225 = q_bn G 2 (va_up kp s1C 1) := (hf_28 225 (by omega)).trans hc_2
      have hc_54 : σ_32 294 = q_ln G 1 (va_up oL 0 ((nI (g 4)).toInt64)) := (hf_28 294 (by omega)).trans hc_3
      exact (Mhno s1C (by omega) (by omega) Chxe).elim
    · skip
      refine (?_ : AJ G K Q (kc + 1) (ks + 6) false 296 2973 [some (.ref bS), some (.ref (q_h G + 0)), some (.ref (q_h G + 279)), some (.ref (q_h G + 294)), some (.ref (q_h G + 295)), some (.int (nI (i))), some (.int (nI (0))), none, none] [.int (nI (g 4))] σ_32)
      have hc_29 : σ_32 279 = o11 G (upd (upd F 6 (nI (ss ||| 2 ^ s1M))) 7 (nI (0))) := hc_29
      have hc_55 : σ_32 0 = o10 G (nI (il)) (z2) (z3) := (hf_31 0 (by omega)).trans hc_6
      have hc_56 : σ_32 1 = q_an G 600 f := (hf_31 1 (by omega)).trans hc_7
      have hc_57 : σ_32 23 = o5 G (23) (nI (lo)) := (hf_31 23 (by omega)).trans hc_8
      have hc_58 : σ_32 24 = q_an G 256 o := (hf_31 24 (by omega)).trans hc_9
      have hc_59 : σ_32 224 = q_rn G 2 2 (fun j => some (243 + 18 * j)) := (hf_31 224 (by omega)).trans hc_10
      have hc_60 : σ_32 280 = q_an G 265 g := (hf_31 280 (by omega)).trans hc_12
      have hc_61 : σ_32 281 = q_an G 265 wk := (hf_31 281 (by omega)).trans hc_13
      have hc_62 : σ_32 282 = q_an G 265 as := (hf_31 282 (by omega)).trans hc_14
      have hc_63 : σ_32 284 = q_an G 2120 a := (hf_31 284 (by omega)).trans hc_16
      have hc_64 : σ_32 285 = q_bn G 1681 fb := (hf_31 285 (by omega)).trans hc_17
      have hc_65 : σ_32 286 = q_an G 1681 nv := (hf_31 286 (by omega)).trans hc_18
      have hc_66 : σ_32 287 = q_an G 1681 ns := (hf_31 287 (by omega)).trans hc_19
      have hc_67 : σ_32 288 = q_an G 2000 mk := (hf_31 288 (by omega)).trans hc_20
      have hc_68 : σ_32 289 = q_an G 6724 va := (hf_31 289 (by omega)).trans hc_21
      have hc_69 : σ_32 290 = q_an G 6724 sp := (hf_31 290 (by omega)).trans hc_22
      have hc_70 : σ_32 291 = q_an G 80 lp := (hf_31 291 (by omega)).trans hc_23
      have hc_71 : σ_32 292 = q_an G 600 f := (hf_31 292 (by omega)).trans hc_24
      have hc_72 : σ_32 293 = q_an G 300 ou := (hf_31 293 (by omega)).trans hc_25
      have hc_73 : σ_32 295 = q_dn G 1 oD := (hf_31 295 (by omega)).trans hc_26
      have hc_74 : σ_32 225 = q_bn G 2 (va_up kp s1C 1) := (hf_31 225 (by omega)).trans hc_2
      have hc_75 : σ_32 294 = q_ln G 1 (va_up oL 0 ((nI (g 4)).toInt64)) := (hf_31 294 (by omega)).trans hc_3
      have e_x : s1C = s1M := q_nI_inj (by omega) (by omega) (Chxe.symm.trans Mhse)
      subst e_x
      refine A_istore hg dL_law_2973 (by decide) (q_c1d rfl) ?_
      refine A_eq (ls2 := [some (.ref bS), some (.ref (q_h G + 0)), some (.ref (q_h G + 279)), some (.ref (q_h G + 294)), some (.ref (q_h G + 295)), some (.int (nI (i))), some (.int (nI (0))), some (.int (nI (g 4))), none]) (st2 := []) (pc2 := 0) rfl rfl ?_
      refine A_aload_n hg dL_law_2975 rfl rfl ?_
      refine A_eV (kc2 := kc + 1) (ks2 := ks + 6) (As := []) (rest := []) hg lk_RL_170 in_X11_thrown se_X11_thrown rfl dL_law_2976 ⟨by decide, by decide⟩ rfl rfl (hfK 1 6 (by decide) (by decide)) hc_29 (by omega) rfl rfl (Nat.le_of_ble_eq_true rfl) (c_X11_thrown G false 296 σ_32 (upd (upd F 6 (nI (ss ||| 2 ^ s1C))) 7 (nI (0))) hc_29 (by omega)) ?_
      refine A_top (w := .int (nI (0))) (congrArg Value.int rfl) ?_
      refine A_iload hg dL_law_2979 rfl ?_
      refine A_icmp_eqN (tgt := 2986) hg dL_law_2981 (by decide) (by decide) (by decide) (fun c2981 => ?_) (fun c2981 => False.elim (by omega))
      refine A_iload hg dL_law_2986 rfl ?_
      refine A_if_neN (tgt := 3003) hg dL_law_2988 (by decide) (by decide) (fun c2988 => absurd (by decide) c2988) (fun c2988 => ?_)
      refine A_aload_n hg dL_law_2991 rfl rfl ?_
      refine A_iconst (v := (nI (0))) hg dL_law_2992 (by decide) ?_
      refine A_lald (j := 0) hg dL_law_2993 hc_75 (by omega) (by decide) (by decide) ?_
      refine A_top (w := .long ((nI (g 4)).toInt64)) (congrArg Value.long iv_up0) ?_
      refine A_iload hg dL_law_2994 rfl ?_
      refine A_i2l (v := (nI (g 4)).toInt64) hg dL_law_2996 rfl ?_
      refine A_lcmp hg dL_law_2997 ?_
      refine A_top (w := .int (nI 0)) (congrArg Value.int (lc_self _)) ?_
      refine A_if_eqN (tgt := 3003) hg dL_law_2998 (by decide) (by decide) (fun c2998 => ?_) (fun c2998 => absurd (by decide) c2998)
      refine A_goto (tgt := 3062) hg dL_law_3003 (by decide) ?_
      refine A_drop 6 ?_
      refine A_drop 7 ?_
      refine A_eq (ls2 := [some (.ref bS), some (.ref (q_h G + 0)), some (.ref (q_h G + 279)), some (.ref (q_h G + 294)), some (.ref (q_h G + 295)), some (.int (nI (i))), none, none, none]) (st2 := []) (pc2 := 0) rfl rfl ?_
      refine A_wide (kc2 := kc + 8) (ks2 := ks + 48) (by omega) (by omega) ?_
      exact hnxt _ (iv_mk il z2 z3 f lo o g nx m ps (va_up kp s1C 1) (fun j => if j = s1C then g else sn j) (upd (upd F 6 (nI (ss ||| 2 ^ s1C))) 7 (nI (0))) wk as shqM a fb nv ns mk va sp lp mc z (ss ||| 2 ^ s1C) ou (va_up oL 0 ((nI (g 4)).toInt64)) oD hc_55 hc_56 hc_57 hc_58 hc_59 hc_74 hc_29 hc_60 hc_61 hc_62 hc_30 hc_63 hc_64 hc_65 hc_66 hc_67 hc_68 hc_69 hc_70 hc_71 hc_72 hc_75 hc_73 (x_lj_e (fun i _ _ => ((hf_31 i (by omega)).trans (hf_4 i (by omega)))) hL) (x_gm_e (fun i _ _ => ((hf_31 i (by omega)).trans (hf_4 i (by omega)))) hG) (x_mx_e (fun i _ _ => ((hf_31 i (by omega)).trans (hf_4 i (by omega)))) hM) (x_hi_e (fun i _ _ => ((hf_31 i (by omega)).trans (hf_4 i (by omega)))) hHi) (x_oj_e (fun i _ _ => ((hf_31 i (by omega)).trans (hf_4 i (by omega)))) hO) (x_pj_e (fun i _ _ => ((hf_31 i (by omega)).trans (hf_4 i (by omega)))) hT) (iv_hn (fun i _ _ => ((hf_31 i (by omega)).trans (hf_4 i (by omega)))) hH) (iv_keepS (x_gm_e (fun i _ _ => (hf_31 i (by omega))) ChS2) Chxl (fun i z1 z2 z3 => ((hf_31 i (by omega)).trans (hf_4 i (by omega)))) hSn) (iv_keepK (x_gm_e (fun i _ _ => (hf_31 i (by omega))) ChS2) Chxl (fun i z1 z2 z3 => ((hf_31 i (by omega)).trans (hf_4 i (by omega)))) hKp) (by omega) hfb (by omega) hou hgd hps (iv_k1 hk1) (iv_ors Chxl hkss) (iv_or hss Chxl) (iv_keepM hgd Mhk1 Mhk2 hsn) hF5 rfl hF12 hF16 hF21 hF22 hF23 hF33 (by omega) hmk hTI hlo)
  · skip
    rw [he_5]
    refine (?_ : AJ G K Q (kc + 1) (ks + 6) false 296 2961 [some (.ref bS), some (.ref (q_h G + 0)), some (.ref (q_h G + 279)), some (.ref (q_h G + 294)), some (.ref (q_h G + 295)), some (.int (nI (i))), none, none, none] [.int (nI (1))] σ)
    refine A_istore hg dL_law_2961 (by decide) (q_c1d rfl) ?_
    refine A_eq (ls2 := [some (.ref bS), some (.ref (q_h G + 0)), some (.ref (q_h G + 279)), some (.ref (q_h G + 294)), some (.ref (q_h G + 295)), some (.int (nI (i))), some (.int (nI (1))), none, none]) (st2 := []) (pc2 := 0) rfl rfl ?_
    refine A_aload_n hg dL_law_2963 rfl rfl ?_
    refine A_aload_n hg dL_law_2964 rfl rfl ?_
    refine A_iload hg dL_law_2965 rfl ?_
    refine A_iconst (v := (nI (1))) hg dL_law_2967 (by decide) ?_
    refine A_iaddN hg dL_law_2968 ?_
    refine A_sld hg hX (i + 1) (by omega) dL_law_2969 ?_
    refine A_hV (kc2 := kc + 1) (ks2 := ks + 6) (As := [.int (xs (i + 1))]) (rest := []) hg lk_RL_299 in_X11_keep se_X11_keep rfl dL_law_2970 ⟨by decide, by decide⟩ rfl rfl (hfK 1 6 (by decide) (by decide)) hv6 (by omega) rfl rfl (Nat.le_of_ble_eq_true rfl) (c_X11_keep G false 296 σ F g sh ss (xs (i + 1)) hv6 hv7 hv10 (by omega) hF6 (by omega)) ?_
    rintro _ σ_81 (⟨rfl, Mhno, hc_76, hf_77⟩ | ⟨s1M, shqM, rfl, Mhse, Mhsl, Mhk1, Mhk2, hc_78, hc_79, hf_80⟩)
    · skip
      refine (?_ : AJ G K Q (kc + 1) (ks + 6) false 296 2973 [some (.ref bS), some (.ref (q_h G + 0)), some (.ref (q_h G + 279)), some (.ref (q_h G + 294)), some (.ref (q_h G + 295)), some (.int (nI (i))), some (.int (nI (1))), none, none] [.int (nI (0))] σ_81)
      have hc_76 : σ_81 279 = o11 G (upd F 7 (nI (1))) := hc_76
      have hc_82 : σ_81 0 = o10 G (nI (il)) (z2) (z3) := (hf_77 0 (by omega)).trans hv0
      have hc_83 : σ_81 1 = q_an G 600 f := (hf_77 1 (by omega)).trans hv1
      have hc_84 : σ_81 23 = o5 G (23) (nI (lo)) := (hf_77 23 (by omega)).trans hv2
      have hc_85 : σ_81 24 = q_an G 256 o := (hf_77 24 (by omega)).trans hv3
      have hc_86 : σ_81 224 = q_rn G 2 2 (fun j => some (243 + 18 * j)) := (hf_77 224 (by omega)).trans hv4
      have hc_87 : σ_81 225 = q_bn G 2 kp := (hf_77 225 (by omega)).trans hv5
      have hc_88 : σ_81 280 = q_an G 265 g := (hf_77 280 (by omega)).trans hv7
      have hc_89 : σ_81 281 = q_an G 265 wk := (hf_77 281 (by omega)).trans hv8
      have hc_90 : σ_81 282 = q_an G 265 as := (hf_77 282 (by omega)).trans hv9
      have hc_91 : σ_81 283 = q_an G 530 sh := (hf_77 283 (by omega)).trans hv10
      have hc_92 : σ_81 284 = q_an G 2120 a := (hf_77 284 (by omega)).trans hv11
      have hc_93 : σ_81 285 = q_bn G 1681 fb := (hf_77 285 (by omega)).trans hv12
      have hc_94 : σ_81 286 = q_an G 1681 nv := (hf_77 286 (by omega)).trans hv13
      have hc_95 : σ_81 287 = q_an G 1681 ns := (hf_77 287 (by omega)).trans hv14
      have hc_96 : σ_81 288 = q_an G 2000 mk := (hf_77 288 (by omega)).trans hv15
      have hc_97 : σ_81 289 = q_an G 6724 va := (hf_77 289 (by omega)).trans hv16
      have hc_98 : σ_81 290 = q_an G 6724 sp := (hf_77 290 (by omega)).trans hv17
      have hc_99 : σ_81 291 = q_an G 80 lp := (hf_77 291 (by omega)).trans hv18
      have hc_100 : σ_81 292 = q_an G 600 f := (hf_77 292 (by omega)).trans hv19
      have hc_101 : σ_81 293 = q_an G 300 ou := (hf_77 293 (by omega)).trans hv20
      have hc_102 : σ_81 294 = q_ln G 1 oL := (hf_77 294 (by omega)).trans hv21
      have hc_103 : σ_81 295 = q_dn G 1 oD := (hf_77 295 (by omega)).trans hv22
      refine A_istore hg dL_law_2973 (by decide) (q_c1d rfl) ?_
      refine A_eq (ls2 := [some (.ref bS), some (.ref (q_h G + 0)), some (.ref (q_h G + 279)), some (.ref (q_h G + 294)), some (.ref (q_h G + 295)), some (.int (nI (i))), some (.int (nI (1))), some (.int (nI (0))), none]) (st2 := []) (pc2 := 0) rfl rfl ?_
      refine A_aload_n hg dL_law_2975 rfl rfl ?_
      refine A_eV (kc2 := kc + 1) (ks2 := ks + 6) (As := []) (rest := []) hg lk_RL_170 in_X11_thrown se_X11_thrown rfl dL_law_2976 ⟨by decide, by decide⟩ rfl rfl (hfK 1 6 (by decide) (by decide)) hc_76 (by omega) rfl rfl (Nat.le_of_ble_eq_true rfl) (c_X11_thrown G false 296 σ_81 (upd F 7 (nI (1))) hc_76 (by omega)) ?_
      refine A_top (w := .int (nI (1))) (congrArg Value.int rfl) ?_
      refine A_iload hg dL_law_2979 rfl ?_
      refine A_icmp_eqN (tgt := 2986) hg dL_law_2981 (by decide) (by decide) (by decide) (fun c2981 => ?_) (fun c2981 => False.elim (by omega))
      refine A_iload hg dL_law_2986 rfl ?_
      refine A_if_neN (tgt := 3003) hg dL_law_2988 (by decide) (by decide) (fun c2988 => ?_) (fun c2988 => absurd c2988 (by decide))
      refine A_goto (tgt := 3062) hg dL_law_3003 (by decide) ?_
      refine A_drop 6 ?_
      refine A_drop 7 ?_
      refine A_eq (ls2 := [some (.ref bS), some (.ref (q_h G + 0)), some (.ref (q_h G + 279)), some (.ref (q_h G + 294)), some (.ref (q_h G + 295)), some (.int (nI (i))), none, none, none]) (st2 := []) (pc2 := 0) rfl rfl ?_
      refine A_wide (kc2 := kc + 8) (ks2 := ks + 48) (by omega) (by omega) ?_
      exact hnxt _ (iv_mk il z2 z3 f lo o g nx m ps kp sn (upd F 7 (nI (1))) wk as sh a fb nv ns mk va sp lp mc z ss ou oL oD hc_82 hc_83 hc_84 hc_85 hc_86 hc_87 hc_76 hc_88 hc_89 hc_90 hc_91 hc_92 hc_93 hc_94 hc_95 hc_96 hc_97 hc_98 hc_99 hc_100 hc_101 hc_102 hc_103 (x_lj_e (fun i _ _ => (hf_77 i (by omega))) hL) (x_gm_e (fun i _ _ => (hf_77 i (by omega))) hG) (x_mx_e (fun i _ _ => (hf_77 i (by omega))) hM) (x_hi_e (fun i _ _ => (hf_77 i (by omega))) hHi) (x_oj_e (fun i _ _ => (hf_77 i (by omega))) hO) (x_pj_e (fun i _ _ => (hf_77 i (by omega))) hT) (iv_hn (fun i _ _ => (hf_77 i (by omega))) hH) (iv_Sn (fun i _ _ => (hf_77 i (by omega))) hSn) (iv_Kp (fun i _ _ => (hf_77 i (by omega))) hKp) (by omega) hfb (by omega) hou hgd hps hk1 hkss hss hsn hF5 hF6 hF12 hF16 hF21 hF22 hF23 hF33 (by omega) hmk hTI hlo)
    · skip
      refine (?_ : AJ G K Q (kc + 1) (ks + 6) false 296 2973 [some (.ref bS), some (.ref (q_h G + 0)), some (.ref (q_h G + 279)), some (.ref (q_h G + 294)), some (.ref (q_h G + 295)), some (.int (nI (i))), some (.int (nI (1))), none, none] [.int (nI (g 4))] σ_81)
      have hc_78 : σ_81 279 = o11 G (upd (upd F 6 (nI (ss ||| 2 ^ s1M))) 7 (nI (0))) := hc_78
      have hc_104 : σ_81 0 = o10 G (nI (il)) (z2) (z3) := (hf_80 0 (by omega)).trans hv0
      have hc_105 : σ_81 1 = q_an G 600 f := (hf_80 1 (by omega)).trans hv1
      have hc_106 : σ_81 23 = o5 G (23) (nI (lo)) := (hf_80 23 (by omega)).trans hv2
      have hc_107 : σ_81 24 = q_an G 256 o := (hf_80 24 (by omega)).trans hv3
      have hc_108 : σ_81 224 = q_rn G 2 2 (fun j => some (243 + 18 * j)) := (hf_80 224 (by omega)).trans hv4
      have hc_109 : σ_81 225 = q_bn G 2 kp := (hf_80 225 (by omega)).trans hv5
      have hc_110 : σ_81 280 = q_an G 265 g := (hf_80 280 (by omega)).trans hv7
      have hc_111 : σ_81 281 = q_an G 265 wk := (hf_80 281 (by omega)).trans hv8
      have hc_112 : σ_81 282 = q_an G 265 as := (hf_80 282 (by omega)).trans hv9
      have hc_113 : σ_81 284 = q_an G 2120 a := (hf_80 284 (by omega)).trans hv11
      have hc_114 : σ_81 285 = q_bn G 1681 fb := (hf_80 285 (by omega)).trans hv12
      have hc_115 : σ_81 286 = q_an G 1681 nv := (hf_80 286 (by omega)).trans hv13
      have hc_116 : σ_81 287 = q_an G 1681 ns := (hf_80 287 (by omega)).trans hv14
      have hc_117 : σ_81 288 = q_an G 2000 mk := (hf_80 288 (by omega)).trans hv15
      have hc_118 : σ_81 289 = q_an G 6724 va := (hf_80 289 (by omega)).trans hv16
      have hc_119 : σ_81 290 = q_an G 6724 sp := (hf_80 290 (by omega)).trans hv17
      have hc_120 : σ_81 291 = q_an G 80 lp := (hf_80 291 (by omega)).trans hv18
      have hc_121 : σ_81 292 = q_an G 600 f := (hf_80 292 (by omega)).trans hv19
      have hc_122 : σ_81 293 = q_an G 300 ou := (hf_80 293 (by omega)).trans hv20
      have hc_123 : σ_81 294 = q_ln G 1 oL := (hf_80 294 (by omega)).trans hv21
      have hc_124 : σ_81 295 = q_dn G 1 oD := (hf_80 295 (by omega)).trans hv22
      exact (Chxx s1M (by omega) (by omega) Mhse).elim
set_option maxRecDepth 100000 in
set_option maxHeartbeats 4000000 in
theorem law_c45 (G : GL) (K : KC) (Q : State → Prop) (hh : List (Nat × Nat × Nat × Nat)) (hg : Gd G K RL code 9 ret room_1 hh) (bS L : Nat) (xs : Nat → Int32) (hX : q_scr G K bS L xs) (i kc ks J : Nat) (hi : i + 5 < L) (hL31 : L < 2 ^ 31) (hkc : kc + 8 ≤ 601024) (hks : ks + 48 ≤ 7293034) (σ : Nat → va_E) (hI : iv G σ J) (hJ : J < 512) (hfd : q_fdn) (hdd : q_ddn) (hf2 : q_f2n) (hds : q_dcs) (hnxt : ∀ σ9 : Nat → va_E, iv G σ9 (J + 1) → AJ G K Q (kc + 8) (ks + 48) false 296 3062 [some (.ref bS), some (.ref (q_h G + 0)), some (.ref (q_h G + 279)), some (.ref (q_h G + 294)), some (.ref (q_h G + 295)), some (.int (nI (i))), none, none, none] [] σ9) : AJ G K Q kc ks false 296 3006 [some (.ref bS), some (.ref (q_h G + 0)), some (.ref (q_h G + 279)), some (.ref (q_h G + 294)), some (.ref (q_h G + 295)), some (.int (nI (i))), none, none, none] [] σ := by
  refine iv_el hI ?_
  intro il z2 z3 f lo o g nx m ps kp sn F wk as sh a fb nv ns mk va sp lp mc z ss ou oL oD
  intro hv0 hv1 hv2 hv3 hv4 hv5 hv6 hv7 hv8 hv9 hv10 hv11 hv12 hv13 hv14 hv15 hv16 hv17 hv18 hv19 hv20 hv21 hv22
  intro hL hG hM hHi hO hT hH hSn hKp
  intro hil hfb hlo2 hou hgd hps hk1 hkss hss hsn hF5 hF6 hF12 hF16 hF21 hF22 hF23 hF33 hmc hmk hTI hlo
  have hfK : ∀ a b : Nat, a ≤ 8 → b ≤ 48 → kc + a ≤ room_1.cells ∧ ks + b ≤ room_1.slots := fun a b h1 h2 => ⟨by show kc + a ≤ 601024; omega, by show ks + b ≤ 7293034; omega⟩
  have hg9 := iv_g hG
  obtain ⟨hnx8, hm8, hc78⟩ := iv_hi hHi
  have hbb := iv_byte (m := il) hfb
  have hg90 := hg9.1
  have hg96 := hg9.2.2.2.2.1
  have hnp8 := s_np_le hg9
  refine A_aload_n hg dL_law_3006 rfl rfl ?_
  refine A_aload_n hg dL_law_3007 rfl rfl ?_
  refine A_iload hg dL_law_3008 rfl ?_
  refine A_iconst (v := (nI (1))) hg dL_law_3010 (by decide) ?_
  refine A_iaddN hg dL_law_3011 ?_
  refine A_sld hg hX (i + 1) (by omega) dL_law_3012 ?_
  refine A_aload_n hg dL_law_3013 rfl rfl ?_
  refine A_callSH (As := [.ref (q_h G + 0), .int (xs (i + 1)), .ref (q_h G + 294)]) (rest := []) hg lkH_300 stH_L_bringBack dL_law_3014 ⟨by decide, by decide⟩ (hfK 2 12 (by decide) (by decide)) rfl rfl (Nat.le_of_ble_eq_true rfl) (c_L_bringBack G 296 σ (nI (il)) z2 z3 g nx m ps kp sn (xs (i + 1)) oL hv0 hv4 hv5 hv21 (by omega) hG hHi hk1 hKp (by omega)) ?_
  rintro _ σ_1 (⟨s1C, rfl, Chxe, Chxl, Chkb, ChG2, ChHi2, hc_2, hf_3⟩ | ⟨rfl, Chxx, he_4⟩ | ⟨rfl, Chxx, he_5⟩)
  · skip
    refine (?_ : AJ G K Q (kc + 2) (ks + 12) false 296 3017 [some (.ref bS), some (.ref (q_h G + 0)), some (.ref (q_h G + 279)), some (.ref (q_h G + 294)), some (.ref (q_h G + 295)), some (.int (nI (i))), none, none, none] [.int (nI (0))] σ_1)
    have hc_6 : σ_1 0 = o10 G (nI (il)) (z2) (z3) := (hf_3 0 (by decide)).trans hv0
    have hc_7 : σ_1 1 = q_an G 600 f := (hf_3 1 (by decide)).trans hv1
    have hc_8 : σ_1 23 = o5 G (23) (nI (lo)) := (hf_3 23 (by decide)).trans hv2
    have hc_9 : σ_1 24 = q_an G 256 o := (hf_3 24 (by decide)).trans hv3
    have hc_10 : σ_1 224 = q_rn G 2 2 (fun j => some (243 + 18 * j)) := (hf_3 224 (by decide)).trans hv4
    have hc_11 : σ_1 225 = q_bn G 2 kp := (hf_3 225 (by decide)).trans hv5
    have hc_12 : σ_1 279 = o11 G F := (hf_3 279 (by decide)).trans hv6
    have hc_13 : σ_1 280 = q_an G 265 g := (hf_3 280 (by decide)).trans hv7
    have hc_14 : σ_1 281 = q_an G 265 wk := (hf_3 281 (by decide)).trans hv8
    have hc_15 : σ_1 282 = q_an G 265 as := (hf_3 282 (by decide)).trans hv9
    have hc_16 : σ_1 283 = q_an G 530 sh := (hf_3 283 (by decide)).trans hv10
    have hc_17 : σ_1 284 = q_an G 2120 a := (hf_3 284 (by decide)).trans hv11
    have hc_18 : σ_1 285 = q_bn G 1681 fb := (hf_3 285 (by decide)).trans hv12
    have hc_19 : σ_1 286 = q_an G 1681 nv := (hf_3 286 (by decide)).trans hv13
    have hc_20 : σ_1 287 = q_an G 1681 ns := (hf_3 287 (by decide)).trans hv14
    have hc_21 : σ_1 288 = q_an G 2000 mk := (hf_3 288 (by decide)).trans hv15
    have hc_22 : σ_1 289 = q_an G 6724 va := (hf_3 289 (by decide)).trans hv16
    have hc_23 : σ_1 290 = q_an G 6724 sp := (hf_3 290 (by decide)).trans hv17
    have hc_24 : σ_1 291 = q_an G 80 lp := (hf_3 291 (by decide)).trans hv18
    have hc_25 : σ_1 292 = q_an G 600 f := (hf_3 292 (by decide)).trans hv19
    have hc_26 : σ_1 293 = q_an G 300 ou := (hf_3 293 (by decide)).trans hv20
    have hc_27 : σ_1 295 = q_dn G 1 oD := (hf_3 295 (by decide)).trans hv22
    refine A_istore hg dL_law_3017 (by decide) (q_c1d rfl) ?_
    refine A_eq (ls2 := [some (.ref bS), some (.ref (q_h G + 0)), some (.ref (q_h G + 279)), some (.ref (q_h G + 294)), some (.ref (q_h G + 295)), some (.int (nI (i))), some (.int (nI (0))), none, none]) (st2 := []) (pc2 := 0) rfl rfl ?_
    refine A_aload_n hg dL_law_3019 rfl rfl ?_
    refine A_aload_n hg dL_law_3020 rfl rfl ?_
    refine A_iload hg dL_law_3021 rfl ?_
    refine A_iconst (v := (nI (1))) hg dL_law_3023 (by decide) ?_
    refine A_iaddN hg dL_law_3024 ?_
    refine A_sld hg hX (i + 1) (by omega) dL_law_3025 ?_
    refine A_hV (kc2 := kc + 2) (ks2 := ks + 12) (As := [.int (xs (i + 1))]) (rest := []) hg lk_RL_302 in_X11_bringBack se_X11_bringBack rfl dL_law_3026 ⟨by decide, by decide⟩ rfl rfl (hfK 2 12 (by decide) (by decide)) hc_12 (by omega) rfl rfl (Nat.le_of_ble_eq_true rfl) (c_X11_bringBack G false 296 σ_1 F g sh ss (xs (i + 1)) hc_12 hc_13 hc_16 (by omega) hF6 (by omega)) ?_
    rintro _ σ_35 (⟨rfl, Mhno, hc_28, hf_29⟩ | ⟨s1M, rfl, Mhse, Mhsl, Mhnb, hc_30, hf_31⟩ | ⟨s1M, rfl, Mhse, Mhsl, Mhb, hc_32, hc_33, hf_34⟩)
    · skip
      refine (?_ : AJ G K Q (kc + 2) (ks + 12) false 296 3029 [some (.ref bS), some (.ref (q_h G + 0)), some (.ref (q_h G + 279)), some (.ref (q_h G + 294)), some (.ref (q_h G + 295)), some (.int (nI (i))), some (.int (nI (0))), none, none] [.int (nI (0))] σ_35)
      have hc_28 : σ_35 279 = o11 G (upd F 7 (nI (1))) := hc_28
      have hc_36 : σ_35 0 = o10 G (nI (il)) (z2) (z3) := (hf_29 0 (by decide)).trans hc_6
      have hc_37 : σ_35 1 = q_an G 600 f := (hf_29 1 (by decide)).trans hc_7
      have hc_38 : σ_35 23 = o5 G (23) (nI (lo)) := (hf_29 23 (by decide)).trans hc_8
      have hc_39 : σ_35 24 = q_an G 256 o := (hf_29 24 (by decide)).trans hc_9
      have hc_40 : σ_35 224 = q_rn G 2 2 (fun j => some (243 + 18 * j)) := (hf_29 224 (by decide)).trans hc_10
      have hc_41 : σ_35 225 = q_bn G 2 kp := (hf_29 225 (by decide)).trans hc_11
      have hc_42 : σ_35 280 = q_an G 265 g := (hf_29 280 (by decide)).trans hc_13
      have hc_43 : σ_35 281 = q_an G 265 wk := (hf_29 281 (by decide)).trans hc_14
      have hc_44 : σ_35 282 = q_an G 265 as := (hf_29 282 (by decide)).trans hc_15
      have hc_45 : σ_35 283 = q_an G 530 sh := (hf_29 283 (by decide)).trans hc_16
      have hc_46 : σ_35 284 = q_an G 2120 a := (hf_29 284 (by decide)).trans hc_17
      have hc_47 : σ_35 285 = q_bn G 1681 fb := (hf_29 285 (by decide)).trans hc_18
      have hc_48 : σ_35 286 = q_an G 1681 nv := (hf_29 286 (by decide)).trans hc_19
      have hc_49 : σ_35 287 = q_an G 1681 ns := (hf_29 287 (by decide)).trans hc_20
      have hc_50 : σ_35 288 = q_an G 2000 mk := (hf_29 288 (by decide)).trans hc_21
      have hc_51 : σ_35 289 = q_an G 6724 va := (hf_29 289 (by decide)).trans hc_22
      have hc_52 : σ_35 290 = q_an G 6724 sp := (hf_29 290 (by decide)).trans hc_23
      have hc_53 : σ_35 291 = q_an G 80 lp := (hf_29 291 (by decide)).trans hc_24
      have hc_54 : σ_35 292 = q_an G 600 f := (hf_29 292 (by decide)).trans hc_25
      have hc_55 : σ_35 293 = q_an G 300 ou := (hf_29 293 (by decide)).trans hc_26
      have hc_56 : σ_35 295 = q_dn G 1 oD := (hf_29 295 (by decide)).trans hc_27
      have hc_57 : σ_35 294 = q_ln G 1 (va_up oL 0 ((nI (sn s1C 4)).toInt64)) := (hf_29 294 (by decide)).trans hc_2
      exact (Mhno s1C (by omega) (by omega) Chxe).elim
    · skip
      refine (?_ : AJ G K Q (kc + 2) (ks + 12) false 296 3029 [some (.ref bS), some (.ref (q_h G + 0)), some (.ref (q_h G + 279)), some (.ref (q_h G + 294)), some (.ref (q_h G + 295)), some (.int (nI (i))), some (.int (nI (0))), none, none] [.int (nI (0))] σ_35)
      have hc_30 : σ_35 279 = o11 G (upd F 7 (nI (2))) := hc_30
      have hc_58 : σ_35 0 = o10 G (nI (il)) (z2) (z3) := (hf_31 0 (by decide)).trans hc_6
      have hc_59 : σ_35 1 = q_an G 600 f := (hf_31 1 (by decide)).trans hc_7
      have hc_60 : σ_35 23 = o5 G (23) (nI (lo)) := (hf_31 23 (by decide)).trans hc_8
      have hc_61 : σ_35 24 = q_an G 256 o := (hf_31 24 (by decide)).trans hc_9
      have hc_62 : σ_35 224 = q_rn G 2 2 (fun j => some (243 + 18 * j)) := (hf_31 224 (by decide)).trans hc_10
      have hc_63 : σ_35 225 = q_bn G 2 kp := (hf_31 225 (by decide)).trans hc_11
      have hc_64 : σ_35 280 = q_an G 265 g := (hf_31 280 (by decide)).trans hc_13
      have hc_65 : σ_35 281 = q_an G 265 wk := (hf_31 281 (by decide)).trans hc_14
      have hc_66 : σ_35 282 = q_an G 265 as := (hf_31 282 (by decide)).trans hc_15
      have hc_67 : σ_35 283 = q_an G 530 sh := (hf_31 283 (by decide)).trans hc_16
      have hc_68 : σ_35 284 = q_an G 2120 a := (hf_31 284 (by decide)).trans hc_17
      have hc_69 : σ_35 285 = q_bn G 1681 fb := (hf_31 285 (by decide)).trans hc_18
      have hc_70 : σ_35 286 = q_an G 1681 nv := (hf_31 286 (by decide)).trans hc_19
      have hc_71 : σ_35 287 = q_an G 1681 ns := (hf_31 287 (by decide)).trans hc_20
      have hc_72 : σ_35 288 = q_an G 2000 mk := (hf_31 288 (by decide)).trans hc_21
      have hc_73 : σ_35 289 = q_an G 6724 va := (hf_31 289 (by decide)).trans hc_22
      have hc_74 : σ_35 290 = q_an G 6724 sp := (hf_31 290 (by decide)).trans hc_23
      have hc_75 : σ_35 291 = q_an G 80 lp := (hf_31 291 (by decide)).trans hc_24
      have hc_76 : σ_35 292 = q_an G 600 f := (hf_31 292 (by decide)).trans hc_25
      have hc_77 : σ_35 293 = q_an G 300 ou := (hf_31 293 (by decide)).trans hc_26
      have hc_78 : σ_35 295 = q_dn G 1 oD := (hf_31 295 (by decide)).trans hc_27
      have hc_79 : σ_35 294 = q_ln G 1 (va_up oL 0 ((nI (sn s1C 4)).toInt64)) := (hf_31 294 (by decide)).trans hc_2
      have e_x : s1C = s1M := q_nI_inj (by omega) (by omega) (Chxe.symm.trans Mhse)
      subst e_x
      exact absurd (((hkss s1C (by omega)).mp Chkb).symm.trans Mhnb) (by decide)
    · skip
      refine (?_ : AJ G K Q (kc + 2) (ks + 12) false 296 3029 [some (.ref bS), some (.ref (q_h G + 0)), some (.ref (q_h G + 279)), some (.ref (q_h G + 294)), some (.ref (q_h G + 295)), some (.int (nI (i))), some (.int (nI (0))), none, none] [.int (nI (sh (265 * s1M + 4)))] σ_35)
      have hc_32 : σ_35 279 = o11 G (upd (upd F 5 (nI (0))) 7 (nI (0))) := hc_32
      have hc_80 : σ_35 0 = o10 G (nI (il)) (z2) (z3) := (hf_34 0 (by decide)).trans hc_6
      have hc_81 : σ_35 1 = q_an G 600 f := (hf_34 1 (by decide)).trans hc_7
      have hc_82 : σ_35 23 = o5 G (23) (nI (lo)) := (hf_34 23 (by decide)).trans hc_8
      have hc_83 : σ_35 24 = q_an G 256 o := (hf_34 24 (by decide)).trans hc_9
      have hc_84 : σ_35 224 = q_rn G 2 2 (fun j => some (243 + 18 * j)) := (hf_34 224 (by decide)).trans hc_10
      have hc_85 : σ_35 225 = q_bn G 2 kp := (hf_34 225 (by decide)).trans hc_11
      have hc_86 : σ_35 281 = q_an G 265 wk := (hf_34 281 (by decide)).trans hc_14
      have hc_87 : σ_35 282 = q_an G 265 as := (hf_34 282 (by decide)).trans hc_15
      have hc_88 : σ_35 283 = q_an G 530 sh := (hf_34 283 (by decide)).trans hc_16
      have hc_89 : σ_35 284 = q_an G 2120 a := (hf_34 284 (by decide)).trans hc_17
      have hc_90 : σ_35 285 = q_bn G 1681 fb := (hf_34 285 (by decide)).trans hc_18
      have hc_91 : σ_35 286 = q_an G 1681 nv := (hf_34 286 (by decide)).trans hc_19
      have hc_92 : σ_35 287 = q_an G 1681 ns := (hf_34 287 (by decide)).trans hc_20
      have hc_93 : σ_35 288 = q_an G 2000 mk := (hf_34 288 (by decide)).trans hc_21
      have hc_94 : σ_35 289 = q_an G 6724 va := (hf_34 289 (by decide)).trans hc_22
      have hc_95 : σ_35 290 = q_an G 6724 sp := (hf_34 290 (by decide)).trans hc_23
      have hc_96 : σ_35 291 = q_an G 80 lp := (hf_34 291 (by decide)).trans hc_24
      have hc_97 : σ_35 292 = q_an G 600 f := (hf_34 292 (by decide)).trans hc_25
      have hc_98 : σ_35 293 = q_an G 300 ou := (hf_34 293 (by decide)).trans hc_26
      have hc_99 : σ_35 295 = q_dn G 1 oD := (hf_34 295 (by decide)).trans hc_27
      have hc_100 : σ_35 294 = q_ln G 1 (va_up oL 0 ((nI (sn s1C 4)).toInt64)) := (hf_34 294 (by decide)).trans hc_2
      have e_x : s1C = s1M := q_nI_inj (by omega) (by omega) (Chxe.symm.trans Mhse)
      subst e_x
      refine A_canon (sn s1C) hc_33 (fun jj hj => (hsn s1C (by omega) Chkb).1 jj hj) (fun σ_101 hc_102 hf_103 => ?_)
      have hc_104 : σ_101 0 = o10 G (nI (il)) (z2) (z3) := (hf_103 0 (by decide)).trans hc_80
      have hc_105 : σ_101 1 = q_an G 600 f := (hf_103 1 (by decide)).trans hc_81
      have hc_106 : σ_101 23 = o5 G (23) (nI (lo)) := (hf_103 23 (by decide)).trans hc_82
      have hc_107 : σ_101 24 = q_an G 256 o := (hf_103 24 (by decide)).trans hc_83
      have hc_108 : σ_101 224 = q_rn G 2 2 (fun j => some (243 + 18 * j)) := (hf_103 224 (by decide)).trans hc_84
      have hc_109 : σ_101 225 = q_bn G 2 kp := (hf_103 225 (by decide)).trans hc_85
      have hc_110 : σ_101 281 = q_an G 265 wk := (hf_103 281 (by decide)).trans hc_86
      have hc_111 : σ_101 282 = q_an G 265 as := (hf_103 282 (by decide)).trans hc_87
      have hc_112 : σ_101 283 = q_an G 530 sh := (hf_103 283 (by decide)).trans hc_88
      have hc_113 : σ_101 284 = q_an G 2120 a := (hf_103 284 (by decide)).trans hc_89
      have hc_114 : σ_101 285 = q_bn G 1681 fb := (hf_103 285 (by decide)).trans hc_90
      have hc_115 : σ_101 286 = q_an G 1681 nv := (hf_103 286 (by decide)).trans hc_91
      have hc_116 : σ_101 287 = q_an G 1681 ns := (hf_103 287 (by decide)).trans hc_92
      have hc_117 : σ_101 288 = q_an G 2000 mk := (hf_103 288 (by decide)).trans hc_93
      have hc_118 : σ_101 289 = q_an G 6724 va := (hf_103 289 (by decide)).trans hc_94
      have hc_119 : σ_101 290 = q_an G 6724 sp := (hf_103 290 (by decide)).trans hc_95
      have hc_120 : σ_101 291 = q_an G 80 lp := (hf_103 291 (by decide)).trans hc_96
      have hc_121 : σ_101 292 = q_an G 600 f := (hf_103 292 (by decide)).trans hc_97
      have hc_122 : σ_101 293 = q_an G 300 ou := (hf_103 293 (by decide)).trans hc_98
      have hc_123 : σ_101 295 = q_dn G 1 oD := (hf_103 295 (by decide)).trans hc_99
      have hc_124 : σ_101 294 = q_ln G 1 (va_up oL 0 ((nI (sn s1C 4)).toInt64)) := (hf_103 294 (by decide)).trans hc_100
      have hc_125 : σ_101 279 = o11 G (upd (upd F 5 (nI (0))) 7 (nI (0))) := (hf_103 279 (by decide)).trans hc_32
      refine A_top (w := .int (nI (sn s1C 4))) (by rw [(hsn s1C (by omega) Chkb).1 4 (by decide)]) ?_
      refine A_istore hg dL_law_3029 (by decide) (q_c1d rfl) ?_
      refine A_eq (ls2 := [some (.ref bS), some (.ref (q_h G + 0)), some (.ref (q_h G + 279)), some (.ref (q_h G + 294)), some (.ref (q_h G + 295)), some (.int (nI (i))), some (.int (nI (0))), some (.int (nI (sn s1C 4))), none]) (st2 := []) (pc2 := 0) rfl rfl ?_
      refine A_aload_n hg dL_law_3031 rfl rfl ?_
      refine A_eV (kc2 := kc + 2) (ks2 := ks + 12) (As := []) (rest := []) hg lk_RL_170 in_X11_thrown se_X11_thrown rfl dL_law_3032 ⟨by decide, by decide⟩ rfl rfl (hfK 2 12 (by decide) (by decide)) hc_125 (by omega) rfl rfl (Nat.le_of_ble_eq_true rfl) (c_X11_thrown G false 296 σ_101 (upd (upd F 5 (nI (0))) 7 (nI (0))) hc_125 (by omega)) ?_
      refine A_top (w := .int (nI (0))) (congrArg Value.int rfl) ?_
      refine A_iload hg dL_law_3035 rfl ?_
      refine A_icmp_eqN (tgt := 3042) hg dL_law_3037 (by decide) (by decide) (by decide) (fun c3037 => ?_) (fun c3037 => False.elim (by omega))
      refine A_iload hg dL_law_3042 rfl ?_
      refine A_if_neN (tgt := 3059) hg dL_law_3044 (by decide) (by decide) (fun c3044 => absurd (by decide) c3044) (fun c3044 => ?_)
      refine A_aload_n hg dL_law_3047 rfl rfl ?_
      refine A_iconst (v := (nI (0))) hg dL_law_3048 (by decide) ?_
      refine A_lald (j := 0) hg dL_law_3049 hc_124 (by omega) (by decide) (by decide) ?_
      refine A_top (w := .long ((nI (sn s1C 4)).toInt64)) (congrArg Value.long iv_up0) ?_
      refine A_iload hg dL_law_3050 rfl ?_
      refine A_i2l (v := (nI (sn s1C 4)).toInt64) hg dL_law_3052 rfl ?_
      refine A_lcmp hg dL_law_3053 ?_
      refine A_top (w := .int (nI 0)) (congrArg Value.int (lc_self _)) ?_
      refine A_if_eqN (tgt := 3059) hg dL_law_3054 (by decide) (by decide) (fun c3054 => ?_) (fun c3054 => absurd (by decide) c3054)
      refine A_goto (tgt := 3062) hg dL_law_3059 (by decide) ?_
      refine A_drop 6 ?_
      refine A_drop 7 ?_
      refine A_eq (ls2 := [some (.ref bS), some (.ref (q_h G + 0)), some (.ref (q_h G + 279)), some (.ref (q_h G + 294)), some (.ref (q_h G + 295)), some (.int (nI (i))), none, none, none]) (st2 := []) (pc2 := 0) rfl rfl ?_
      refine A_wide (kc2 := kc + 8) (ks2 := ks + 48) (by omega) (by omega) ?_
      exact hnxt _ (iv_mk il z2 z3 f lo o (sn s1C) nx 0 ps kp sn (upd (upd F 5 (nI (0))) 7 (nI (0))) wk as sh a fb nv ns mk va sp lp mc z ss ou (va_up oL 0 ((nI (sn s1C 4)).toInt64)) oD hc_104 hc_105 hc_106 hc_107 hc_108 hc_109 hc_125 hc_102 hc_110 hc_111 hc_112 hc_113 hc_114 hc_115 hc_116 hc_117 hc_118 hc_119 hc_120 hc_121 hc_122 hc_124 hc_123 (x_lj_e (fun i _ _ => ((hf_103 i (by omega)).trans ((hf_34 i (by omega)).trans (hf_3 i (by omega))))) hL) (x_gm_e (fun i _ _ => ((hf_103 i (by omega)).trans (hf_34 i (by omega)))) ChG2) (x_mx_e (fun i _ _ => ((hf_103 i (by omega)).trans ((hf_34 i (by omega)).trans (hf_3 i (by omega))))) hM) (x_hi_e (fun i _ _ => ((hf_103 i (by omega)).trans (hf_34 i (by omega)))) ChHi2) (x_oj_e (fun i _ _ => ((hf_103 i (by omega)).trans ((hf_34 i (by omega)).trans (hf_3 i (by omega))))) hO) (x_pj_e (fun i _ _ => ((hf_103 i (by omega)).trans ((hf_34 i (by omega)).trans (hf_3 i (by omega))))) hT) (iv_hn (fun i _ _ => ((hf_103 i (by omega)).trans ((hf_34 i (by omega)).trans (hf_3 i (by omega))))) hH) (iv_Sn (fun i _ _ => ((hf_103 i (by omega)).trans ((hf_34 i (by omega)).trans (hf_3 i (by omega))))) hSn) (iv_Kp (fun i _ _ => ((hf_103 i (by omega)).trans ((hf_34 i (by omega)).trans (hf_3 i (by omega))))) hKp) (by omega) hfb (by omega) hou ((hsn s1C (by omega) Chkb).2) (fun q hq => absurd hq (Nat.not_lt_zero q)) hk1 hkss hss hsn rfl hF6 hF12 hF16 hF21 hF22 hF23 hF33 (by omega) hmk hTI hlo)
  · skip
    rw [he_4]
    refine (?_ : AJ G K Q (kc + 2) (ks + 12) false 296 3017 [some (.ref bS), some (.ref (q_h G + 0)), some (.ref (q_h G + 279)), some (.ref (q_h G + 294)), some (.ref (q_h G + 295)), some (.int (nI (i))), none, none, none] [.int (nI (1))] σ)
    refine A_istore hg dL_law_3017 (by decide) (q_c1d rfl) ?_
    refine A_eq (ls2 := [some (.ref bS), some (.ref (q_h G + 0)), some (.ref (q_h G + 279)), some (.ref (q_h G + 294)), some (.ref (q_h G + 295)), some (.int (nI (i))), some (.int (nI (1))), none, none]) (st2 := []) (pc2 := 0) rfl rfl ?_
    refine A_aload_n hg dL_law_3019 rfl rfl ?_
    refine A_aload_n hg dL_law_3020 rfl rfl ?_
    refine A_iload hg dL_law_3021 rfl ?_
    refine A_iconst (v := (nI (1))) hg dL_law_3023 (by decide) ?_
    refine A_iaddN hg dL_law_3024 ?_
    refine A_sld hg hX (i + 1) (by omega) dL_law_3025 ?_
    refine A_hV (kc2 := kc + 2) (ks2 := ks + 12) (As := [.int (xs (i + 1))]) (rest := []) hg lk_RL_302 in_X11_bringBack se_X11_bringBack rfl dL_law_3026 ⟨by decide, by decide⟩ rfl rfl (hfK 2 12 (by decide) (by decide)) hv6 (by omega) rfl rfl (Nat.le_of_ble_eq_true rfl) (c_X11_bringBack G false 296 σ F g sh ss (xs (i + 1)) hv6 hv7 hv10 (by omega) hF6 (by omega)) ?_
    rintro _ σ_133 (⟨rfl, Mhno, hc_126, hf_127⟩ | ⟨s1M, rfl, Mhse, Mhsl, Mhnb, hc_128, hf_129⟩ | ⟨s1M, rfl, Mhse, Mhsl, Mhb, hc_130, hc_131, hf_132⟩)
    · skip
      refine (?_ : AJ G K Q (kc + 2) (ks + 12) false 296 3029 [some (.ref bS), some (.ref (q_h G + 0)), some (.ref (q_h G + 279)), some (.ref (q_h G + 294)), some (.ref (q_h G + 295)), some (.int (nI (i))), some (.int (nI (1))), none, none] [.int (nI (0))] σ_133)
      have hc_126 : σ_133 279 = o11 G (upd F 7 (nI (1))) := hc_126
      have hc_134 : σ_133 0 = o10 G (nI (il)) (z2) (z3) := (hf_127 0 (by decide)).trans hv0
      have hc_135 : σ_133 1 = q_an G 600 f := (hf_127 1 (by decide)).trans hv1
      have hc_136 : σ_133 23 = o5 G (23) (nI (lo)) := (hf_127 23 (by decide)).trans hv2
      have hc_137 : σ_133 24 = q_an G 256 o := (hf_127 24 (by decide)).trans hv3
      have hc_138 : σ_133 224 = q_rn G 2 2 (fun j => some (243 + 18 * j)) := (hf_127 224 (by decide)).trans hv4
      have hc_139 : σ_133 225 = q_bn G 2 kp := (hf_127 225 (by decide)).trans hv5
      have hc_140 : σ_133 280 = q_an G 265 g := (hf_127 280 (by decide)).trans hv7
      have hc_141 : σ_133 281 = q_an G 265 wk := (hf_127 281 (by decide)).trans hv8
      have hc_142 : σ_133 282 = q_an G 265 as := (hf_127 282 (by decide)).trans hv9
      have hc_143 : σ_133 283 = q_an G 530 sh := (hf_127 283 (by decide)).trans hv10
      have hc_144 : σ_133 284 = q_an G 2120 a := (hf_127 284 (by decide)).trans hv11
      have hc_145 : σ_133 285 = q_bn G 1681 fb := (hf_127 285 (by decide)).trans hv12
      have hc_146 : σ_133 286 = q_an G 1681 nv := (hf_127 286 (by decide)).trans hv13
      have hc_147 : σ_133 287 = q_an G 1681 ns := (hf_127 287 (by decide)).trans hv14
      have hc_148 : σ_133 288 = q_an G 2000 mk := (hf_127 288 (by decide)).trans hv15
      have hc_149 : σ_133 289 = q_an G 6724 va := (hf_127 289 (by decide)).trans hv16
      have hc_150 : σ_133 290 = q_an G 6724 sp := (hf_127 290 (by decide)).trans hv17
      have hc_151 : σ_133 291 = q_an G 80 lp := (hf_127 291 (by decide)).trans hv18
      have hc_152 : σ_133 292 = q_an G 600 f := (hf_127 292 (by decide)).trans hv19
      have hc_153 : σ_133 293 = q_an G 300 ou := (hf_127 293 (by decide)).trans hv20
      have hc_154 : σ_133 294 = q_ln G 1 oL := (hf_127 294 (by decide)).trans hv21
      have hc_155 : σ_133 295 = q_dn G 1 oD := (hf_127 295 (by decide)).trans hv22
      refine A_istore hg dL_law_3029 (by decide) (q_c1d rfl) ?_
      refine A_eq (ls2 := [some (.ref bS), some (.ref (q_h G + 0)), some (.ref (q_h G + 279)), some (.ref (q_h G + 294)), some (.ref (q_h G + 295)), some (.int (nI (i))), some (.int (nI (1))), some (.int (nI (0))), none]) (st2 := []) (pc2 := 0) rfl rfl ?_
      refine A_aload_n hg dL_law_3031 rfl rfl ?_
      refine A_eV (kc2 := kc + 2) (ks2 := ks + 12) (As := []) (rest := []) hg lk_RL_170 in_X11_thrown se_X11_thrown rfl dL_law_3032 ⟨by decide, by decide⟩ rfl rfl (hfK 2 12 (by decide) (by decide)) hc_126 (by omega) rfl rfl (Nat.le_of_ble_eq_true rfl) (c_X11_thrown G false 296 σ_133 (upd F 7 (nI (1))) hc_126 (by omega)) ?_
      refine A_top (w := .int (nI (1))) (congrArg Value.int rfl) ?_
      refine A_iload hg dL_law_3035 rfl ?_
      refine A_icmp_eqN (tgt := 3042) hg dL_law_3037 (by decide) (by decide) (by decide) (fun c3037 => ?_) (fun c3037 => False.elim (by omega))
      refine A_iload hg dL_law_3042 rfl ?_
      refine A_if_neN (tgt := 3059) hg dL_law_3044 (by decide) (by decide) (fun c3044 => ?_) (fun c3044 => absurd c3044 (by decide))
      refine A_goto (tgt := 3062) hg dL_law_3059 (by decide) ?_
      refine A_drop 6 ?_
      refine A_drop 7 ?_
      refine A_eq (ls2 := [some (.ref bS), some (.ref (q_h G + 0)), some (.ref (q_h G + 279)), some (.ref (q_h G + 294)), some (.ref (q_h G + 295)), some (.int (nI (i))), none, none, none]) (st2 := []) (pc2 := 0) rfl rfl ?_
      refine A_wide (kc2 := kc + 8) (ks2 := ks + 48) (by omega) (by omega) ?_
      exact hnxt _ (iv_mk il z2 z3 f lo o g nx m ps kp sn (upd F 7 (nI (1))) wk as sh a fb nv ns mk va sp lp mc z ss ou oL oD hc_134 hc_135 hc_136 hc_137 hc_138 hc_139 hc_126 hc_140 hc_141 hc_142 hc_143 hc_144 hc_145 hc_146 hc_147 hc_148 hc_149 hc_150 hc_151 hc_152 hc_153 hc_154 hc_155 (x_lj_e (fun i _ _ => (hf_127 i (by omega))) hL) (x_gm_e (fun i _ _ => (hf_127 i (by omega))) hG) (x_mx_e (fun i _ _ => (hf_127 i (by omega))) hM) (x_hi_e (fun i _ _ => (hf_127 i (by omega))) hHi) (x_oj_e (fun i _ _ => (hf_127 i (by omega))) hO) (x_pj_e (fun i _ _ => (hf_127 i (by omega))) hT) (iv_hn (fun i _ _ => (hf_127 i (by omega))) hH) (iv_Sn (fun i _ _ => (hf_127 i (by omega))) hSn) (iv_Kp (fun i _ _ => (hf_127 i (by omega))) hKp) (by omega) hfb (by omega) hou hgd hps hk1 hkss hss hsn hF5 hF6 hF12 hF16 hF21 hF22 hF23 hF33 (by omega) hmk hTI hlo)
    · skip
      refine (?_ : AJ G K Q (kc + 2) (ks + 12) false 296 3029 [some (.ref bS), some (.ref (q_h G + 0)), some (.ref (q_h G + 279)), some (.ref (q_h G + 294)), some (.ref (q_h G + 295)), some (.int (nI (i))), some (.int (nI (1))), none, none] [.int (nI (0))] σ_133)
      have hc_128 : σ_133 279 = o11 G (upd F 7 (nI (2))) := hc_128
      have hc_156 : σ_133 0 = o10 G (nI (il)) (z2) (z3) := (hf_129 0 (by decide)).trans hv0
      have hc_157 : σ_133 1 = q_an G 600 f := (hf_129 1 (by decide)).trans hv1
      have hc_158 : σ_133 23 = o5 G (23) (nI (lo)) := (hf_129 23 (by decide)).trans hv2
      have hc_159 : σ_133 24 = q_an G 256 o := (hf_129 24 (by decide)).trans hv3
      have hc_160 : σ_133 224 = q_rn G 2 2 (fun j => some (243 + 18 * j)) := (hf_129 224 (by decide)).trans hv4
      have hc_161 : σ_133 225 = q_bn G 2 kp := (hf_129 225 (by decide)).trans hv5
      have hc_162 : σ_133 280 = q_an G 265 g := (hf_129 280 (by decide)).trans hv7
      have hc_163 : σ_133 281 = q_an G 265 wk := (hf_129 281 (by decide)).trans hv8
      have hc_164 : σ_133 282 = q_an G 265 as := (hf_129 282 (by decide)).trans hv9
      have hc_165 : σ_133 283 = q_an G 530 sh := (hf_129 283 (by decide)).trans hv10
      have hc_166 : σ_133 284 = q_an G 2120 a := (hf_129 284 (by decide)).trans hv11
      have hc_167 : σ_133 285 = q_bn G 1681 fb := (hf_129 285 (by decide)).trans hv12
      have hc_168 : σ_133 286 = q_an G 1681 nv := (hf_129 286 (by decide)).trans hv13
      have hc_169 : σ_133 287 = q_an G 1681 ns := (hf_129 287 (by decide)).trans hv14
      have hc_170 : σ_133 288 = q_an G 2000 mk := (hf_129 288 (by decide)).trans hv15
      have hc_171 : σ_133 289 = q_an G 6724 va := (hf_129 289 (by decide)).trans hv16
      have hc_172 : σ_133 290 = q_an G 6724 sp := (hf_129 290 (by decide)).trans hv17
      have hc_173 : σ_133 291 = q_an G 80 lp := (hf_129 291 (by decide)).trans hv18
      have hc_174 : σ_133 292 = q_an G 600 f := (hf_129 292 (by decide)).trans hv19
      have hc_175 : σ_133 293 = q_an G 300 ou := (hf_129 293 (by decide)).trans hv20
      have hc_176 : σ_133 294 = q_ln G 1 oL := (hf_129 294 (by decide)).trans hv21
      have hc_177 : σ_133 295 = q_dn G 1 oD := (hf_129 295 (by decide)).trans hv22
      exact (Chxx s1M (by omega) (by omega) Mhse).elim
    · skip
      refine (?_ : AJ G K Q (kc + 2) (ks + 12) false 296 3029 [some (.ref bS), some (.ref (q_h G + 0)), some (.ref (q_h G + 279)), some (.ref (q_h G + 294)), some (.ref (q_h G + 295)), some (.int (nI (i))), some (.int (nI (1))), none, none] [.int (nI (sh (265 * s1M + 4)))] σ_133)
      have hc_130 : σ_133 279 = o11 G (upd (upd F 5 (nI (0))) 7 (nI (0))) := hc_130
      have hc_178 : σ_133 0 = o10 G (nI (il)) (z2) (z3) := (hf_132 0 (by decide)).trans hv0
      have hc_179 : σ_133 1 = q_an G 600 f := (hf_132 1 (by decide)).trans hv1
      have hc_180 : σ_133 23 = o5 G (23) (nI (lo)) := (hf_132 23 (by decide)).trans hv2
      have hc_181 : σ_133 24 = q_an G 256 o := (hf_132 24 (by decide)).trans hv3
      have hc_182 : σ_133 224 = q_rn G 2 2 (fun j => some (243 + 18 * j)) := (hf_132 224 (by decide)).trans hv4
      have hc_183 : σ_133 225 = q_bn G 2 kp := (hf_132 225 (by decide)).trans hv5
      have hc_184 : σ_133 281 = q_an G 265 wk := (hf_132 281 (by decide)).trans hv8
      have hc_185 : σ_133 282 = q_an G 265 as := (hf_132 282 (by decide)).trans hv9
      have hc_186 : σ_133 283 = q_an G 530 sh := (hf_132 283 (by decide)).trans hv10
      have hc_187 : σ_133 284 = q_an G 2120 a := (hf_132 284 (by decide)).trans hv11
      have hc_188 : σ_133 285 = q_bn G 1681 fb := (hf_132 285 (by decide)).trans hv12
      have hc_189 : σ_133 286 = q_an G 1681 nv := (hf_132 286 (by decide)).trans hv13
      have hc_190 : σ_133 287 = q_an G 1681 ns := (hf_132 287 (by decide)).trans hv14
      have hc_191 : σ_133 288 = q_an G 2000 mk := (hf_132 288 (by decide)).trans hv15
      have hc_192 : σ_133 289 = q_an G 6724 va := (hf_132 289 (by decide)).trans hv16
      have hc_193 : σ_133 290 = q_an G 6724 sp := (hf_132 290 (by decide)).trans hv17
      have hc_194 : σ_133 291 = q_an G 80 lp := (hf_132 291 (by decide)).trans hv18
      have hc_195 : σ_133 292 = q_an G 600 f := (hf_132 292 (by decide)).trans hv19
      have hc_196 : σ_133 293 = q_an G 300 ou := (hf_132 293 (by decide)).trans hv20
      have hc_197 : σ_133 294 = q_ln G 1 oL := (hf_132 294 (by decide)).trans hv21
      have hc_198 : σ_133 295 = q_dn G 1 oD := (hf_132 295 (by decide)).trans hv22
      exact (Chxx s1M (by omega) (by omega) Mhse).elim
  · skip
    rw [he_5]
    refine (?_ : AJ G K Q (kc + 2) (ks + 12) false 296 3017 [some (.ref bS), some (.ref (q_h G + 0)), some (.ref (q_h G + 279)), some (.ref (q_h G + 294)), some (.ref (q_h G + 295)), some (.int (nI (i))), none, none, none] [.int (nI (2))] σ)
    obtain ⟨s1C, Chx0, Chx1, Chx2⟩ := Chxx
    refine A_istore hg dL_law_3017 (by decide) (q_c1d rfl) ?_
    refine A_eq (ls2 := [some (.ref bS), some (.ref (q_h G + 0)), some (.ref (q_h G + 279)), some (.ref (q_h G + 294)), some (.ref (q_h G + 295)), some (.int (nI (i))), some (.int (nI (2))), none, none]) (st2 := []) (pc2 := 0) rfl rfl ?_
    refine A_aload_n hg dL_law_3019 rfl rfl ?_
    refine A_aload_n hg dL_law_3020 rfl rfl ?_
    refine A_iload hg dL_law_3021 rfl ?_
    refine A_iconst (v := (nI (1))) hg dL_law_3023 (by decide) ?_
    refine A_iaddN hg dL_law_3024 ?_
    refine A_sld hg hX (i + 1) (by omega) dL_law_3025 ?_
    refine A_hV (kc2 := kc + 2) (ks2 := ks + 12) (As := [.int (xs (i + 1))]) (rest := []) hg lk_RL_302 in_X11_bringBack se_X11_bringBack rfl dL_law_3026 ⟨by decide, by decide⟩ rfl rfl (hfK 2 12 (by decide) (by decide)) hv6 (by omega) rfl rfl (Nat.le_of_ble_eq_true rfl) (c_X11_bringBack G false 296 σ F g sh ss (xs (i + 1)) hv6 hv7 hv10 (by omega) hF6 (by omega)) ?_
    rintro _ σ_206 (⟨rfl, Mhno, hc_199, hf_200⟩ | ⟨s1M, rfl, Mhse, Mhsl, Mhnb, hc_201, hf_202⟩ | ⟨s1M, rfl, Mhse, Mhsl, Mhb, hc_203, hc_204, hf_205⟩)
    · skip
      refine (?_ : AJ G K Q (kc + 2) (ks + 12) false 296 3029 [some (.ref bS), some (.ref (q_h G + 0)), some (.ref (q_h G + 279)), some (.ref (q_h G + 294)), some (.ref (q_h G + 295)), some (.int (nI (i))), some (.int (nI (2))), none, none] [.int (nI (0))] σ_206)
      have hc_199 : σ_206 279 = o11 G (upd F 7 (nI (1))) := hc_199
      have hc_207 : σ_206 0 = o10 G (nI (il)) (z2) (z3) := (hf_200 0 (by decide)).trans hv0
      have hc_208 : σ_206 1 = q_an G 600 f := (hf_200 1 (by decide)).trans hv1
      have hc_209 : σ_206 23 = o5 G (23) (nI (lo)) := (hf_200 23 (by decide)).trans hv2
      have hc_210 : σ_206 24 = q_an G 256 o := (hf_200 24 (by decide)).trans hv3
      have hc_211 : σ_206 224 = q_rn G 2 2 (fun j => some (243 + 18 * j)) := (hf_200 224 (by decide)).trans hv4
      have hc_212 : σ_206 225 = q_bn G 2 kp := (hf_200 225 (by decide)).trans hv5
      have hc_213 : σ_206 280 = q_an G 265 g := (hf_200 280 (by decide)).trans hv7
      have hc_214 : σ_206 281 = q_an G 265 wk := (hf_200 281 (by decide)).trans hv8
      have hc_215 : σ_206 282 = q_an G 265 as := (hf_200 282 (by decide)).trans hv9
      have hc_216 : σ_206 283 = q_an G 530 sh := (hf_200 283 (by decide)).trans hv10
      have hc_217 : σ_206 284 = q_an G 2120 a := (hf_200 284 (by decide)).trans hv11
      have hc_218 : σ_206 285 = q_bn G 1681 fb := (hf_200 285 (by decide)).trans hv12
      have hc_219 : σ_206 286 = q_an G 1681 nv := (hf_200 286 (by decide)).trans hv13
      have hc_220 : σ_206 287 = q_an G 1681 ns := (hf_200 287 (by decide)).trans hv14
      have hc_221 : σ_206 288 = q_an G 2000 mk := (hf_200 288 (by decide)).trans hv15
      have hc_222 : σ_206 289 = q_an G 6724 va := (hf_200 289 (by decide)).trans hv16
      have hc_223 : σ_206 290 = q_an G 6724 sp := (hf_200 290 (by decide)).trans hv17
      have hc_224 : σ_206 291 = q_an G 80 lp := (hf_200 291 (by decide)).trans hv18
      have hc_225 : σ_206 292 = q_an G 600 f := (hf_200 292 (by decide)).trans hv19
      have hc_226 : σ_206 293 = q_an G 300 ou := (hf_200 293 (by decide)).trans hv20
      have hc_227 : σ_206 294 = q_ln G 1 oL := (hf_200 294 (by decide)).trans hv21
      have hc_228 : σ_206 295 = q_dn G 1 oD := (hf_200 295 (by decide)).trans hv22
      exact (Mhno s1C (by omega) (by omega) Chx0).elim
    · skip
      refine (?_ : AJ G K Q (kc + 2) (ks + 12) false 296 3029 [some (.ref bS), some (.ref (q_h G + 0)), some (.ref (q_h G + 279)), some (.ref (q_h G + 294)), some (.ref (q_h G + 295)), some (.int (nI (i))), some (.int (nI (2))), none, none] [.int (nI (0))] σ_206)
      have hc_201 : σ_206 279 = o11 G (upd F 7 (nI (2))) := hc_201
      have hc_229 : σ_206 0 = o10 G (nI (il)) (z2) (z3) := (hf_202 0 (by decide)).trans hv0
      have hc_230 : σ_206 1 = q_an G 600 f := (hf_202 1 (by decide)).trans hv1
      have hc_231 : σ_206 23 = o5 G (23) (nI (lo)) := (hf_202 23 (by decide)).trans hv2
      have hc_232 : σ_206 24 = q_an G 256 o := (hf_202 24 (by decide)).trans hv3
      have hc_233 : σ_206 224 = q_rn G 2 2 (fun j => some (243 + 18 * j)) := (hf_202 224 (by decide)).trans hv4
      have hc_234 : σ_206 225 = q_bn G 2 kp := (hf_202 225 (by decide)).trans hv5
      have hc_235 : σ_206 280 = q_an G 265 g := (hf_202 280 (by decide)).trans hv7
      have hc_236 : σ_206 281 = q_an G 265 wk := (hf_202 281 (by decide)).trans hv8
      have hc_237 : σ_206 282 = q_an G 265 as := (hf_202 282 (by decide)).trans hv9
      have hc_238 : σ_206 283 = q_an G 530 sh := (hf_202 283 (by decide)).trans hv10
      have hc_239 : σ_206 284 = q_an G 2120 a := (hf_202 284 (by decide)).trans hv11
      have hc_240 : σ_206 285 = q_bn G 1681 fb := (hf_202 285 (by decide)).trans hv12
      have hc_241 : σ_206 286 = q_an G 1681 nv := (hf_202 286 (by decide)).trans hv13
      have hc_242 : σ_206 287 = q_an G 1681 ns := (hf_202 287 (by decide)).trans hv14
      have hc_243 : σ_206 288 = q_an G 2000 mk := (hf_202 288 (by decide)).trans hv15
      have hc_244 : σ_206 289 = q_an G 6724 va := (hf_202 289 (by decide)).trans hv16
      have hc_245 : σ_206 290 = q_an G 6724 sp := (hf_202 290 (by decide)).trans hv17
      have hc_246 : σ_206 291 = q_an G 80 lp := (hf_202 291 (by decide)).trans hv18
      have hc_247 : σ_206 292 = q_an G 600 f := (hf_202 292 (by decide)).trans hv19
      have hc_248 : σ_206 293 = q_an G 300 ou := (hf_202 293 (by decide)).trans hv20
      have hc_249 : σ_206 294 = q_ln G 1 oL := (hf_202 294 (by decide)).trans hv21
      have hc_250 : σ_206 295 = q_dn G 1 oD := (hf_202 295 (by decide)).trans hv22
      have e_x : s1C = s1M := q_nI_inj (by omega) (by omega) (Chx0.symm.trans Mhse)
      subst e_x
      refine A_istore hg dL_law_3029 (by decide) (q_c1d rfl) ?_
      refine A_eq (ls2 := [some (.ref bS), some (.ref (q_h G + 0)), some (.ref (q_h G + 279)), some (.ref (q_h G + 294)), some (.ref (q_h G + 295)), some (.int (nI (i))), some (.int (nI (2))), some (.int (nI (0))), none]) (st2 := []) (pc2 := 0) rfl rfl ?_
      refine A_aload_n hg dL_law_3031 rfl rfl ?_
      refine A_eV (kc2 := kc + 2) (ks2 := ks + 12) (As := []) (rest := []) hg lk_RL_170 in_X11_thrown se_X11_thrown rfl dL_law_3032 ⟨by decide, by decide⟩ rfl rfl (hfK 2 12 (by decide) (by decide)) hc_201 (by omega) rfl rfl (Nat.le_of_ble_eq_true rfl) (c_X11_thrown G false 296 σ_206 (upd F 7 (nI (2))) hc_201 (by omega)) ?_
      refine A_top (w := .int (nI (2))) (congrArg Value.int rfl) ?_
      refine A_iload hg dL_law_3035 rfl ?_
      refine A_icmp_eqN (tgt := 3042) hg dL_law_3037 (by decide) (by decide) (by decide) (fun c3037 => ?_) (fun c3037 => False.elim (by omega))
      refine A_iload hg dL_law_3042 rfl ?_
      refine A_if_neN (tgt := 3059) hg dL_law_3044 (by decide) (by decide) (fun c3044 => ?_) (fun c3044 => absurd c3044 (by decide))
      refine A_goto (tgt := 3062) hg dL_law_3059 (by decide) ?_
      refine A_drop 6 ?_
      refine A_drop 7 ?_
      refine A_eq (ls2 := [some (.ref bS), some (.ref (q_h G + 0)), some (.ref (q_h G + 279)), some (.ref (q_h G + 294)), some (.ref (q_h G + 295)), some (.int (nI (i))), none, none, none]) (st2 := []) (pc2 := 0) rfl rfl ?_
      refine A_wide (kc2 := kc + 8) (ks2 := ks + 48) (by omega) (by omega) ?_
      exact hnxt _ (iv_mk il z2 z3 f lo o g nx m ps kp sn (upd F 7 (nI (2))) wk as sh a fb nv ns mk va sp lp mc z ss ou oL oD hc_229 hc_230 hc_231 hc_232 hc_233 hc_234 hc_201 hc_235 hc_236 hc_237 hc_238 hc_239 hc_240 hc_241 hc_242 hc_243 hc_244 hc_245 hc_246 hc_247 hc_248 hc_249 hc_250 (x_lj_e (fun i _ _ => (hf_202 i (by omega))) hL) (x_gm_e (fun i _ _ => (hf_202 i (by omega))) hG) (x_mx_e (fun i _ _ => (hf_202 i (by omega))) hM) (x_hi_e (fun i _ _ => (hf_202 i (by omega))) hHi) (x_oj_e (fun i _ _ => (hf_202 i (by omega))) hO) (x_pj_e (fun i _ _ => (hf_202 i (by omega))) hT) (iv_hn (fun i _ _ => (hf_202 i (by omega))) hH) (iv_Sn (fun i _ _ => (hf_202 i (by omega))) hSn) (iv_Kp (fun i _ _ => (hf_202 i (by omega))) hKp) (by omega) hfb (by omega) hou hgd hps hk1 hkss hss hsn hF5 hF6 hF12 hF16 hF21 hF22 hF23 hF33 (by omega) hmk hTI hlo)
    · skip
      refine (?_ : AJ G K Q (kc + 2) (ks + 12) false 296 3029 [some (.ref bS), some (.ref (q_h G + 0)), some (.ref (q_h G + 279)), some (.ref (q_h G + 294)), some (.ref (q_h G + 295)), some (.int (nI (i))), some (.int (nI (2))), none, none] [.int (nI (sh (265 * s1M + 4)))] σ_206)
      have hc_203 : σ_206 279 = o11 G (upd (upd F 5 (nI (0))) 7 (nI (0))) := hc_203
      have hc_251 : σ_206 0 = o10 G (nI (il)) (z2) (z3) := (hf_205 0 (by decide)).trans hv0
      have hc_252 : σ_206 1 = q_an G 600 f := (hf_205 1 (by decide)).trans hv1
      have hc_253 : σ_206 23 = o5 G (23) (nI (lo)) := (hf_205 23 (by decide)).trans hv2
      have hc_254 : σ_206 24 = q_an G 256 o := (hf_205 24 (by decide)).trans hv3
      have hc_255 : σ_206 224 = q_rn G 2 2 (fun j => some (243 + 18 * j)) := (hf_205 224 (by decide)).trans hv4
      have hc_256 : σ_206 225 = q_bn G 2 kp := (hf_205 225 (by decide)).trans hv5
      have hc_257 : σ_206 281 = q_an G 265 wk := (hf_205 281 (by decide)).trans hv8
      have hc_258 : σ_206 282 = q_an G 265 as := (hf_205 282 (by decide)).trans hv9
      have hc_259 : σ_206 283 = q_an G 530 sh := (hf_205 283 (by decide)).trans hv10
      have hc_260 : σ_206 284 = q_an G 2120 a := (hf_205 284 (by decide)).trans hv11
      have hc_261 : σ_206 285 = q_bn G 1681 fb := (hf_205 285 (by decide)).trans hv12
      have hc_262 : σ_206 286 = q_an G 1681 nv := (hf_205 286 (by decide)).trans hv13
      have hc_263 : σ_206 287 = q_an G 1681 ns := (hf_205 287 (by decide)).trans hv14
      have hc_264 : σ_206 288 = q_an G 2000 mk := (hf_205 288 (by decide)).trans hv15
      have hc_265 : σ_206 289 = q_an G 6724 va := (hf_205 289 (by decide)).trans hv16
      have hc_266 : σ_206 290 = q_an G 6724 sp := (hf_205 290 (by decide)).trans hv17
      have hc_267 : σ_206 291 = q_an G 80 lp := (hf_205 291 (by decide)).trans hv18
      have hc_268 : σ_206 292 = q_an G 600 f := (hf_205 292 (by decide)).trans hv19
      have hc_269 : σ_206 293 = q_an G 300 ou := (hf_205 293 (by decide)).trans hv20
      have hc_270 : σ_206 294 = q_ln G 1 oL := (hf_205 294 (by decide)).trans hv21
      have hc_271 : σ_206 295 = q_dn G 1 oD := (hf_205 295 (by decide)).trans hv22
      have e_x : s1C = s1M := q_nI_inj (by omega) (by omega) (Chx0.symm.trans Mhse)
      subst e_x
      have hz9 := (hkss s1C (by omega)).mpr Mhb
      exact absurd (Chx2.symm.trans hz9) (by decide)
end
