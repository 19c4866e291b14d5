section
set_option maxRecDepth 100000 in
set_option maxHeartbeats 4000000 in
theorem law_c24 (G : GL) (K : KC) (Q : State → Prop) (hh : List (Nat × Nat × Nat × Nat)) (hg : Gd G K RL code 9 ret room_1 hh) (bS L : Nat) (xs : Nat → Int32) (hX : q_scr G K bS L xs) (i kc ks J : Nat) (hi : i + 5 < L) (hL31 : L < 2 ^ 31) (hkc : kc + 8 ≤ 601024) (hks : ks + 48 ≤ 7293034) (σ : Nat → va_E) (hI : iv G σ J) (hJ : J < 512) (hfd : q_fdn) (hdd : q_ddn) (hf2 : q_f2n) (hds : q_dcs) (hnxt : ∀ σ9 : Nat → va_E, iv G σ9 (J + 1) → AJ G K Q (kc + 8) (ks + 48) false 296 3062 [some (.ref bS), some (.ref (q_h G + 0)), some (.ref (q_h G + 279)), some (.ref (q_h G + 294)), some (.ref (q_h G + 295)), some (.int (nI (i))), none, none, none] [] σ9) : AJ G K Q kc ks false 296 1799 [some (.ref bS), some (.ref (q_h G + 0)), some (.ref (q_h G + 279)), some (.ref (q_h G + 294)), some (.ref (q_h G + 295)), some (.int (nI (i))), none, none, none] [] σ := by
  refine iv_el hI ?_
  intro il z2 z3 f lo o g nx m ps kp sn F wk as sh a fb nv ns mk va sp lp mc z ss ou oL oD
  intro hv0 hv1 hv2 hv3 hv4 hv5 hv6 hv7 hv8 hv9 hv10 hv11 hv12 hv13 hv14 hv15 hv16 hv17 hv18 hv19 hv20 hv21 hv22
  intro hL hG hM hHi hO hT hH hSn hKp
  intro hil hfb hlo2 hou hgd hps hk1 hkss hss hsn hF5 hF6 hF12 hF16 hF21 hF22 hF23 hF33 hmc hmk hTI hlo
  have hfK : ∀ a b : Nat, a ≤ 8 → b ≤ 48 → kc + a ≤ room_1.cells ∧ ks + b ≤ room_1.slots := fun a b h1 h2 => ⟨by show kc + a ≤ 601024; omega, by show ks + b ≤ 7293034; omega⟩
  have hg9 := iv_g hG
  obtain ⟨hnx8, hm8, hc78⟩ := iv_hi hHi
  have hbb := iv_byte (m := il) hfb
  have hg90 := hg9.1
  have hg96 := hg9.2.2.2.2.1
  have hnp8 := s_np_le hg9
  refine A_aload_n hg dL_law_1799 rfl rfl ?_
  refine A_aload_n hg dL_law_1800 rfl rfl ?_
  refine A_iload hg dL_law_1801 rfl ?_
  refine A_iconst (v := (nI (1))) hg dL_law_1803 (by decide) ?_
  refine A_iaddN hg dL_law_1804 ?_
  refine A_sld hg hX (i + 1) (by omega) dL_law_1805 ?_
  refine A_aload_n hg dL_law_1806 rfl rfl ?_
  refine A_callSH (As := [.ref (q_h G + 0), .int (xs (i + 1)), .ref (q_h G + 294)]) (rest := []) hg lkH_230 stH_L_leastPlace dL_law_1807 ⟨by decide, by decide⟩ (hfK 1 6 (by decide) (by decide)) rfl rfl (Nat.le_of_ble_eq_true rfl) (c_L_leastPlace G 296 σ (nI (il)) z2 z3 (xs (i + 1)) oL hv0 hv21 (by omega) (by omega)) ?_
  rintro _ σ_1 (⟨v1C, rfl, Chve, Chva, Chvl, hc_2, hf_3⟩ | ⟨rfl, Chxx, he_4⟩)
  · skip
    refine (?_ : AJ G K Q (kc + 1) (ks + 6) false 296 1810 [some (.ref bS), some (.ref (q_h G + 0)), some (.ref (q_h G + 279)), some (.ref (q_h G + 294)), some (.ref (q_h G + 295)), some (.int (nI (i))), none, none, none] [.int (nI (0))] σ_1)
    have hc_5 : σ_1 0 = o10 G (nI (il)) (z2) (z3) := (hf_3 0 (by decide)).trans hv0
    have hc_6 : σ_1 1 = q_an G 600 f := (hf_3 1 (by decide)).trans hv1
    have hc_7 : σ_1 23 = o5 G (23) (nI (lo)) := (hf_3 23 (by decide)).trans hv2
    have hc_8 : σ_1 24 = q_an G 256 o := (hf_3 24 (by decide)).trans hv3
    have hc_9 : σ_1 224 = q_rn G 2 2 (fun j => some (243 + 18 * j)) := (hf_3 224 (by decide)).trans hv4
    have hc_10 : σ_1 225 = q_bn G 2 kp := (hf_3 225 (by decide)).trans hv5
    have hc_11 : σ_1 279 = o11 G F := (hf_3 279 (by decide)).trans hv6
    have hc_12 : σ_1 280 = q_an G 265 g := (hf_3 280 (by decide)).trans hv7
    have hc_13 : σ_1 281 = q_an G 265 wk := (hf_3 281 (by decide)).trans hv8
    have hc_14 : σ_1 282 = q_an G 265 as := (hf_3 282 (by decide)).trans hv9
    have hc_15 : σ_1 283 = q_an G 530 sh := (hf_3 283 (by decide)).trans hv10
    have hc_16 : σ_1 284 = q_an G 2120 a := (hf_3 284 (by decide)).trans hv11
    have hc_17 : σ_1 285 = q_bn G 1681 fb := (hf_3 285 (by decide)).trans hv12
    have hc_18 : σ_1 286 = q_an G 1681 nv := (hf_3 286 (by decide)).trans hv13
    have hc_19 : σ_1 287 = q_an G 1681 ns := (hf_3 287 (by decide)).trans hv14
    have hc_20 : σ_1 288 = q_an G 2000 mk := (hf_3 288 (by decide)).trans hv15
    have hc_21 : σ_1 289 = q_an G 6724 va := (hf_3 289 (by decide)).trans hv16
    have hc_22 : σ_1 290 = q_an G 6724 sp := (hf_3 290 (by decide)).trans hv17
    have hc_23 : σ_1 291 = q_an G 80 lp := (hf_3 291 (by decide)).trans hv18
    have hc_24 : σ_1 292 = q_an G 600 f := (hf_3 292 (by decide)).trans hv19
    have hc_25 : σ_1 293 = q_an G 300 ou := (hf_3 293 (by decide)).trans hv20
    have hc_26 : σ_1 295 = q_dn G 1 oD := (hf_3 295 (by decide)).trans hv22
    refine A_istore hg dL_law_1810 (by decide) (q_c1d rfl) ?_
    refine A_eq (ls2 := [some (.ref bS), some (.ref (q_h G + 0)), some (.ref (q_h G + 279)), some (.ref (q_h G + 294)), some (.ref (q_h G + 295)), some (.int (nI (i))), some (.int (nI (0))), none, none]) (st2 := []) (pc2 := 0) rfl rfl ?_
    refine A_aload_n hg dL_law_1812 rfl rfl ?_
    refine A_aload_n hg dL_law_1813 rfl rfl ?_
    refine A_iload hg dL_law_1814 rfl ?_
    refine A_iconst (v := (nI (1))) hg dL_law_1816 (by decide) ?_
    refine A_iaddN hg dL_law_1817 ?_
    refine A_sld hg hX (i + 1) (by omega) dL_law_1818 ?_
    refine A_hV (kc2 := kc + 1) (ks2 := ks + 6) (As := [.int (xs (i + 1))]) (rest := []) hg lk_RL_232 in_X11_leastPlace se_X11_leastPlace rfl dL_law_1819 ⟨by decide, by decide⟩ rfl rfl (hfK 1 6 (by decide) (by decide)) hc_11 (by omega) rfl rfl (Nat.le_of_ble_eq_true rfl) (c_X11_leastPlace G false 296 σ_1 F (xs (i + 1)) hc_11 (by omega)) ?_
    rintro _ σ_31 (⟨rfl, Mhno, hc_27, hf_28⟩ | ⟨v1M, rfl, Mhve, Mhva, Mhvl, hc_29, hf_30⟩)
    · skip
      refine (?_ : AJ G K Q (kc + 1) (ks + 6) false 296 1822 [some (.ref bS), some (.ref (q_h G + 0)), some (.ref (q_h G + 279)), some (.ref (q_h G + 294)), some (.ref (q_h G + 295)), some (.int (nI (i))), some (.int (nI (0))), none, none] [.int (nI (0))] σ_31)
      have hc_27 : σ_31 279 = o11 G (upd F 7 (nI (1))) := hc_27
      have hc_32 : σ_31 0 = o10 G (nI (il)) (z2) (z3) := (hf_28 0 (by decide)).trans hc_5
      have hc_33 : σ_31 1 = q_an G 600 f := (hf_28 1 (by decide)).trans hc_6
      have hc_34 : σ_31 23 = o5 G (23) (nI (lo)) := (hf_28 23 (by decide)).trans hc_7
      have hc_35 : σ_31 24 = q_an G 256 o := (hf_28 24 (by decide)).trans hc_8
      have hc_36 : σ_31 224 = q_rn G 2 2 (fun j => some (243 + 18 * j)) := (hf_28 224 (by decide)).trans hc_9
      have hc_37 : σ_31 225 = q_bn G 2 kp := (hf_28 225 (by decide)).trans hc_10
      have hc_38 : σ_31 280 = q_an G 265 g := (hf_28 280 (by decide)).trans hc_12
      have hc_39 : σ_31 281 = q_an G 265 wk := (hf_28 281 (by decide)).trans hc_13
      have hc_40 : σ_31 282 = q_an G 265 as := (hf_28 282 (by decide)).trans hc_14
      have hc_41 : σ_31 283 = q_an G 530 sh := (hf_28 283 (by decide)).trans hc_15
      have hc_42 : σ_31 284 = q_an G 2120 a := (hf_28 284 (by decide)).trans hc_16
      have hc_43 : σ_31 285 = q_bn G 1681 fb := (hf_28 285 (by decide)).trans hc_17
      have hc_44 : σ_31 286 = q_an G 1681 nv := (hf_28 286 (by decide)).trans hc_18
      have hc_45 : σ_31 287 = q_an G 1681 ns := (hf_28 287 (by decide)).trans hc_19
      have hc_46 : σ_31 288 = q_an G 2000 mk := (hf_28 288 (by decide)).trans hc_20
      have hc_47 : σ_31 289 = q_an G 6724 va := (hf_28 289 (by decide)).trans hc_21
      have hc_48 : σ_31 290 = q_an G 6724 sp := (hf_28 290 (by decide)).trans hc_22
      have hc_49 : σ_31 291 = q_an G 80 lp := (hf_28 291 (by decide)).trans hc_23
      have hc_50 : σ_31 292 = q_an G 600 f := (hf_28 292 (by decide)).trans hc_24
      have hc_51 : σ_31 293 = q_an G 300 ou := (hf_28 293 (by decide)).trans hc_25
      have hc_52 : σ_31 295 = q_dn G 1 oD := (hf_28 295 (by decide)).trans hc_26
      have hc_53 : σ_31 294 = q_ln G 1 (va_up oL 0 ((nI (s_gi (s_rs v1C (s_sn v1C - 1)))).toInt64)) := (hf_28 294 (by decide)).trans hc_2
      exact (Mhno v1C (by omega) (by omega) Chve).elim
    · skip
      refine (?_ : AJ G K Q (kc + 1) (ks + 6) false 296 1822 [some (.ref bS), some (.ref (q_h G + 0)), some (.ref (q_h G + 279)), some (.ref (q_h G + 294)), some (.ref (q_h G + 295)), some (.int (nI (i))), some (.int (nI (0))), none, none] [.int (nI (s_gi (s_rs v1M (s_sn v1M - 1))))] σ_31)
      have hc_29 : σ_31 279 = o11 G (upd F 7 (nI (0))) := hc_29
      have hc_54 : σ_31 0 = o10 G (nI (il)) (z2) (z3) := (hf_30 0 (by decide)).trans hc_5
      have hc_55 : σ_31 1 = q_an G 600 f := (hf_30 1 (by decide)).trans hc_6
      have hc_56 : σ_31 23 = o5 G (23) (nI (lo)) := (hf_30 23 (by decide)).trans hc_7
      have hc_57 : σ_31 24 = q_an G 256 o := (hf_30 24 (by decide)).trans hc_8
      have hc_58 : σ_31 224 = q_rn G 2 2 (fun j => some (243 + 18 * j)) := (hf_30 224 (by decide)).trans hc_9
      have hc_59 : σ_31 225 = q_bn G 2 kp := (hf_30 225 (by decide)).trans hc_10
      have hc_60 : σ_31 280 = q_an G 265 g := (hf_30 280 (by decide)).trans hc_12
      have hc_61 : σ_31 281 = q_an G 265 wk := (hf_30 281 (by decide)).trans hc_13
      have hc_62 : σ_31 282 = q_an G 265 as := (hf_30 282 (by decide)).trans hc_14
      have hc_63 : σ_31 283 = q_an G 530 sh := (hf_30 283 (by decide)).trans hc_15
      have hc_64 : σ_31 284 = q_an G 2120 a := (hf_30 284 (by decide)).trans hc_16
      have hc_65 : σ_31 285 = q_bn G 1681 fb := (hf_30 285 (by decide)).trans hc_17
      have hc_66 : σ_31 286 = q_an G 1681 nv := (hf_30 286 (by decide)).trans hc_18
      have hc_67 : σ_31 287 = q_an G 1681 ns := (hf_30 287 (by decide)).trans hc_19
      have hc_68 : σ_31 288 = q_an G 2000 mk := (hf_30 288 (by decide)).trans hc_20
      have hc_69 : σ_31 289 = q_an G 6724 va := (hf_30 289 (by decide)).trans hc_21
      have hc_70 : σ_31 290 = q_an G 6724 sp := (hf_30 290 (by decide)).trans hc_22
      have hc_71 : σ_31 291 = q_an G 80 lp := (hf_30 291 (by decide)).trans hc_23
      have hc_72 : σ_31 292 = q_an G 600 f := (hf_30 292 (by decide)).trans hc_24
      have hc_73 : σ_31 293 = q_an G 300 ou := (hf_30 293 (by decide)).trans hc_25
      have hc_74 : σ_31 295 = q_dn G 1 oD := (hf_30 295 (by decide)).trans hc_26
      have hc_75 : σ_31 294 = q_ln G 1 (va_up oL 0 ((nI (s_gi (s_rs v1C (s_sn v1C - 1)))).toInt64)) := (hf_30 294 (by decide)).trans hc_2
      have e_v : v1C = v1M := q_nI_inj (by omega) (by omega) (Chve.symm.trans Mhve)
      subst e_v
      refine A_istore hg dL_law_1822 (by decide) (q_c1d rfl) ?_
      refine A_eq (ls2 := [some (.ref bS), some (.ref (q_h G + 0)), some (.ref (q_h G + 279)), some (.ref (q_h G + 294)), some (.ref (q_h G + 295)), some (.int (nI (i))), some (.int (nI (0))), some (.int (nI (s_gi (s_rs v1C (s_sn v1C - 1))))), none]) (st2 := []) (pc2 := 0) rfl rfl ?_
      refine A_aload_n hg dL_law_1824 rfl rfl ?_
      refine A_eV (kc2 := kc + 1) (ks2 := ks + 6) (As := []) (rest := []) hg lk_RL_170 in_X11_thrown se_X11_thrown rfl dL_law_1825 ⟨by decide, by decide⟩ rfl rfl (hfK 1 6 (by decide) (by decide)) hc_29 (by omega) rfl rfl (Nat.le_of_ble_eq_true rfl) (c_X11_thrown G false 296 σ_31 (upd F 7 (nI (0))) hc_29 (by omega)) ?_
      refine A_top (w := .int (nI (0))) (congrArg Value.int rfl) ?_
      refine A_iload hg dL_law_1828 rfl ?_
      refine A_icmp_eqN (tgt := 1835) hg dL_law_1830 (by decide) (by decide) (by decide) (fun c1830 => ?_) (fun c1830 => False.elim (by omega))
      refine A_iload hg dL_law_1835 rfl ?_
      refine A_if_neN (tgt := 1852) hg dL_law_1837 (by decide) (by decide) (fun c1837 => absurd (by decide) c1837) (fun c1837 => ?_)
      refine A_aload_n hg dL_law_1840 rfl rfl ?_
      refine A_iconst (v := (nI (0))) hg dL_law_1841 (by decide) ?_
      refine A_lald (j := 0) hg dL_law_1842 hc_75 (by omega) (by decide) (by decide) ?_
      refine A_top (w := .long ((nI (s_gi (s_rs v1C (s_sn v1C - 1)))).toInt64)) (congrArg Value.long iv_up0) ?_
      refine A_iload hg dL_law_1843 rfl ?_
      refine A_i2l (v := (nI (s_gi (s_rs v1C (s_sn v1C - 1)))).toInt64) hg dL_law_1845 rfl ?_
      refine A_lcmp hg dL_law_1846 ?_
      refine A_top (w := .int (nI 0)) (congrArg Value.int (lc_self _)) ?_
      refine A_if_eqN (tgt := 1852) hg dL_law_1847 (by decide) (by decide) (fun c1847 => ?_) (fun c1847 => absurd (by decide) c1847)
      refine A_goto (tgt := 3062) hg dL_law_1852 (by decide) ?_
      refine A_drop 6 ?_
      refine A_drop 7 ?_
      refine A_eq (ls2 := [some (.ref bS), some (.ref (q_h G + 0)), some (.ref (q_h G + 279)), some (.ref (q_h G + 294)), some (.ref (q_h G + 295)), some (.int (nI (i))), none, none, none]) (st2 := []) (pc2 := 0) rfl rfl ?_
      refine A_wide (kc2 := kc + 8) (ks2 := ks + 48) (by omega) (by omega) ?_
      exact hnxt _ (iv_mk il z2 z3 f lo o g nx m ps kp sn (upd F 7 (nI (0))) wk as sh a fb nv ns mk va sp lp mc z ss ou (va_up oL 0 ((nI (s_gi (s_rs v1C (s_sn v1C - 1)))).toInt64)) oD hc_54 hc_55 hc_56 hc_57 hc_58 hc_59 hc_29 hc_60 hc_61 hc_62 hc_63 hc_64 hc_65 hc_66 hc_67 hc_68 hc_69 hc_70 hc_71 hc_72 hc_73 hc_75 hc_74 (x_lj_e (fun i _ _ => ((hf_30 i (by omega)).trans (hf_3 i (by omega)))) hL) (x_gm_e (fun i _ _ => ((hf_30 i (by omega)).trans (hf_3 i (by omega)))) hG) (x_mx_e (fun i _ _ => ((hf_30 i (by omega)).trans (hf_3 i (by omega)))) hM) (x_hi_e (fun i _ _ => ((hf_30 i (by omega)).trans (hf_3 i (by omega)))) hHi) (x_oj_e (fun i _ _ => ((hf_30 i (by omega)).trans (hf_3 i (by omega)))) hO) (x_pj_e (fun i _ _ => ((hf_30 i (by omega)).trans (hf_3 i (by omega)))) hT) (iv_hn (fun i _ _ => ((hf_30 i (by omega)).trans (hf_3 i (by omega)))) hH) (iv_Sn (fun i _ _ => ((hf_30 i (by omega)).trans (hf_3 i (by omega)))) hSn) (iv_Kp (fun i _ _ => ((hf_30 i (by omega)).trans (hf_3 i (by omega)))) hKp) (by omega) hfb (by omega) hou hgd hps hk1 hkss hss hsn hF5 hF6 hF12 hF16 hF21 hF22 hF23 hF33 (by omega) hmk hTI hlo)
  · skip
    rw [he_4]
    refine (?_ : AJ G K Q (kc + 1) (ks + 6) false 296 1810 [some (.ref bS), some (.ref (q_h G + 0)), some (.ref (q_h G + 279)), some (.ref (q_h G + 294)), some (.ref (q_h G + 295)), some (.int (nI (i))), none, none, none] [.int (nI (1))] σ)
    refine A_istore hg dL_law_1810 (by decide) (q_c1d rfl) ?_
    refine A_eq (ls2 := [some (.ref bS), some (.ref (q_h G + 0)), some (.ref (q_h G + 279)), some (.ref (q_h G + 294)), some (.ref (q_h G + 295)), some (.int (nI (i))), some (.int (nI (1))), none, none]) (st2 := []) (pc2 := 0) rfl rfl ?_
    refine A_aload_n hg dL_law_1812 rfl rfl ?_
    refine A_aload_n hg dL_law_1813 rfl rfl ?_
    refine A_iload hg dL_law_1814 rfl ?_
    refine A_iconst (v := (nI (1))) hg dL_law_1816 (by decide) ?_
    refine A_iaddN hg dL_law_1817 ?_
    refine A_sld hg hX (i + 1) (by omega) dL_law_1818 ?_
    refine A_hV (kc2 := kc + 1) (ks2 := ks + 6) (As := [.int (xs (i + 1))]) (rest := []) hg lk_RL_232 in_X11_leastPlace se_X11_leastPlace rfl dL_law_1819 ⟨by decide, by decide⟩ rfl rfl (hfK 1 6 (by decide) (by decide)) hv6 (by omega) rfl rfl (Nat.le_of_ble_eq_true rfl) (c_X11_leastPlace G false 296 σ F (xs (i + 1)) hv6 (by omega)) ?_
    rintro _ σ_80 (⟨rfl, Mhno, hc_76, hf_77⟩ | ⟨v1M, rfl, Mhve, Mhva, Mhvl, hc_78, hf_79⟩)
    · skip
      refine (?_ : AJ G K Q (kc + 1) (ks + 6) false 296 1822 [some (.ref bS), some (.ref (q_h G + 0)), some (.ref (q_h G + 279)), some (.ref (q_h G + 294)), some (.ref (q_h G + 295)), some (.int (nI (i))), some (.int (nI (1))), none, none] [.int (nI (0))] σ_80)
      have hc_76 : σ_80 279 = o11 G (upd F 7 (nI (1))) := hc_76
      have hc_81 : σ_80 0 = o10 G (nI (il)) (z2) (z3) := (hf_77 0 (by decide)).trans hv0
      have hc_82 : σ_80 1 = q_an G 600 f := (hf_77 1 (by decide)).trans hv1
      have hc_83 : σ_80 23 = o5 G (23) (nI (lo)) := (hf_77 23 (by decide)).trans hv2
      have hc_84 : σ_80 24 = q_an G 256 o := (hf_77 24 (by decide)).trans hv3
      have hc_85 : σ_80 224 = q_rn G 2 2 (fun j => some (243 + 18 * j)) := (hf_77 224 (by decide)).trans hv4
      have hc_86 : σ_80 225 = q_bn G 2 kp := (hf_77 225 (by decide)).trans hv5
      have hc_87 : σ_80 280 = q_an G 265 g := (hf_77 280 (by decide)).trans hv7
      have hc_88 : σ_80 281 = q_an G 265 wk := (hf_77 281 (by decide)).trans hv8
      have hc_89 : σ_80 282 = q_an G 265 as := (hf_77 282 (by decide)).trans hv9
      have hc_90 : σ_80 283 = q_an G 530 sh := (hf_77 283 (by decide)).trans hv10
      have hc_91 : σ_80 284 = q_an G 2120 a := (hf_77 284 (by decide)).trans hv11
      have hc_92 : σ_80 285 = q_bn G 1681 fb := (hf_77 285 (by decide)).trans hv12
      have hc_93 : σ_80 286 = q_an G 1681 nv := (hf_77 286 (by decide)).trans hv13
      have hc_94 : σ_80 287 = q_an G 1681 ns := (hf_77 287 (by decide)).trans hv14
      have hc_95 : σ_80 288 = q_an G 2000 mk := (hf_77 288 (by decide)).trans hv15
      have hc_96 : σ_80 289 = q_an G 6724 va := (hf_77 289 (by decide)).trans hv16
      have hc_97 : σ_80 290 = q_an G 6724 sp := (hf_77 290 (by decide)).trans hv17
      have hc_98 : σ_80 291 = q_an G 80 lp := (hf_77 291 (by decide)).trans hv18
      have hc_99 : σ_80 292 = q_an G 600 f := (hf_77 292 (by decide)).trans hv19
      have hc_100 : σ_80 293 = q_an G 300 ou := (hf_77 293 (by decide)).trans hv20
      have hc_101 : σ_80 294 = q_ln G 1 oL := (hf_77 294 (by decide)).trans hv21
      have hc_102 : σ_80 295 = q_dn G 1 oD := (hf_77 295 (by decide)).trans hv22
      refine A_istore hg dL_law_1822 (by decide) (q_c1d rfl) ?_
      refine A_eq (ls2 := [some (.ref bS), some (.ref (q_h G + 0)), some (.ref (q_h G + 279)), some (.ref (q_h G + 294)), some (.ref (q_h G + 295)), some (.int (nI (i))), some (.int (nI (1))), some (.int (nI (0))), none]) (st2 := []) (pc2 := 0) rfl rfl ?_
      refine A_aload_n hg dL_law_1824 rfl rfl ?_
      refine A_eV (kc2 := kc + 1) (ks2 := ks + 6) (As := []) (rest := []) hg lk_RL_170 in_X11_thrown se_X11_thrown rfl dL_law_1825 ⟨by decide, by decide⟩ rfl rfl (hfK 1 6 (by decide) (by decide)) hc_76 (by omega) rfl rfl (Nat.le_of_ble_eq_true rfl) (c_X11_thrown G false 296 σ_80 (upd F 7 (nI (1))) hc_76 (by omega)) ?_
      refine A_top (w := .int (nI (1))) (congrArg Value.int rfl) ?_
      refine A_iload hg dL_law_1828 rfl ?_
      refine A_icmp_eqN (tgt := 1835) hg dL_law_1830 (by decide) (by decide) (by decide) (fun c1830 => ?_) (fun c1830 => False.elim (by omega))
      refine A_iload hg dL_law_1835 rfl ?_
      refine A_if_neN (tgt := 1852) hg dL_law_1837 (by decide) (by decide) (fun c1837 => ?_) (fun c1837 => absurd c1837 (by decide))
      refine A_goto (tgt := 3062) hg dL_law_1852 (by decide) ?_
      refine A_drop 6 ?_
      refine A_drop 7 ?_
      refine A_eq (ls2 := [some (.ref bS), some (.ref (q_h G + 0)), some (.ref (q_h G + 279)), some (.ref (q_h G + 294)), some (.ref (q_h G + 295)), some (.int (nI (i))), none, none, none]) (st2 := []) (pc2 := 0) rfl rfl ?_
      refine A_wide (kc2 := kc + 8) (ks2 := ks + 48) (by omega) (by omega) ?_
      exact hnxt _ (iv_mk il z2 z3 f lo o g nx m ps kp sn (upd F 7 (nI (1))) wk as sh a fb nv ns mk va sp lp mc z ss ou oL oD hc_81 hc_82 hc_83 hc_84 hc_85 hc_86 hc_76 hc_87 hc_88 hc_89 hc_90 hc_91 hc_92 hc_93 hc_94 hc_95 hc_96 hc_97 hc_98 hc_99 hc_100 hc_101 hc_102 (x_lj_e (fun i _ _ => (hf_77 i (by omega))) hL) (x_gm_e (fun i _ _ => (hf_77 i (by omega))) hG) (x_mx_e (fun i _ _ => (hf_77 i (by omega))) hM) (x_hi_e (fun i _ _ => (hf_77 i (by omega))) hHi) (x_oj_e (fun i _ _ => (hf_77 i (by omega))) hO) (x_pj_e (fun i _ _ => (hf_77 i (by omega))) hT) (iv_hn (fun i _ _ => (hf_77 i (by omega))) hH) (iv_Sn (fun i _ _ => (hf_77 i (by omega))) hSn) (iv_Kp (fun i _ _ => (hf_77 i (by omega))) hKp) (by omega) hfb (by omega) hou hgd hps hk1 hkss hss hsn hF5 hF6 hF12 hF16 hF21 hF22 hF23 hF33 (by omega) hmk hTI hlo)
    · skip
      refine (?_ : AJ G K Q (kc + 1) (ks + 6) false 296 1822 [some (.ref bS), some (.ref (q_h G + 0)), some (.ref (q_h G + 279)), some (.ref (q_h G + 294)), some (.ref (q_h G + 295)), some (.int (nI (i))), some (.int (nI (1))), none, none] [.int (nI (s_gi (s_rs v1M (s_sn v1M - 1))))] σ_80)
      have hc_78 : σ_80 279 = o11 G (upd F 7 (nI (0))) := hc_78
      have hc_103 : σ_80 0 = o10 G (nI (il)) (z2) (z3) := (hf_79 0 (by decide)).trans hv0
      have hc_104 : σ_80 1 = q_an G 600 f := (hf_79 1 (by decide)).trans hv1
      have hc_105 : σ_80 23 = o5 G (23) (nI (lo)) := (hf_79 23 (by decide)).trans hv2
      have hc_106 : σ_80 24 = q_an G 256 o := (hf_79 24 (by decide)).trans hv3
      have hc_107 : σ_80 224 = q_rn G 2 2 (fun j => some (243 + 18 * j)) := (hf_79 224 (by decide)).trans hv4
      have hc_108 : σ_80 225 = q_bn G 2 kp := (hf_79 225 (by decide)).trans hv5
      have hc_109 : σ_80 280 = q_an G 265 g := (hf_79 280 (by decide)).trans hv7
      have hc_110 : σ_80 281 = q_an G 265 wk := (hf_79 281 (by decide)).trans hv8
      have hc_111 : σ_80 282 = q_an G 265 as := (hf_79 282 (by decide)).trans hv9
      have hc_112 : σ_80 283 = q_an G 530 sh := (hf_79 283 (by decide)).trans hv10
      have hc_113 : σ_80 284 = q_an G 2120 a := (hf_79 284 (by decide)).trans hv11
      have hc_114 : σ_80 285 = q_bn G 1681 fb := (hf_79 285 (by decide)).trans hv12
      have hc_115 : σ_80 286 = q_an G 1681 nv := (hf_79 286 (by decide)).trans hv13
      have hc_116 : σ_80 287 = q_an G 1681 ns := (hf_79 287 (by decide)).trans hv14
      have hc_117 : σ_80 288 = q_an G 2000 mk := (hf_79 288 (by decide)).trans hv15
      have hc_118 : σ_80 289 = q_an G 6724 va := (hf_79 289 (by decide)).trans hv16
      have hc_119 : σ_80 290 = q_an G 6724 sp := (hf_79 290 (by decide)).trans hv17
      have hc_120 : σ_80 291 = q_an G 80 lp := (hf_79 291 (by decide)).trans hv18
      have hc_121 : σ_80 292 = q_an G 600 f := (hf_79 292 (by decide)).trans hv19
      have hc_122 : σ_80 293 = q_an G 300 ou := (hf_79 293 (by decide)).trans hv20
      have hc_123 : σ_80 294 = q_ln G 1 oL := (hf_79 294 (by decide)).trans hv21
      have hc_124 : σ_80 295 = q_dn G 1 oD := (hf_79 295 (by decide)).trans hv22
      exact (Chxx v1M (by omega) (by omega) Mhve).elim
set_option maxRecDepth 100000 in
set_option maxHeartbeats 4000000 in
theorem law_c25 (G : GL) (K : KC) (Q : State → Prop) (hh : List (Nat × Nat × Nat × Nat)) (hg : Gd G K RL code 9 ret room_1 hh) (bS L : Nat) (xs : Nat → Int32) (hX : q_scr G K bS L xs) (i kc ks J : Nat) (hi : i + 5 < L) (hL31 : L < 2 ^ 31) (hkc : kc + 8 ≤ 601024) (hks : ks + 48 ≤ 7293034) (σ : Nat → va_E) (hI : iv G σ J) (hJ : J < 512) (hfd : q_fdn) (hdd : q_ddn) (hf2 : q_f2n) (hds : q_dcs) (hnxt : ∀ σ9 : Nat → va_E, iv G σ9 (J + 1) → AJ G K Q (kc + 8) (ks + 48) false 296 3062 [some (.ref bS), some (.ref (q_h G + 0)), some (.ref (q_h G + 279)), some (.ref (q_h G + 294)), some (.ref (q_h G + 295)), some (.int (nI (i))), none, none, none] [] σ9) : AJ G K Q kc ks false 296 1855 [some (.ref bS), some (.ref (q_h G + 0)), some (.ref (q_h G + 279)), some (.ref (q_h G + 294)), some (.ref (q_h G + 295)), some (.int (nI (i))), none, none, none] [] σ := by
  refine iv_el hI ?_
  intro il z2 z3 f lo o g nx m ps kp sn F wk as sh a fb nv ns mk va sp lp mc z ss ou oL oD
  intro hv0 hv1 hv2 hv3 hv4 hv5 hv6 hv7 hv8 hv9 hv10 hv11 hv12 hv13 hv14 hv15 hv16 hv17 hv18 hv19 hv20 hv21 hv22
  intro hL hG hM hHi hO hT hH hSn hKp
  intro hil hfb hlo2 hou hgd hps hk1 hkss hss hsn hF5 hF6 hF12 hF16 hF21 hF22 hF23 hF33 hmc hmk hTI hlo
  have hfK : ∀ a b : Nat, a ≤ 8 → b ≤ 48 → kc + a ≤ room_1.cells ∧ ks + b ≤ room_1.slots := fun a b h1 h2 => ⟨by show kc + a ≤ 601024; omega, by show ks + b ≤ 7293034; omega⟩
  have hg9 := iv_g hG
  obtain ⟨hnx8, hm8, hc78⟩ := iv_hi hHi
  have hbb := iv_byte (m := il) hfb
  have hg90 := hg9.1
  have hg96 := hg9.2.2.2.2.1
  have hnp8 := s_np_le hg9
  refine A_aload_n hg dL_law_1855 rfl rfl ?_
  refine A_aload_n hg dL_law_1856 rfl rfl ?_
  refine A_iload hg dL_law_1857 rfl ?_
  refine A_iconst (v := (nI (1))) hg dL_law_1859 (by decide) ?_
  refine A_iaddN hg dL_law_1860 ?_
  refine A_sld hg hX (i + 1) (by omega) dL_law_1861 ?_
  refine A_aload_n hg dL_law_1862 rfl rfl ?_
  refine A_callSH (As := [.ref (q_h G + 0), .int (xs (i + 1)), .ref (q_h G + 294)]) (rest := []) hg lkH_233 stH_L_gap dL_law_1863 ⟨by decide, by decide⟩ (hfK 1 6 (by decide) (by decide)) rfl rfl (Nat.le_of_ble_eq_true rfl) (c_L_gap G 296 σ (nI (il)) z2 z3 g (xs (i + 1)) oL hv0 hv21 (by omega) hG hM (by omega)) ?_
  rintro _ σ_1 (⟨r1C, rfl, Chre, Chrl, Chfr, ChM2, hc_2, hf_3⟩ | ⟨r1C, rfl, Chre, Chrl, Chfr, ChM2, hc_4, hf_5⟩ | ⟨rfl, Chxx, he_6⟩)
  · skip
    refine (?_ : AJ G K Q (kc + 1) (ks + 6) false 296 1866 [some (.ref bS), some (.ref (q_h G + 0)), some (.ref (q_h G + 279)), some (.ref (q_h G + 294)), some (.ref (q_h G + 295)), some (.int (nI (i))), none, none, none] [.int (nI (0))] σ_1)
    have hc_7 : σ_1 0 = o10 G (nI (il)) (z2) (z3) := (hf_3 0 (by decide)).trans hv0
    have hc_8 : σ_1 1 = q_an G 600 f := (hf_3 1 (by decide)).trans hv1
    have hc_9 : σ_1 23 = o5 G (23) (nI (lo)) := (hf_3 23 (by decide)).trans hv2
    have hc_10 : σ_1 24 = q_an G 256 o := (hf_3 24 (by decide)).trans hv3
    have hc_11 : σ_1 224 = q_rn G 2 2 (fun j => some (243 + 18 * j)) := (hf_3 224 (by decide)).trans hv4
    have hc_12 : σ_1 225 = q_bn G 2 kp := (hf_3 225 (by decide)).trans hv5
    have hc_13 : σ_1 279 = o11 G F := (hf_3 279 (by decide)).trans hv6
    have hc_14 : σ_1 280 = q_an G 265 g := (hf_3 280 (by decide)).trans hv7
    have hc_15 : σ_1 281 = q_an G 265 wk := (hf_3 281 (by decide)).trans hv8
    have hc_16 : σ_1 282 = q_an G 265 as := (hf_3 282 (by decide)).trans hv9
    have hc_17 : σ_1 283 = q_an G 530 sh := (hf_3 283 (by decide)).trans hv10
    have hc_18 : σ_1 284 = q_an G 2120 a := (hf_3 284 (by decide)).trans hv11
    have hc_19 : σ_1 285 = q_bn G 1681 fb := (hf_3 285 (by decide)).trans hv12
    have hc_20 : σ_1 286 = q_an G 1681 nv := (hf_3 286 (by decide)).trans hv13
    have hc_21 : σ_1 287 = q_an G 1681 ns := (hf_3 287 (by decide)).trans hv14
    have hc_22 : σ_1 288 = q_an G 2000 mk := (hf_3 288 (by decide)).trans hv15
    have hc_23 : σ_1 289 = q_an G 6724 va := (hf_3 289 (by decide)).trans hv16
    have hc_24 : σ_1 290 = q_an G 6724 sp := (hf_3 290 (by decide)).trans hv17
    have hc_25 : σ_1 291 = q_an G 80 lp := (hf_3 291 (by decide)).trans hv18
    have hc_26 : σ_1 292 = q_an G 600 f := (hf_3 292 (by decide)).trans hv19
    have hc_27 : σ_1 293 = q_an G 300 ou := (hf_3 293 (by decide)).trans hv20
    have hc_28 : σ_1 295 = q_dn G 1 oD := (hf_3 295 (by decide)).trans hv22
    refine A_istore hg dL_law_1866 (by decide) (q_c1d rfl) ?_
    refine A_eq (ls2 := [some (.ref bS), some (.ref (q_h G + 0)), some (.ref (q_h G + 279)), some (.ref (q_h G + 294)), some (.ref (q_h G + 295)), some (.int (nI (i))), some (.int (nI (0))), none, none]) (st2 := []) (pc2 := 0) rfl rfl ?_
    refine A_aload_n hg dL_law_1868 rfl rfl ?_
    refine A_aload_n hg dL_law_1869 rfl rfl ?_
    refine A_iload hg dL_law_1870 rfl ?_
    refine A_iconst (v := (nI (1))) hg dL_law_1872 (by decide) ?_
    refine A_iaddN hg dL_law_1873 ?_
    refine A_sld hg hX (i + 1) (by omega) dL_law_1874 ?_
    refine A_hV (kc2 := kc + 1) (ks2 := ks + 6) (As := [.int (xs (i + 1))]) (rest := []) hg lk_RL_235 in_X11_gap se_X11_gap rfl dL_law_1875 ⟨by decide, by decide⟩ rfl rfl (hfK 1 6 (by decide) (by decide)) hc_13 (by omega) rfl rfl (Nat.le_of_ble_eq_true rfl) (c_X11_gap G false 296 σ_1 F g fb nv ns mk va sp lp mc z (xs (i + 1)) hc_13 hc_14 hc_19 hc_20 hc_21 hc_22 hc_23 hc_24 hc_25 (by omega) hg9 (by omega) hF12 hF16 hmk hTI hlo) ?_
    rintro _ σ_42 (⟨rfl, Mhno, hc_29, hf_30⟩ | ⟨r1M, rfl, Mhre, Mhrl, Mhfr, hc_31, hf_32⟩ | ⟨r1M, fqM, nvqM, nsqM, mkqM, vaqM, spqM, loqM, mcqM, zqM, rfl, Mhre, Mhrl, Mhfr, MhTI, Mhmc, Mhmk, Mhlo, hc_33, hc_34, hc_35, hc_36, hc_37, hc_38, hc_39, hc_40, hf_41⟩)
    · skip
      refine (?_ : AJ G K Q (kc + 1) (ks + 6) false 296 1878 [some (.ref bS), some (.ref (q_h G + 0)), some (.ref (q_h G + 279)), some (.ref (q_h G + 294)), some (.ref (q_h G + 295)), some (.int (nI (i))), some (.int (nI (0))), none, none] [.int (nI (0))] σ_42)
      have hc_29 : σ_42 279 = o11 G (upd F 7 (nI (1))) := hc_29
      have hc_43 : σ_42 0 = o10 G (nI (il)) (z2) (z3) := (hf_30 0 (by decide)).trans hc_7
      have hc_44 : σ_42 1 = q_an G 600 f := (hf_30 1 (by decide)).trans hc_8
      have hc_45 : σ_42 23 = o5 G (23) (nI (lo)) := (hf_30 23 (by decide)).trans hc_9
      have hc_46 : σ_42 24 = q_an G 256 o := (hf_30 24 (by decide)).trans hc_10
      have hc_47 : σ_42 224 = q_rn G 2 2 (fun j => some (243 + 18 * j)) := (hf_30 224 (by decide)).trans hc_11
      have hc_48 : σ_42 225 = q_bn G 2 kp := (hf_30 225 (by decide)).trans hc_12
      have hc_49 : σ_42 280 = q_an G 265 g := (hf_30 280 (by decide)).trans hc_14
      have hc_50 : σ_42 281 = q_an G 265 wk := (hf_30 281 (by decide)).trans hc_15
      have hc_51 : σ_42 282 = q_an G 265 as := (hf_30 282 (by decide)).trans hc_16
      have hc_52 : σ_42 283 = q_an G 530 sh := (hf_30 283 (by decide)).trans hc_17
      have hc_53 : σ_42 284 = q_an G 2120 a := (hf_30 284 (by decide)).trans hc_18
      have hc_54 : σ_42 285 = q_bn G 1681 fb := (hf_30 285 (by decide)).trans hc_19
      have hc_55 : σ_42 286 = q_an G 1681 nv := (hf_30 286 (by decide)).trans hc_20
      have hc_56 : σ_42 287 = q_an G 1681 ns := (hf_30 287 (by decide)).trans hc_21
      have hc_57 : σ_42 288 = q_an G 2000 mk := (hf_30 288 (by decide)).trans hc_22
      have hc_58 : σ_42 289 = q_an G 6724 va := (hf_30 289 (by decide)).trans hc_23
      have hc_59 : σ_42 290 = q_an G 6724 sp := (hf_30 290 (by decide)).trans hc_24
      have hc_60 : σ_42 291 = q_an G 80 lp := (hf_30 291 (by decide)).trans hc_25
      have hc_61 : σ_42 292 = q_an G 600 f := (hf_30 292 (by decide)).trans hc_26
      have hc_62 : σ_42 293 = q_an G 300 ou := (hf_30 293 (by decide)).trans hc_27
      have hc_63 : σ_42 295 = q_dn G 1 oD := (hf_30 295 (by decide)).trans hc_28
      have hc_64 : σ_42 294 = q_ln G 1 (va_up oL 0 ((q_d (0)).toInt64)) := (hf_30 294 (by decide)).trans hc_2
      exact (Mhno r1C (by omega) Chre).elim
    · skip
      refine (?_ : AJ G K Q (kc + 1) (ks + 6) false 296 1878 [some (.ref bS), some (.ref (q_h G + 0)), some (.ref (q_h G + 279)), some (.ref (q_h G + 294)), some (.ref (q_h G + 295)), some (.int (nI (i))), some (.int (nI (0))), none, none] [.int (q_d (0))] σ_42)
      have hc_31 : σ_42 279 = o11 G (upd F 7 (nI (0))) := hc_31
      have hc_65 : σ_42 0 = o10 G (nI (il)) (z2) (z3) := (hf_32 0 (by decide)).trans hc_7
      have hc_66 : σ_42 1 = q_an G 600 f := (hf_32 1 (by decide)).trans hc_8
      have hc_67 : σ_42 23 = o5 G (23) (nI (lo)) := (hf_32 23 (by decide)).trans hc_9
      have hc_68 : σ_42 24 = q_an G 256 o := (hf_32 24 (by decide)).trans hc_10
      have hc_69 : σ_42 224 = q_rn G 2 2 (fun j => some (243 + 18 * j)) := (hf_32 224 (by decide)).trans hc_11
      have hc_70 : σ_42 225 = q_bn G 2 kp := (hf_32 225 (by decide)).trans hc_12
      have hc_71 : σ_42 280 = q_an G 265 g := (hf_32 280 (by decide)).trans hc_14
      have hc_72 : σ_42 281 = q_an G 265 wk := (hf_32 281 (by decide)).trans hc_15
      have hc_73 : σ_42 282 = q_an G 265 as := (hf_32 282 (by decide)).trans hc_16
      have hc_74 : σ_42 283 = q_an G 530 sh := (hf_32 283 (by decide)).trans hc_17
      have hc_75 : σ_42 284 = q_an G 2120 a := (hf_32 284 (by decide)).trans hc_18
      have hc_76 : σ_42 285 = q_bn G 1681 fb := (hf_32 285 (by decide)).trans hc_19
      have hc_77 : σ_42 286 = q_an G 1681 nv := (hf_32 286 (by decide)).trans hc_20
      have hc_78 : σ_42 287 = q_an G 1681 ns := (hf_32 287 (by decide)).trans hc_21
      have hc_79 : σ_42 288 = q_an G 2000 mk := (hf_32 288 (by decide)).trans hc_22
      have hc_80 : σ_42 289 = q_an G 6724 va := (hf_32 289 (by decide)).trans hc_23
      have hc_81 : σ_42 290 = q_an G 6724 sp := (hf_32 290 (by decide)).trans hc_24
      have hc_82 : σ_42 291 = q_an G 80 lp := (hf_32 291 (by decide)).trans hc_25
      have hc_83 : σ_42 292 = q_an G 600 f := (hf_32 292 (by decide)).trans hc_26
      have hc_84 : σ_42 293 = q_an G 300 ou := (hf_32 293 (by decide)).trans hc_27
      have hc_85 : σ_42 295 = q_dn G 1 oD := (hf_32 295 (by decide)).trans hc_28
      have hc_86 : σ_42 294 = q_ln G 1 (va_up oL 0 ((q_d (0)).toInt64)) := (hf_32 294 (by decide)).trans hc_2
      have e_r : r1C = r1M := q_nI_inj (by omega) (by omega) (Chre.symm.trans Mhre)
      subst e_r
      refine A_istore hg dL_law_1878 (by decide) (q_c1d rfl) ?_
      refine A_eq (ls2 := [some (.ref bS), some (.ref (q_h G + 0)), some (.ref (q_h G + 279)), some (.ref (q_h G + 294)), some (.ref (q_h G + 295)), some (.int (nI (i))), some (.int (nI (0))), some (.int (q_d (0))), none]) (st2 := []) (pc2 := 0) rfl rfl ?_
      refine A_aload_n hg dL_law_1880 rfl rfl ?_
      refine A_eV (kc2 := kc + 1) (ks2 := ks + 6) (As := []) (rest := []) hg lk_RL_170 in_X11_thrown se_X11_thrown rfl dL_law_1881 ⟨by decide, by decide⟩ rfl rfl (hfK 1 6 (by decide) (by decide)) hc_31 (by omega) rfl rfl (Nat.le_of_ble_eq_true rfl) (c_X11_thrown G false 296 σ_42 (upd F 7 (nI (0))) hc_31 (by omega)) ?_
      refine A_top (w := .int (nI (0))) (congrArg Value.int rfl) ?_
      refine A_iload hg dL_law_1884 rfl ?_
      refine A_icmp_eqN (tgt := 1891) hg dL_law_1886 (by decide) (by decide) (by decide) (fun c1886 => ?_) (fun c1886 => False.elim (by omega))
      refine A_iload hg dL_law_1891 rfl ?_
      refine A_if_neN (tgt := 1908) hg dL_law_1893 (by decide) (by decide) (fun c1893 => absurd (by decide) c1893) (fun c1893 => ?_)
      refine A_aload_n hg dL_law_1896 rfl rfl ?_
      refine A_iconst (v := (nI (0))) hg dL_law_1897 (by decide) ?_
      refine A_lald (j := 0) hg dL_law_1898 hc_86 (by omega) (by decide) (by decide) ?_
      refine A_top (w := .long ((q_d (0)).toInt64)) (congrArg Value.long iv_up0) ?_
      refine A_iload hg dL_law_1899 rfl ?_
      refine A_i2l (v := (q_d (0)).toInt64) hg dL_law_1901 rfl ?_
      refine A_lcmp hg dL_law_1902 ?_
      refine A_top (w := .int (nI 0)) (congrArg Value.int (lc_self _)) ?_
      refine A_if_eqN (tgt := 1908) hg dL_law_1903 (by decide) (by decide) (fun c1903 => ?_) (fun c1903 => absurd (by decide) c1903)
      refine A_goto (tgt := 3062) hg dL_law_1908 (by decide) ?_
      refine A_drop 6 ?_
      refine A_drop 7 ?_
      refine A_eq (ls2 := [some (.ref bS), some (.ref (q_h G + 0)), some (.ref (q_h G + 279)), some (.ref (q_h G + 294)), some (.ref (q_h G + 295)), some (.int (nI (i))), none, none, none]) (st2 := []) (pc2 := 0) rfl rfl ?_
      refine A_wide (kc2 := kc + 8) (ks2 := ks + 48) (by omega) (by omega) ?_
      exact hnxt _ (iv_mk il z2 z3 f lo o g nx m ps kp sn (upd F 7 (nI (0))) wk as sh a fb nv ns mk va sp lp mc z ss ou (va_up oL 0 ((q_d (0)).toInt64)) oD hc_65 hc_66 hc_67 hc_68 hc_69 hc_70 hc_31 hc_71 hc_72 hc_73 hc_74 hc_75 hc_76 hc_77 hc_78 hc_79 hc_80 hc_81 hc_82 hc_83 hc_84 hc_86 hc_85 (x_lj_e (fun i _ _ => ((hf_32 i (by omega)).trans (hf_3 i (by omega)))) hL) (x_gm_e (fun i _ _ => ((hf_32 i (by omega)).trans (hf_3 i (by omega)))) hG) (x_mx_e (fun i _ _ => (hf_32 i (by omega))) ChM2) (x_hi_e (fun i _ _ => ((hf_32 i (by omega)).trans (hf_3 i (by omega)))) hHi) (x_oj_e (fun i _ _ => ((hf_32 i (by omega)).trans (hf_3 i (by omega)))) hO) (x_pj_e (fun i _ _ => ((hf_32 i (by omega)).trans (hf_3 i (by omega)))) hT) (iv_hn (fun i _ _ => ((hf_32 i (by omega)).trans (hf_3 i (by omega)))) hH) (iv_Sn (fun i _ _ => ((hf_32 i (by omega)).trans (hf_3 i (by omega)))) hSn) (iv_Kp (fun i _ _ => ((hf_32 i (by omega)).trans (hf_3 i (by omega)))) hKp) (by omega) hfb (by omega) hou hgd hps hk1 hkss hss hsn hF5 hF6 hF12 hF16 hF21 hF22 hF23 hF33 (by omega) hmk hTI hlo)
    · skip
      refine (?_ : AJ G K Q (kc + 1) (ks + 6) false 296 1878 [some (.ref bS), some (.ref (q_h G + 0)), some (.ref (q_h G + 279)), some (.ref (q_h G + 294)), some (.ref (q_h G + 295)), some (.int (nI (i))), some (.int (nI (0))), none, none] [.int (nI (s_gpc (s_rule g r1M) 1681))] σ_42)
      have hc_33 : σ_42 279 = o11 G (upd (upd (upd F 7 (nI (0))) 12 (nI (mcqM))) 16 (nI (zqM))) := hc_33
      have hc_87 : σ_42 0 = o10 G (nI (il)) (z2) (z3) := (hf_41 0 (by decide)).trans hc_7
      have hc_88 : σ_42 1 = q_an G 600 f := (hf_41 1 (by decide)).trans hc_8
      have hc_89 : σ_42 23 = o5 G (23) (nI (lo)) := (hf_41 23 (by decide)).trans hc_9
      have hc_90 : σ_42 24 = q_an G 256 o := (hf_41 24 (by decide)).trans hc_10
      have hc_91 : σ_42 224 = q_rn G 2 2 (fun j => some (243 + 18 * j)) := (hf_41 224 (by decide)).trans hc_11
      have hc_92 : σ_42 225 = q_bn G 2 kp := (hf_41 225 (by decide)).trans hc_12
      have hc_93 : σ_42 280 = q_an G 265 g := (hf_41 280 (by decide)).trans hc_14
      have hc_94 : σ_42 281 = q_an G 265 wk := (hf_41 281 (by decide)).trans hc_15
      have hc_95 : σ_42 282 = q_an G 265 as := (hf_41 282 (by decide)).trans hc_16
      have hc_96 : σ_42 283 = q_an G 530 sh := (hf_41 283 (by decide)).trans hc_17
      have hc_97 : σ_42 284 = q_an G 2120 a := (hf_41 284 (by decide)).trans hc_18
      have hc_98 : σ_42 292 = q_an G 600 f := (hf_41 292 (by decide)).trans hc_26
      have hc_99 : σ_42 293 = q_an G 300 ou := (hf_41 293 (by decide)).trans hc_27
      have hc_100 : σ_42 295 = q_dn G 1 oD := (hf_41 295 (by decide)).trans hc_28
      have hc_101 : σ_42 294 = q_ln G 1 (va_up oL 0 ((q_d (0)).toInt64)) := (hf_41 294 (by decide)).trans hc_2
      have e_r : r1C = r1M := q_nI_inj (by omega) (by omega) (Chre.symm.trans Mhre)
      subst e_r
      exact absurd (Mhfr.symm.trans Chfr) (by decide)
  · skip
    refine (?_ : AJ G K Q (kc + 1) (ks + 6) false 296 1866 [some (.ref bS), some (.ref (q_h G + 0)), some (.ref (q_h G + 279)), some (.ref (q_h G + 294)), some (.ref (q_h G + 295)), some (.int (nI (i))), none, none, none] [.int (nI (0))] σ_1)
    have hc_102 : σ_1 0 = o10 G (nI (il)) (z2) (z3) := (hf_5 0 (by decide)).trans hv0
    have hc_103 : σ_1 1 = q_an G 600 f := (hf_5 1 (by decide)).trans hv1
    have hc_104 : σ_1 23 = o5 G (23) (nI (lo)) := (hf_5 23 (by decide)).trans hv2
    have hc_105 : σ_1 24 = q_an G 256 o := (hf_5 24 (by decide)).trans hv3
    have hc_106 : σ_1 224 = q_rn G 2 2 (fun j => some (243 + 18 * j)) := (hf_5 224 (by decide)).trans hv4
    have hc_107 : σ_1 225 = q_bn G 2 kp := (hf_5 225 (by decide)).trans hv5
    have hc_108 : σ_1 279 = o11 G F := (hf_5 279 (by decide)).trans hv6
    have hc_109 : σ_1 280 = q_an G 265 g := (hf_5 280 (by decide)).trans hv7
    have hc_110 : σ_1 281 = q_an G 265 wk := (hf_5 281 (by decide)).trans hv8
    have hc_111 : σ_1 282 = q_an G 265 as := (hf_5 282 (by decide)).trans hv9
    have hc_112 : σ_1 283 = q_an G 530 sh := (hf_5 283 (by decide)).trans hv10
    have hc_113 : σ_1 284 = q_an G 2120 a := (hf_5 284 (by decide)).trans hv11
    have hc_114 : σ_1 285 = q_bn G 1681 fb := (hf_5 285 (by decide)).trans hv12
    have hc_115 : σ_1 286 = q_an G 1681 nv := (hf_5 286 (by decide)).trans hv13
    have hc_116 : σ_1 287 = q_an G 1681 ns := (hf_5 287 (by decide)).trans hv14
    have hc_117 : σ_1 288 = q_an G 2000 mk := (hf_5 288 (by decide)).trans hv15
    have hc_118 : σ_1 289 = q_an G 6724 va := (hf_5 289 (by decide)).trans hv16
    have hc_119 : σ_1 290 = q_an G 6724 sp := (hf_5 290 (by decide)).trans hv17
    have hc_120 : σ_1 291 = q_an G 80 lp := (hf_5 291 (by decide)).trans hv18
    have hc_121 : σ_1 292 = q_an G 600 f := (hf_5 292 (by decide)).trans hv19
    have hc_122 : σ_1 293 = q_an G 300 ou := (hf_5 293 (by decide)).trans hv20
    have hc_123 : σ_1 295 = q_dn G 1 oD := (hf_5 295 (by decide)).trans hv22
    refine A_istore hg dL_law_1866 (by decide) (q_c1d rfl) ?_
    refine A_eq (ls2 := [some (.ref bS), some (.ref (q_h G + 0)), some (.ref (q_h G + 279)), some (.ref (q_h G + 294)), some (.ref (q_h G + 295)), some (.int (nI (i))), some (.int (nI (0))), none, none]) (st2 := []) (pc2 := 0) rfl rfl ?_
    refine A_aload_n hg dL_law_1868 rfl rfl ?_
    refine A_aload_n hg dL_law_1869 rfl rfl ?_
    refine A_iload hg dL_law_1870 rfl ?_
    refine A_iconst (v := (nI (1))) hg dL_law_1872 (by decide) ?_
    refine A_iaddN hg dL_law_1873 ?_
    refine A_sld hg hX (i + 1) (by omega) dL_law_1874 ?_
    refine A_hV (kc2 := kc + 1) (ks2 := ks + 6) (As := [.int (xs (i + 1))]) (rest := []) hg lk_RL_235 in_X11_gap se_X11_gap rfl dL_law_1875 ⟨by decide, by decide⟩ rfl rfl (hfK 1 6 (by decide) (by decide)) hc_108 (by omega) rfl rfl (Nat.le_of_ble_eq_true rfl) (c_X11_gap G false 296 σ_1 F g fb nv ns mk va sp lp mc z (xs (i + 1)) hc_108 hc_109 hc_114 hc_115 hc_116 hc_117 hc_118 hc_119 hc_120 (by omega) hg9 (by omega) hF12 hF16 hmk hTI hlo) ?_
    rintro _ σ_137 (⟨rfl, Mhno, hc_124, hf_125⟩ | ⟨r1M, rfl, Mhre, Mhrl, Mhfr, hc_126, hf_127⟩ | ⟨r1M, fqM, nvqM, nsqM, mkqM, vaqM, spqM, loqM, mcqM, zqM, rfl, Mhre, Mhrl, Mhfr, MhTI, Mhmc, Mhmk, Mhlo, hc_128, hc_129, hc_130, hc_131, hc_132, hc_133, hc_134, hc_135, hf_136⟩)
    · skip
      refine (?_ : AJ G K Q (kc + 1) (ks + 6) false 296 1878 [some (.ref bS), some (.ref (q_h G + 0)), some (.ref (q_h G + 279)), some (.ref (q_h G + 294)), some (.ref (q_h G + 295)), some (.int (nI (i))), some (.int (nI (0))), none, none] [.int (nI (0))] σ_137)
      have hc_124 : σ_137 279 = o11 G (upd F 7 (nI (1))) := hc_124
      have hc_138 : σ_137 0 = o10 G (nI (il)) (z2) (z3) := (hf_125 0 (by decide)).trans hc_102
      have hc_139 : σ_137 1 = q_an G 600 f := (hf_125 1 (by decide)).trans hc_103
      have hc_140 : σ_137 23 = o5 G (23) (nI (lo)) := (hf_125 23 (by decide)).trans hc_104
      have hc_141 : σ_137 24 = q_an G 256 o := (hf_125 24 (by decide)).trans hc_105
      have hc_142 : σ_137 224 = q_rn G 2 2 (fun j => some (243 + 18 * j)) := (hf_125 224 (by decide)).trans hc_106
      have hc_143 : σ_137 225 = q_bn G 2 kp := (hf_125 225 (by decide)).trans hc_107
      have hc_144 : σ_137 280 = q_an G 265 g := (hf_125 280 (by decide)).trans hc_109
      have hc_145 : σ_137 281 = q_an G 265 wk := (hf_125 281 (by decide)).trans hc_110
      have hc_146 : σ_137 282 = q_an G 265 as := (hf_125 282 (by decide)).trans hc_111
      have hc_147 : σ_137 283 = q_an G 530 sh := (hf_125 283 (by decide)).trans hc_112
      have hc_148 : σ_137 284 = q_an G 2120 a := (hf_125 284 (by decide)).trans hc_113
      have hc_149 : σ_137 285 = q_bn G 1681 fb := (hf_125 285 (by decide)).trans hc_114
      have hc_150 : σ_137 286 = q_an G 1681 nv := (hf_125 286 (by decide)).trans hc_115
      have hc_151 : σ_137 287 = q_an G 1681 ns := (hf_125 287 (by decide)).trans hc_116
      have hc_152 : σ_137 288 = q_an G 2000 mk := (hf_125 288 (by decide)).trans hc_117
      have hc_153 : σ_137 289 = q_an G 6724 va := (hf_125 289 (by decide)).trans hc_118
      have hc_154 : σ_137 290 = q_an G 6724 sp := (hf_125 290 (by decide)).trans hc_119
      have hc_155 : σ_137 291 = q_an G 80 lp := (hf_125 291 (by decide)).trans hc_120
      have hc_156 : σ_137 292 = q_an G 600 f := (hf_125 292 (by decide)).trans hc_121
      have hc_157 : σ_137 293 = q_an G 300 ou := (hf_125 293 (by decide)).trans hc_122
      have hc_158 : σ_137 295 = q_dn G 1 oD := (hf_125 295 (by decide)).trans hc_123
      have hc_159 : σ_137 294 = q_ln G 1 (va_up oL 0 ((nI (s_gpc (s_rule g r1C) 1681)).toInt64)) := (hf_125 294 (by decide)).trans hc_4
      exact (Mhno r1C (by omega) Chre).elim
    · skip
      refine (?_ : AJ G K Q (kc + 1) (ks + 6) false 296 1878 [some (.ref bS), some (.ref (q_h G + 0)), some (.ref (q_h G + 279)), some (.ref (q_h G + 294)), some (.ref (q_h G + 295)), some (.int (nI (i))), some (.int (nI (0))), none, none] [.int (q_d (0))] σ_137)
      have hc_126 : σ_137 279 = o11 G (upd F 7 (nI (0))) := hc_126
      have hc_160 : σ_137 0 = o10 G (nI (il)) (z2) (z3) := (hf_127 0 (by decide)).trans hc_102
      have hc_161 : σ_137 1 = q_an G 600 f := (hf_127 1 (by decide)).trans hc_103
      have hc_162 : σ_137 23 = o5 G (23) (nI (lo)) := (hf_127 23 (by decide)).trans hc_104
      have hc_163 : σ_137 24 = q_an G 256 o := (hf_127 24 (by decide)).trans hc_105
      have hc_164 : σ_137 224 = q_rn G 2 2 (fun j => some (243 + 18 * j)) := (hf_127 224 (by decide)).trans hc_106
      have hc_165 : σ_137 225 = q_bn G 2 kp := (hf_127 225 (by decide)).trans hc_107
      have hc_166 : σ_137 280 = q_an G 265 g := (hf_127 280 (by decide)).trans hc_109
      have hc_167 : σ_137 281 = q_an G 265 wk := (hf_127 281 (by decide)).trans hc_110
      have hc_168 : σ_137 282 = q_an G 265 as := (hf_127 282 (by decide)).trans hc_111
      have hc_169 : σ_137 283 = q_an G 530 sh := (hf_127 283 (by decide)).trans hc_112
      have hc_170 : σ_137 284 = q_an G 2120 a := (hf_127 284 (by decide)).trans hc_113
      have hc_171 : σ_137 285 = q_bn G 1681 fb := (hf_127 285 (by decide)).trans hc_114
      have hc_172 : σ_137 286 = q_an G 1681 nv := (hf_127 286 (by decide)).trans hc_115
      have hc_173 : σ_137 287 = q_an G 1681 ns := (hf_127 287 (by decide)).trans hc_116
      have hc_174 : σ_137 288 = q_an G 2000 mk := (hf_127 288 (by decide)).trans hc_117
      have hc_175 : σ_137 289 = q_an G 6724 va := (hf_127 289 (by decide)).trans hc_118
      have hc_176 : σ_137 290 = q_an G 6724 sp := (hf_127 290 (by decide)).trans hc_119
      have hc_177 : σ_137 291 = q_an G 80 lp := (hf_127 291 (by decide)).trans hc_120
      have hc_178 : σ_137 292 = q_an G 600 f := (hf_127 292 (by decide)).trans hc_121
      have hc_179 : σ_137 293 = q_an G 300 ou := (hf_127 293 (by decide)).trans hc_122
      have hc_180 : σ_137 295 = q_dn G 1 oD := (hf_127 295 (by decide)).trans hc_123
      have hc_181 : σ_137 294 = q_ln G 1 (va_up oL 0 ((nI (s_gpc (s_rule g r1C) 1681)).toInt64)) := (hf_127 294 (by decide)).trans hc_4
      have e_r : r1C = r1M := q_nI_inj (by omega) (by omega) (Chre.symm.trans Mhre)
      subst e_r
      exact absurd (Chfr.symm.trans Mhfr) (by decide)
    · skip
      refine (?_ : AJ G K Q (kc + 1) (ks + 6) false 296 1878 [some (.ref bS), some (.ref (q_h G + 0)), some (.ref (q_h G + 279)), some (.ref (q_h G + 294)), some (.ref (q_h G + 295)), some (.int (nI (i))), some (.int (nI (0))), none, none] [.int (nI (s_gpc (s_rule g r1M) 1681))] σ_137)
      have hc_128 : σ_137 279 = o11 G (upd (upd (upd F 7 (nI (0))) 12 (nI (mcqM))) 16 (nI (zqM))) := hc_128
      have hc_182 : σ_137 0 = o10 G (nI (il)) (z2) (z3) := (hf_136 0 (by decide)).trans hc_102
      have hc_183 : σ_137 1 = q_an G 600 f := (hf_136 1 (by decide)).trans hc_103
      have hc_184 : σ_137 23 = o5 G (23) (nI (lo)) := (hf_136 23 (by decide)).trans hc_104
      have hc_185 : σ_137 24 = q_an G 256 o := (hf_136 24 (by decide)).trans hc_105
      have hc_186 : σ_137 224 = q_rn G 2 2 (fun j => some (243 + 18 * j)) := (hf_136 224 (by decide)).trans hc_106
      have hc_187 : σ_137 225 = q_bn G 2 kp := (hf_136 225 (by decide)).trans hc_107
      have hc_188 : σ_137 280 = q_an G 265 g := (hf_136 280 (by decide)).trans hc_109
      have hc_189 : σ_137 281 = q_an G 265 wk := (hf_136 281 (by decide)).trans hc_110
      have hc_190 : σ_137 282 = q_an G 265 as := (hf_136 282 (by decide)).trans hc_111
      have hc_191 : σ_137 283 = q_an G 530 sh := (hf_136 283 (by decide)).trans hc_112
      have hc_192 : σ_137 284 = q_an G 2120 a := (hf_136 284 (by decide)).trans hc_113
      have hc_193 : σ_137 292 = q_an G 600 f := (hf_136 292 (by decide)).trans hc_121
      have hc_194 : σ_137 293 = q_an G 300 ou := (hf_136 293 (by decide)).trans hc_122
      have hc_195 : σ_137 295 = q_dn G 1 oD := (hf_136 295 (by decide)).trans hc_123
      have hc_196 : σ_137 294 = q_ln G 1 (va_up oL 0 ((nI (s_gpc (s_rule g r1C) 1681)).toInt64)) := (hf_136 294 (by decide)).trans hc_4
      have e_r : r1C = r1M := q_nI_inj (by omega) (by omega) (Chre.symm.trans Mhre)
      subst e_r
      refine A_istore hg dL_law_1878 (by decide) (q_c1d rfl) ?_
      refine A_eq (ls2 := [some (.ref bS), some (.ref (q_h G + 0)), some (.ref (q_h G + 279)), some (.ref (q_h G + 294)), some (.ref (q_h G + 295)), some (.int (nI (i))), some (.int (nI (0))), some (.int (nI (s_gpc (s_rule g r1C) 1681))), none]) (st2 := []) (pc2 := 0) rfl rfl ?_
      refine A_aload_n hg dL_law_1880 rfl rfl ?_
      refine A_eV (kc2 := kc + 1) (ks2 := ks + 6) (As := []) (rest := []) hg lk_RL_170 in_X11_thrown se_X11_thrown rfl dL_law_1881 ⟨by decide, by decide⟩ rfl rfl (hfK 1 6 (by decide) (by decide)) hc_128 (by omega) rfl rfl (Nat.le_of_ble_eq_true rfl) (c_X11_thrown G false 296 σ_137 (upd (upd (upd F 7 (nI (0))) 12 (nI (mcqM))) 16 (nI (zqM))) hc_128 (by omega)) ?_
      refine A_top (w := .int (nI (0))) (congrArg Value.int rfl) ?_
      refine A_iload hg dL_law_1884 rfl ?_
      refine A_icmp_eqN (tgt := 1891) hg dL_law_1886 (by decide) (by decide) (by decide) (fun c1886 => ?_) (fun c1886 => False.elim (by omega))
      refine A_iload hg dL_law_1891 rfl ?_
      refine A_if_neN (tgt := 1908) hg dL_law_1893 (by decide) (by decide) (fun c1893 => absurd (by decide) c1893) (fun c1893 => ?_)
      refine A_aload_n hg dL_law_1896 rfl rfl ?_
      refine A_iconst (v := (nI (0))) hg dL_law_1897 (by decide) ?_
      refine A_lald (j := 0) hg dL_law_1898 hc_196 (by omega) (by decide) (by decide) ?_
      refine A_top (w := .long ((nI (s_gpc (s_rule g r1C) 1681)).toInt64)) (congrArg Value.long iv_up0) ?_
      refine A_iload hg dL_law_1899 rfl ?_
      refine A_i2l (v := (nI (s_gpc (s_rule g r1C) 1681)).toInt64) hg dL_law_1901 rfl ?_
      refine A_lcmp hg dL_law_1902 ?_
      refine A_top (w := .int (nI 0)) (congrArg Value.int (lc_self _)) ?_
      refine A_if_eqN (tgt := 1908) hg dL_law_1903 (by decide) (by decide) (fun c1903 => ?_) (fun c1903 => absurd (by decide) c1903)
      refine A_goto (tgt := 3062) hg dL_law_1908 (by decide) ?_
      refine A_drop 6 ?_
      refine A_drop 7 ?_
      refine A_eq (ls2 := [some (.ref bS), some (.ref (q_h G + 0)), some (.ref (q_h G + 279)), some (.ref (q_h G + 294)), some (.ref (q_h G + 295)), some (.int (nI (i))), none, none, none]) (st2 := []) (pc2 := 0) rfl rfl ?_
      refine A_wide (kc2 := kc + 8) (ks2 := ks + 48) (by omega) (by omega) ?_
      exact hnxt _ (iv_mk il z2 z3 f lo o g nx m ps kp sn (upd (upd (upd F 7 (nI (0))) 12 (nI (mcqM))) 16 (nI (zqM))) wk as sh a fqM nvqM nsqM mkqM vaqM spqM loqM mcqM zqM ss ou (va_up oL 0 ((nI (s_gpc (s_rule g r1C) 1681)).toInt64)) oD hc_182 hc_183 hc_184 hc_185 hc_186 hc_187 hc_128 hc_188 hc_189 hc_190 hc_191 hc_192 hc_129 hc_130 hc_131 hc_132 hc_133 hc_134 hc_135 hc_193 hc_194 hc_196 hc_195 (x_lj_e (fun i _ _ => ((hf_136 i (by omega)).trans (hf_5 i (by omega)))) hL) (x_gm_e (fun i _ _ => ((hf_136 i (by omega)).trans (hf_5 i (by omega)))) hG) (x_mx_e (fun i _ _ => (hf_136 i (by omega))) ChM2) (x_hi_e (fun i _ _ => ((hf_136 i (by omega)).trans (hf_5 i (by omega)))) hHi) (x_oj_e (fun i _ _ => ((hf_136 i (by omega)).trans (hf_5 i (by omega)))) hO) (x_pj_e (fun i _ _ => ((hf_136 i (by omega)).trans (hf_5 i (by omega)))) hT) (iv_hn (fun i _ _ => ((hf_136 i (by omega)).trans (hf_5 i (by omega)))) hH) (iv_Sn (fun i _ _ => ((hf_136 i (by omega)).trans (hf_5 i (by omega)))) hSn) (iv_Kp (fun i _ _ => ((hf_136 i (by omega)).trans (hf_5 i (by omega)))) hKp) (by omega) hfb (by omega) hou hgd hps hk1 hkss hss hsn hF5 hF6 rfl rfl hF21 hF22 hF23 hF33 (by omega) Mhmk MhTI Mhlo)
  · skip
    rw [he_6]
    refine (?_ : AJ G K Q (kc + 1) (ks + 6) false 296 1866 [some (.ref bS), some (.ref (q_h G + 0)), some (.ref (q_h G + 279)), some (.ref (q_h G + 294)), some (.ref (q_h G + 295)), some (.int (nI (i))), none, none, none] [.int (nI (1))] σ)
    refine A_istore hg dL_law_1866 (by decide) (q_c1d rfl) ?_
    refine A_eq (ls2 := [some (.ref bS), some (.ref (q_h G + 0)), some (.ref (q_h G + 279)), some (.ref (q_h G + 294)), some (.ref (q_h G + 295)), some (.int (nI (i))), some (.int (nI (1))), none, none]) (st2 := []) (pc2 := 0) rfl rfl ?_
    refine A_aload_n hg dL_law_1868 rfl rfl ?_
    refine A_aload_n hg dL_law_1869 rfl rfl ?_
    refine A_iload hg dL_law_1870 rfl ?_
    refine A_iconst (v := (nI (1))) hg dL_law_1872 (by decide) ?_
    refine A_iaddN hg dL_law_1873 ?_
    refine A_sld hg hX (i + 1) (by omega) dL_law_1874 ?_
    refine A_hV (kc2 := kc + 1) (ks2 := ks + 6) (As := [.int (xs (i + 1))]) (rest := []) hg lk_RL_235 in_X11_gap se_X11_gap rfl dL_law_1875 ⟨by decide, by decide⟩ rfl rfl (hfK 1 6 (by decide) (by decide)) hv6 (by omega) rfl rfl (Nat.le_of_ble_eq_true rfl) (c_X11_gap G false 296 σ F g fb nv ns mk va sp lp mc z (xs (i + 1)) hv6 hv7 hv12 hv13 hv14 hv15 hv16 hv17 hv18 (by omega) hg9 (by omega) hF12 hF16 hmk hTI hlo) ?_
    rintro _ σ_210 (⟨rfl, Mhno, hc_197, hf_198⟩ | ⟨r1M, rfl, Mhre, Mhrl, Mhfr, hc_199, hf_200⟩ | ⟨r1M, fqM, nvqM, nsqM, mkqM, vaqM, spqM, loqM, mcqM, zqM, rfl, Mhre, Mhrl, Mhfr, MhTI, Mhmc, Mhmk, Mhlo, hc_201, hc_202, hc_203, hc_204, hc_205, hc_206, hc_207, hc_208, hf_209⟩)
    · skip
      refine (?_ : AJ G K Q (kc + 1) (ks + 6) false 296 1878 [some (.ref bS), some (.ref (q_h G + 0)), some (.ref (q_h G + 279)), some (.ref (q_h G + 294)), some (.ref (q_h G + 295)), some (.int (nI (i))), some (.int (nI (1))), none, none] [.int (nI (0))] σ_210)
      have hc_197 : σ_210 279 = o11 G (upd F 7 (nI (1))) := hc_197
      have hc_211 : σ_210 0 = o10 G (nI (il)) (z2) (z3) := (hf_198 0 (by decide)).trans hv0
      have hc_212 : σ_210 1 = q_an G 600 f := (hf_198 1 (by decide)).trans hv1
      have hc_213 : σ_210 23 = o5 G (23) (nI (lo)) := (hf_198 23 (by decide)).trans hv2
      have hc_214 : σ_210 24 = q_an G 256 o := (hf_198 24 (by decide)).trans hv3
      have hc_215 : σ_210 224 = q_rn G 2 2 (fun j => some (243 + 18 * j)) := (hf_198 224 (by decide)).trans hv4
      have hc_216 : σ_210 225 = q_bn G 2 kp := (hf_198 225 (by decide)).trans hv5
      have hc_217 : σ_210 280 = q_an G 265 g := (hf_198 280 (by decide)).trans hv7
      have hc_218 : σ_210 281 = q_an G 265 wk := (hf_198 281 (by decide)).trans hv8
      have hc_219 : σ_210 282 = q_an G 265 as := (hf_198 282 (by decide)).trans hv9
      have hc_220 : σ_210 283 = q_an G 530 sh := (hf_198 283 (by decide)).trans hv10
      have hc_221 : σ_210 284 = q_an G 2120 a := (hf_198 284 (by decide)).trans hv11
      have hc_222 : σ_210 285 = q_bn G 1681 fb := (hf_198 285 (by decide)).trans hv12
      have hc_223 : σ_210 286 = q_an G 1681 nv := (hf_198 286 (by decide)).trans hv13
      have hc_224 : σ_210 287 = q_an G 1681 ns := (hf_198 287 (by decide)).trans hv14
      have hc_225 : σ_210 288 = q_an G 2000 mk := (hf_198 288 (by decide)).trans hv15
      have hc_226 : σ_210 289 = q_an G 6724 va := (hf_198 289 (by decide)).trans hv16
      have hc_227 : σ_210 290 = q_an G 6724 sp := (hf_198 290 (by decide)).trans hv17
      have hc_228 : σ_210 291 = q_an G 80 lp := (hf_198 291 (by decide)).trans hv18
      have hc_229 : σ_210 292 = q_an G 600 f := (hf_198 292 (by decide)).trans hv19
      have hc_230 : σ_210 293 = q_an G 300 ou := (hf_198 293 (by decide)).trans hv20
      have hc_231 : σ_210 294 = q_ln G 1 oL := (hf_198 294 (by decide)).trans hv21
      have hc_232 : σ_210 295 = q_dn G 1 oD := (hf_198 295 (by decide)).trans hv22
      refine A_istore hg dL_law_1878 (by decide) (q_c1d rfl) ?_
      refine A_eq (ls2 := [some (.ref bS), some (.ref (q_h G + 0)), some (.ref (q_h G + 279)), some (.ref (q_h G + 294)), some (.ref (q_h G + 295)), some (.int (nI (i))), some (.int (nI (1))), some (.int (nI (0))), none]) (st2 := []) (pc2 := 0) rfl rfl ?_
      refine A_aload_n hg dL_law_1880 rfl rfl ?_
      refine A_eV (kc2 := kc + 1) (ks2 := ks + 6) (As := []) (rest := []) hg lk_RL_170 in_X11_thrown se_X11_thrown rfl dL_law_1881 ⟨by decide, by decide⟩ rfl rfl (hfK 1 6 (by decide) (by decide)) hc_197 (by omega) rfl rfl (Nat.le_of_ble_eq_true rfl) (c_X11_thrown G false 296 σ_210 (upd F 7 (nI (1))) hc_197 (by omega)) ?_
      refine A_top (w := .int (nI (1))) (congrArg Value.int rfl) ?_
      refine A_iload hg dL_law_1884 rfl ?_
      refine A_icmp_eqN (tgt := 1891) hg dL_law_1886 (by decide) (by decide) (by decide) (fun c1886 => ?_) (fun c1886 => False.elim (by omega))
      refine A_iload hg dL_law_1891 rfl ?_
      refine A_if_neN (tgt := 1908) hg dL_law_1893 (by decide) (by decide) (fun c1893 => ?_) (fun c1893 => absurd c1893 (by decide))
      refine A_goto (tgt := 3062) hg dL_law_1908 (by decide) ?_
      refine A_drop 6 ?_
      refine A_drop 7 ?_
      refine A_eq (ls2 := [some (.ref bS), some (.ref (q_h G + 0)), some (.ref (q_h G + 279)), some (.ref (q_h G + 294)), some (.ref (q_h G + 295)), some (.int (nI (i))), none, none, none]) (st2 := []) (pc2 := 0) rfl rfl ?_
      refine A_wide (kc2 := kc + 8) (ks2 := ks + 48) (by omega) (by omega) ?_
      exact hnxt _ (iv_mk il z2 z3 f lo o g nx m ps kp sn (upd F 7 (nI (1))) wk as sh a fb nv ns mk va sp lp mc z ss ou oL oD hc_211 hc_212 hc_213 hc_214 hc_215 hc_216 hc_197 hc_217 hc_218 hc_219 hc_220 hc_221 hc_222 hc_223 hc_224 hc_225 hc_226 hc_227 hc_228 hc_229 hc_230 hc_231 hc_232 (x_lj_e (fun i _ _ => (hf_198 i (by omega))) hL) (x_gm_e (fun i _ _ => (hf_198 i (by omega))) hG) (x_mx_e (fun i _ _ => (hf_198 i (by omega))) hM) (x_hi_e (fun i _ _ => (hf_198 i (by omega))) hHi) (x_oj_e (fun i _ _ => (hf_198 i (by omega))) hO) (x_pj_e (fun i _ _ => (hf_198 i (by omega))) hT) (iv_hn (fun i _ _ => (hf_198 i (by omega))) hH) (iv_Sn (fun i _ _ => (hf_198 i (by omega))) hSn) (iv_Kp (fun i _ _ => (hf_198 i (by omega))) hKp) (by omega) hfb (by omega) hou hgd hps hk1 hkss hss hsn hF5 hF6 hF12 hF16 hF21 hF22 hF23 hF33 (by omega) hmk hTI hlo)
    · skip
      refine (?_ : AJ G K Q (kc + 1) (ks + 6) false 296 1878 [some (.ref bS), some (.ref (q_h G + 0)), some (.ref (q_h G + 279)), some (.ref (q_h G + 294)), some (.ref (q_h G + 295)), some (.int (nI (i))), some (.int (nI (1))), none, none] [.int (q_d (0))] σ_210)
      have hc_199 : σ_210 279 = o11 G (upd F 7 (nI (0))) := hc_199
      have hc_233 : σ_210 0 = o10 G (nI (il)) (z2) (z3) := (hf_200 0 (by decide)).trans hv0
      have hc_234 : σ_210 1 = q_an G 600 f := (hf_200 1 (by decide)).trans hv1
      have hc_235 : σ_210 23 = o5 G (23) (nI (lo)) := (hf_200 23 (by decide)).trans hv2
      have hc_236 : σ_210 24 = q_an G 256 o := (hf_200 24 (by decide)).trans hv3
      have hc_237 : σ_210 224 = q_rn G 2 2 (fun j => some (243 + 18 * j)) := (hf_200 224 (by decide)).trans hv4
      have hc_238 : σ_210 225 = q_bn G 2 kp := (hf_200 225 (by decide)).trans hv5
      have hc_239 : σ_210 280 = q_an G 265 g := (hf_200 280 (by decide)).trans hv7
      have hc_240 : σ_210 281 = q_an G 265 wk := (hf_200 281 (by decide)).trans hv8
      have hc_241 : σ_210 282 = q_an G 265 as := (hf_200 282 (by decide)).trans hv9
      have hc_242 : σ_210 283 = q_an G 530 sh := (hf_200 283 (by decide)).trans hv10
      have hc_243 : σ_210 284 = q_an G 2120 a := (hf_200 284 (by decide)).trans hv11
      have hc_244 : σ_210 285 = q_bn G 1681 fb := (hf_200 285 (by decide)).trans hv12
      have hc_245 : σ_210 286 = q_an G 1681 nv := (hf_200 286 (by decide)).trans hv13
      have hc_246 : σ_210 287 = q_an G 1681 ns := (hf_200 287 (by decide)).trans hv14
      have hc_247 : σ_210 288 = q_an G 2000 mk := (hf_200 288 (by decide)).trans hv15
      have hc_248 : σ_210 289 = q_an G 6724 va := (hf_200 289 (by decide)).trans hv16
      have hc_249 : σ_210 290 = q_an G 6724 sp := (hf_200 290 (by decide)).trans hv17
      have hc_250 : σ_210 291 = q_an G 80 lp := (hf_200 291 (by decide)).trans hv18
      have hc_251 : σ_210 292 = q_an G 600 f := (hf_200 292 (by decide)).trans hv19
      have hc_252 : σ_210 293 = q_an G 300 ou := (hf_200 293 (by decide)).trans hv20
      have hc_253 : σ_210 294 = q_ln G 1 oL := (hf_200 294 (by decide)).trans hv21
      have hc_254 : σ_210 295 = q_dn G 1 oD := (hf_200 295 (by decide)).trans hv22
      exact (Chxx r1M (by omega) Mhre).elim
    · skip
      refine (?_ : AJ G K Q (kc + 1) (ks + 6) false 296 1878 [some (.ref bS), some (.ref (q_h G + 0)), some (.ref (q_h G + 279)), some (.ref (q_h G + 294)), some (.ref (q_h G + 295)), some (.int (nI (i))), some (.int (nI (1))), none, none] [.int (nI (s_gpc (s_rule g r1M) 1681))] σ_210)
      have hc_201 : σ_210 279 = o11 G (upd (upd (upd F 7 (nI (0))) 12 (nI (mcqM))) 16 (nI (zqM))) := hc_201
      have hc_255 : σ_210 0 = o10 G (nI (il)) (z2) (z3) := (hf_209 0 (by decide)).trans hv0
      have hc_256 : σ_210 1 = q_an G 600 f := (hf_209 1 (by decide)).trans hv1
      have hc_257 : σ_210 23 = o5 G (23) (nI (lo)) := (hf_209 23 (by decide)).trans hv2
      have hc_258 : σ_210 24 = q_an G 256 o := (hf_209 24 (by decide)).trans hv3
      have hc_259 : σ_210 224 = q_rn G 2 2 (fun j => some (243 + 18 * j)) := (hf_209 224 (by decide)).trans hv4
      have hc_260 : σ_210 225 = q_bn G 2 kp := (hf_209 225 (by decide)).trans hv5
      have hc_261 : σ_210 280 = q_an G 265 g := (hf_209 280 (by decide)).trans hv7
      have hc_262 : σ_210 281 = q_an G 265 wk := (hf_209 281 (by decide)).trans hv8
      have hc_263 : σ_210 282 = q_an G 265 as := (hf_209 282 (by decide)).trans hv9
      have hc_264 : σ_210 283 = q_an G 530 sh := (hf_209 283 (by decide)).trans hv10
      have hc_265 : σ_210 284 = q_an G 2120 a := (hf_209 284 (by decide)).trans hv11
      have hc_266 : σ_210 292 = q_an G 600 f := (hf_209 292 (by decide)).trans hv19
      have hc_267 : σ_210 293 = q_an G 300 ou := (hf_209 293 (by decide)).trans hv20
      have hc_268 : σ_210 294 = q_ln G 1 oL := (hf_209 294 (by decide)).trans hv21
      have hc_269 : σ_210 295 = q_dn G 1 oD := (hf_209 295 (by decide)).trans hv22
      exact (Chxx r1M (by omega) Mhre).elim
set_option maxRecDepth 100000 in
set_option maxHeartbeats 4000000 in
theorem law_c26 (G : GL) (K : KC) (Q : State → Prop) (hh : List (Nat × Nat × Nat × Nat)) (hg : Gd G K RL code 9 ret room_1 hh) (bS L : Nat) (xs : Nat → Int32) (hX : q_scr G K bS L xs) (i kc ks J : Nat) (hi : i + 5 < L) (hL31 : L < 2 ^ 31) (hkc : kc + 8 ≤ 601024) (hks : ks + 48 ≤ 7293034) (σ : Nat → va_E) (hI : iv G σ J) (hJ : J < 512) (hfd : q_fdn) (hdd : q_ddn) (hf2 : q_f2n) (hds : q_dcs) (hnxt : ∀ σ9 : Nat → va_E, iv G σ9 (J + 1) → AJ G K Q (kc + 8) (ks + 48) false 296 3062 [some (.ref bS), some (.ref (q_h G + 0)), some (.ref (q_h G + 279)), some (.ref (q_h G + 294)), some (.ref (q_h G + 295)), some (.int (nI (i))), none, none, none] [] σ9) : AJ G K Q kc ks false 296 1911 [some (.ref bS), some (.ref (q_h G + 0)), some (.ref (q_h G + 279)), some (.ref (q_h G + 294)), some (.ref (q_h G + 295)), some (.int (nI (i))), none, none, none] [] σ := by
  refine iv_el hI ?_
  intro il z2 z3 f lo o g nx m ps kp sn F wk as sh a fb nv ns mk va sp lp mc z ss ou oL oD
  intro hv0 hv1 hv2 hv3 hv4 hv5 hv6 hv7 hv8 hv9 hv10 hv11 hv12 hv13 hv14 hv15 hv16 hv17 hv18 hv19 hv20 hv21 hv22
  intro hL hG hM hHi hO hT hH hSn hKp
  intro hil hfb hlo2 hou hgd hps hk1 hkss hss hsn hF5 hF6 hF12 hF16 hF21 hF22 hF23 hF33 hmc hmk hTI hlo
  have hfK : ∀ a b : Nat, a ≤ 8 → b ≤ 48 → kc + a ≤ room_1.cells ∧ ks + b ≤ room_1.slots := fun a b h1 h2 => ⟨by show kc + a ≤ 601024; omega, by show ks + b ≤ 7293034; omega⟩
  have hg9 := iv_g hG
  obtain ⟨hnx8, hm8, hc78⟩ := iv_hi hHi
  have hbb := iv_byte (m := il) hfb
  have hg90 := hg9.1
  have hg96 := hg9.2.2.2.2.1
  have hnp8 := s_np_le hg9
  refine A_aload_n hg dL_law_1911 rfl rfl ?_
  refine A_aload_n hg dL_law_1912 rfl rfl ?_
  refine A_iload hg dL_law_1913 rfl ?_
  refine A_iconst (v := (nI (1))) hg dL_law_1915 (by decide) ?_
  refine A_iaddN hg dL_law_1916 ?_
  refine A_sld hg hX (i + 1) (by omega) dL_law_1917 ?_
  refine A_aload_n hg dL_law_1918 rfl rfl ?_
  refine A_callSH (As := [.ref (q_h G + 0), .int (xs (i + 1)), .ref (q_h G + 294)]) (rest := []) hg lkH_236 stH_L_advice dL_law_1919 ⟨by decide, by decide⟩ (hfK 1 6 (by decide) (by decide)) rfl rfl (Nat.le_of_ble_eq_true rfl) (c_L_advice G 296 σ (nI (il)) z2 z3 g (xs (i + 1)) oL hv0 hv21 (by omega) hG hM hH (by omega)) ?_
  rintro _ σ_1 (⟨x1C, rfl, Chxe, Chxl, Chh, ChM2, ChH2, hc_2, hf_3⟩ | ⟨x1C, rfl, Chxe, Chxl, Chh, ChM2, ChH2, hc_4, hf_5⟩ | ⟨rfl, Chxx, he_6⟩)
  · skip
    refine (?_ : AJ G K Q (kc + 1) (ks + 6) false 296 1922 [some (.ref bS), some (.ref (q_h G + 0)), some (.ref (q_h G + 279)), some (.ref (q_h G + 294)), some (.ref (q_h G + 295)), some (.int (nI (i))), none, none, none] [.int (nI (0))] σ_1)
    have hc_7 : σ_1 0 = o10 G (nI (il)) (z2) (z3) := (hf_3 0 (by decide)).trans hv0
    have hc_8 : σ_1 1 = q_an G 600 f := (hf_3 1 (by decide)).trans hv1
    have hc_9 : σ_1 23 = o5 G (23) (nI (lo)) := (hf_3 23 (by decide)).trans hv2
    have hc_10 : σ_1 24 = q_an G 256 o := (hf_3 24 (by decide)).trans hv3
    have hc_11 : σ_1 224 = q_rn G 2 2 (fun j => some (243 + 18 * j)) := (hf_3 224 (by decide)).trans hv4
    have hc_12 : σ_1 225 = q_bn G 2 kp := (hf_3 225 (by decide)).trans hv5
    have hc_13 : σ_1 279 = o11 G F := (hf_3 279 (by decide)).trans hv6
    have hc_14 : σ_1 280 = q_an G 265 g := (hf_3 280 (by decide)).trans hv7
    have hc_15 : σ_1 281 = q_an G 265 wk := (hf_3 281 (by decide)).trans hv8
    have hc_16 : σ_1 282 = q_an G 265 as := (hf_3 282 (by decide)).trans hv9
    have hc_17 : σ_1 283 = q_an G 530 sh := (hf_3 283 (by decide)).trans hv10
    have hc_18 : σ_1 284 = q_an G 2120 a := (hf_3 284 (by decide)).trans hv11
    have hc_19 : σ_1 285 = q_bn G 1681 fb := (hf_3 285 (by decide)).trans hv12
    have hc_20 : σ_1 286 = q_an G 1681 nv := (hf_3 286 (by decide)).trans hv13
    have hc_21 : σ_1 287 = q_an G 1681 ns := (hf_3 287 (by decide)).trans hv14
    have hc_22 : σ_1 288 = q_an G 2000 mk := (hf_3 288 (by decide)).trans hv15
    have hc_23 : σ_1 289 = q_an G 6724 va := (hf_3 289 (by decide)).trans hv16
    have hc_24 : σ_1 290 = q_an G 6724 sp := (hf_3 290 (by decide)).trans hv17
    have hc_25 : σ_1 291 = q_an G 80 lp := (hf_3 291 (by decide)).trans hv18
    have hc_26 : σ_1 292 = q_an G 600 f := (hf_3 292 (by decide)).trans hv19
    have hc_27 : σ_1 293 = q_an G 300 ou := (hf_3 293 (by decide)).trans hv20
    have hc_28 : σ_1 295 = q_dn G 1 oD := (hf_3 295 (by decide)).trans hv22
    refine A_istore hg dL_law_1922 (by decide) (q_c1d rfl) ?_
    refine A_eq (ls2 := [some (.ref bS), some (.ref (q_h G + 0)), some (.ref (q_h G + 279)), some (.ref (q_h G + 294)), some (.ref (q_h G + 295)), some (.int (nI (i))), some (.int (nI (0))), none, none]) (st2 := []) (pc2 := 0) rfl rfl ?_
    refine A_aload_n hg dL_law_1924 rfl rfl ?_
    refine A_aload_n hg dL_law_1925 rfl rfl ?_
    refine A_iload hg dL_law_1926 rfl ?_
    refine A_iconst (v := (nI (1))) hg dL_law_1928 (by decide) ?_
    refine A_iaddN hg dL_law_1929 ?_
    refine A_sld hg hX (i + 1) (by omega) dL_law_1930 ?_
    refine A_hV (kc2 := kc + 1) (ks2 := ks + 6) (As := [.int (xs (i + 1))]) (rest := []) hg lk_RL_238 in_X11_advice se_X11_advice rfl dL_law_1931 ⟨by decide, by decide⟩ rfl rfl (hfK 1 6 (by decide) (by decide)) hc_13 (by omega) rfl rfl (Nat.le_of_ble_eq_true rfl) (c_X11_advice G false 296 σ_1 F g fb nv ns mk va sp lp mc z (xs (i + 1)) hc_13 hc_14 hc_19 hc_20 hc_21 hc_22 hc_23 hc_24 hc_25 (by omega) hg9 (by omega) hF12 hF16 hmk hTI hlo) ?_
    rintro _ σ_49 (⟨rfl, Mhno, hc_29, hf_30⟩ | ⟨x1M, fqM, nvqM, nsqM, mkqM, vaqM, spqM, loqM, mcqM, zqM, q1M, q2M, q3M, rfl, Mhxe, Mhxl, Mhh, MhTI, Mhmc, Mhmk, Mhlo, hc_31, hc_32, hc_33, hc_34, hc_35, hc_36, hc_37, hc_38, hf_39⟩ | ⟨x1M, fqM, nvqM, nsqM, mkqM, vaqM, spqM, loqM, mcqM, zqM, q1M, q2M, q3M, rfl, Mhxe, Mhxl, Mhh, MhTI, Mhmc, Mhmk, Mhlo, hc_40, hc_41, hc_42, hc_43, hc_44, hc_45, hc_46, hc_47, hf_48⟩)
    · skip
      refine (?_ : AJ G K Q (kc + 1) (ks + 6) false 296 1934 [some (.ref bS), some (.ref (q_h G + 0)), some (.ref (q_h G + 279)), some (.ref (q_h G + 294)), some (.ref (q_h G + 295)), some (.int (nI (i))), some (.int (nI (0))), none, none] [.int (nI (0))] σ_49)
      have hc_29 : σ_49 279 = o11 G (upd F 7 (nI (1))) := hc_29
      have hc_50 : σ_49 0 = o10 G (nI (il)) (z2) (z3) := (hf_30 0 (by decide)).trans hc_7
      have hc_51 : σ_49 1 = q_an G 600 f := (hf_30 1 (by decide)).trans hc_8
      have hc_52 : σ_49 23 = o5 G (23) (nI (lo)) := (hf_30 23 (by decide)).trans hc_9
      have hc_53 : σ_49 24 = q_an G 256 o := (hf_30 24 (by decide)).trans hc_10
      have hc_54 : σ_49 224 = q_rn G 2 2 (fun j => some (243 + 18 * j)) := (hf_30 224 (by decide)).trans hc_11
      have hc_55 : σ_49 225 = q_bn G 2 kp := (hf_30 225 (by decide)).trans hc_12
      have hc_56 : σ_49 280 = q_an G 265 g := (hf_30 280 (by decide)).trans hc_14
      have hc_57 : σ_49 281 = q_an G 265 wk := (hf_30 281 (by decide)).trans hc_15
      have hc_58 : σ_49 282 = q_an G 265 as := (hf_30 282 (by decide)).trans hc_16
      have hc_59 : σ_49 283 = q_an G 530 sh := (hf_30 283 (by decide)).trans hc_17
      have hc_60 : σ_49 284 = q_an G 2120 a := (hf_30 284 (by decide)).trans hc_18
      have hc_61 : σ_49 285 = q_bn G 1681 fb := (hf_30 285 (by decide)).trans hc_19
      have hc_62 : σ_49 286 = q_an G 1681 nv := (hf_30 286 (by decide)).trans hc_20
      have hc_63 : σ_49 287 = q_an G 1681 ns := (hf_30 287 (by decide)).trans hc_21
      have hc_64 : σ_49 288 = q_an G 2000 mk := (hf_30 288 (by decide)).trans hc_22
      have hc_65 : σ_49 289 = q_an G 6724 va := (hf_30 289 (by decide)).trans hc_23
      have hc_66 : σ_49 290 = q_an G 6724 sp := (hf_30 290 (by decide)).trans hc_24
      have hc_67 : σ_49 291 = q_an G 80 lp := (hf_30 291 (by decide)).trans hc_25
      have hc_68 : σ_49 292 = q_an G 600 f := (hf_30 292 (by decide)).trans hc_26
      have hc_69 : σ_49 293 = q_an G 300 ou := (hf_30 293 (by decide)).trans hc_27
      have hc_70 : σ_49 295 = q_dn G 1 oD := (hf_30 295 (by decide)).trans hc_28
      have hc_71 : σ_49 294 = q_ln G 1 (va_up oL 0 ((nI (s_advA g x1C)).toInt64)) := (hf_30 294 (by decide)).trans hc_2
      exact (Mhno x1C (by omega) (by omega) Chxe).elim
    · skip
      refine (?_ : AJ G K Q (kc + 1) (ks + 6) false 296 1934 [some (.ref bS), some (.ref (q_h G + 0)), some (.ref (q_h G + 279)), some (.ref (q_h G + 294)), some (.ref (q_h G + 295)), some (.int (nI (i))), some (.int (nI (0))), none, none] [.int (nI (s_advA g x1M))] σ_49)
      have hc_31 : σ_49 279 = o11 G (upd (upd (upd (upd (upd (upd F 7 (nI (0))) 12 (nI (mcqM))) 16 (nI (zqM))) 17 (q1M)) 18 (q2M)) 19 (q3M)) := hc_31
      have hc_72 : σ_49 0 = o10 G (nI (il)) (z2) (z3) := (hf_39 0 (by decide)).trans hc_7
      have hc_73 : σ_49 1 = q_an G 600 f := (hf_39 1 (by decide)).trans hc_8
      have hc_74 : σ_49 23 = o5 G (23) (nI (lo)) := (hf_39 23 (by decide)).trans hc_9
      have hc_75 : σ_49 24 = q_an G 256 o := (hf_39 24 (by decide)).trans hc_10
      have hc_76 : σ_49 224 = q_rn G 2 2 (fun j => some (243 + 18 * j)) := (hf_39 224 (by decide)).trans hc_11
      have hc_77 : σ_49 225 = q_bn G 2 kp := (hf_39 225 (by decide)).trans hc_12
      have hc_78 : σ_49 280 = q_an G 265 g := (hf_39 280 (by decide)).trans hc_14
      have hc_79 : σ_49 281 = q_an G 265 wk := (hf_39 281 (by decide)).trans hc_15
      have hc_80 : σ_49 282 = q_an G 265 as := (hf_39 282 (by decide)).trans hc_16
      have hc_81 : σ_49 283 = q_an G 530 sh := (hf_39 283 (by decide)).trans hc_17
      have hc_82 : σ_49 284 = q_an G 2120 a := (hf_39 284 (by decide)).trans hc_18
      have hc_83 : σ_49 292 = q_an G 600 f := (hf_39 292 (by decide)).trans hc_26
      have hc_84 : σ_49 293 = q_an G 300 ou := (hf_39 293 (by decide)).trans hc_27
      have hc_85 : σ_49 295 = q_dn G 1 oD := (hf_39 295 (by decide)).trans hc_28
      have hc_86 : σ_49 294 = q_ln G 1 (va_up oL 0 ((nI (s_advA g x1C)).toInt64)) := (hf_39 294 (by decide)).trans hc_2
      have e_x : x1C = x1M := q_nI_inj (by omega) (by omega) (Chxe.symm.trans Mhxe)
      subst e_x
      refine A_istore hg dL_law_1934 (by decide) (q_c1d rfl) ?_
      refine A_eq (ls2 := [some (.ref bS), some (.ref (q_h G + 0)), some (.ref (q_h G + 279)), some (.ref (q_h G + 294)), some (.ref (q_h G + 295)), some (.int (nI (i))), some (.int (nI (0))), some (.int (nI (s_advA g x1C))), none]) (st2 := []) (pc2 := 0) rfl rfl ?_
      refine A_aload_n hg dL_law_1936 rfl rfl ?_
      refine A_eV (kc2 := kc + 1) (ks2 := ks + 6) (As := []) (rest := []) hg lk_RL_170 in_X11_thrown se_X11_thrown rfl dL_law_1937 ⟨by decide, by decide⟩ rfl rfl (hfK 1 6 (by decide) (by decide)) hc_31 (by omega) rfl rfl (Nat.le_of_ble_eq_true rfl) (c_X11_thrown G false 296 σ_49 (upd (upd (upd (upd (upd (upd F 7 (nI (0))) 12 (nI (mcqM))) 16 (nI (zqM))) 17 (q1M)) 18 (q2M)) 19 (q3M)) hc_31 (by omega)) ?_
      refine A_top (w := .int (nI (0))) (congrArg Value.int rfl) ?_
      refine A_iload hg dL_law_1940 rfl ?_
      refine A_icmp_eqN (tgt := 1947) hg dL_law_1942 (by decide) (by decide) (by decide) (fun c1942 => ?_) (fun c1942 => False.elim (by omega))
      refine A_iload hg dL_law_1947 rfl ?_
      refine A_if_neN (tgt := 1964) hg dL_law_1949 (by decide) (by decide) (fun c1949 => absurd (by decide) c1949) (fun c1949 => ?_)
      refine A_aload_n hg dL_law_1952 rfl rfl ?_
      refine A_iconst (v := (nI (0))) hg dL_law_1953 (by decide) ?_
      refine A_lald (j := 0) hg dL_law_1954 hc_86 (by omega) (by decide) (by decide) ?_
      refine A_top (w := .long ((nI (s_advA g x1C)).toInt64)) (congrArg Value.long iv_up0) ?_
      refine A_iload hg dL_law_1955 rfl ?_
      refine A_i2l (v := (nI (s_advA g x1C)).toInt64) hg dL_law_1957 rfl ?_
      refine A_lcmp hg dL_law_1958 ?_
      refine A_top (w := .int (nI 0)) (congrArg Value.int (lc_self _)) ?_
      refine A_if_eqN (tgt := 1964) hg dL_law_1959 (by decide) (by decide) (fun c1959 => ?_) (fun c1959 => absurd (by decide) c1959)
      refine A_goto (tgt := 3062) hg dL_law_1964 (by decide) ?_
      refine A_drop 6 ?_
      refine A_drop 7 ?_
      refine A_eq (ls2 := [some (.ref bS), some (.ref (q_h G + 0)), some (.ref (q_h G + 279)), some (.ref (q_h G + 294)), some (.ref (q_h G + 295)), some (.int (nI (i))), none, none, none]) (st2 := []) (pc2 := 0) rfl rfl ?_
      refine A_wide (kc2 := kc + 8) (ks2 := ks + 48) (by omega) (by omega) ?_
      exact hnxt _ (iv_mk il z2 z3 f lo o g nx m ps kp sn (upd (upd (upd (upd (upd (upd F 7 (nI (0))) 12 (nI (mcqM))) 16 (nI (zqM))) 17 (q1M)) 18 (q2M)) 19 (q3M)) wk as sh a fqM nvqM nsqM mkqM vaqM spqM loqM mcqM zqM ss ou (va_up oL 0 ((nI (s_advA g x1C)).toInt64)) oD hc_72 hc_73 hc_74 hc_75 hc_76 hc_77 hc_31 hc_78 hc_79 hc_80 hc_81 hc_82 hc_32 hc_33 hc_34 hc_35 hc_36 hc_37 hc_38 hc_83 hc_84 hc_86 hc_85 (x_lj_e (fun i _ _ => ((hf_39 i (by omega)).trans (hf_3 i (by omega)))) hL) (x_gm_e (fun i _ _ => ((hf_39 i (by omega)).trans (hf_3 i (by omega)))) hG) (x_mx_e (fun i _ _ => (hf_39 i (by omega))) ChM2) (x_hi_e (fun i _ _ => ((hf_39 i (by omega)).trans (hf_3 i (by omega)))) hHi) (x_oj_e (fun i _ _ => ((hf_39 i (by omega)).trans (hf_3 i (by omega)))) hO) (x_pj_e (fun i _ _ => ((hf_39 i (by omega)).trans (hf_3 i (by omega)))) hT) (iv_hn (fun i _ _ => (hf_39 i (by omega))) ChH2) (iv_Sn (fun i _ _ => ((hf_39 i (by omega)).trans (hf_3 i (by omega)))) hSn) (iv_Kp (fun i _ _ => ((hf_39 i (by omega)).trans (hf_3 i (by omega)))) hKp) (by omega) hfb (by omega) hou hgd hps hk1 hkss hss hsn hF5 hF6 rfl rfl hF21 hF22 hF23 hF33 (by omega) Mhmk MhTI Mhlo)
    · skip
      refine (?_ : AJ G K Q (kc + 1) (ks + 6) false 296 1934 [some (.ref bS), some (.ref (q_h G + 0)), some (.ref (q_h G + 279)), some (.ref (q_h G + 294)), some (.ref (q_h G + 295)), some (.int (nI (i))), some (.int (nI (0))), none, none] [.int (q_d (0))] σ_49)
      have hc_40 : σ_49 279 = o11 G (upd (upd (upd (upd (upd (upd F 7 (nI (0))) 12 (nI (mcqM))) 16 (nI (zqM))) 17 (q1M)) 18 (q2M)) 19 (q3M)) := hc_40
      have hc_87 : σ_49 0 = o10 G (nI (il)) (z2) (z3) := (hf_48 0 (by decide)).trans hc_7
      have hc_88 : σ_49 1 = q_an G 600 f := (hf_48 1 (by decide)).trans hc_8
      have hc_89 : σ_49 23 = o5 G (23) (nI (lo)) := (hf_48 23 (by decide)).trans hc_9
      have hc_90 : σ_49 24 = q_an G 256 o := (hf_48 24 (by decide)).trans hc_10
      have hc_91 : σ_49 224 = q_rn G 2 2 (fun j => some (243 + 18 * j)) := (hf_48 224 (by decide)).trans hc_11
      have hc_92 : σ_49 225 = q_bn G 2 kp := (hf_48 225 (by decide)).trans hc_12
      have hc_93 : σ_49 280 = q_an G 265 g := (hf_48 280 (by decide)).trans hc_14
      have hc_94 : σ_49 281 = q_an G 265 wk := (hf_48 281 (by decide)).trans hc_15
      have hc_95 : σ_49 282 = q_an G 265 as := (hf_48 282 (by decide)).trans hc_16
      have hc_96 : σ_49 283 = q_an G 530 sh := (hf_48 283 (by decide)).trans hc_17
      have hc_97 : σ_49 284 = q_an G 2120 a := (hf_48 284 (by decide)).trans hc_18
      have hc_98 : σ_49 292 = q_an G 600 f := (hf_48 292 (by decide)).trans hc_26
      have hc_99 : σ_49 293 = q_an G 300 ou := (hf_48 293 (by decide)).trans hc_27
      have hc_100 : σ_49 295 = q_dn G 1 oD := (hf_48 295 (by decide)).trans hc_28
      have hc_101 : σ_49 294 = q_ln G 1 (va_up oL 0 ((nI (s_advA g x1C)).toInt64)) := (hf_48 294 (by decide)).trans hc_2
      have e_x : x1C = x1M := q_nI_inj (by omega) (by omega) (Chxe.symm.trans Mhxe)
      subst e_x
      exact absurd (Chh.symm.trans Mhh) (by decide)
  · skip
    refine (?_ : AJ G K Q (kc + 1) (ks + 6) false 296 1922 [some (.ref bS), some (.ref (q_h G + 0)), some (.ref (q_h G + 279)), some (.ref (q_h G + 294)), some (.ref (q_h G + 295)), some (.int (nI (i))), none, none, none] [.int (nI (0))] σ_1)
    have hc_102 : σ_1 0 = o10 G (nI (il)) (z2) (z3) := (hf_5 0 (by decide)).trans hv0
    have hc_103 : σ_1 1 = q_an G 600 f := (hf_5 1 (by decide)).trans hv1
    have hc_104 : σ_1 23 = o5 G (23) (nI (lo)) := (hf_5 23 (by decide)).trans hv2
    have hc_105 : σ_1 24 = q_an G 256 o := (hf_5 24 (by decide)).trans hv3
    have hc_106 : σ_1 224 = q_rn G 2 2 (fun j => some (243 + 18 * j)) := (hf_5 224 (by decide)).trans hv4
    have hc_107 : σ_1 225 = q_bn G 2 kp := (hf_5 225 (by decide)).trans hv5
    have hc_108 : σ_1 279 = o11 G F := (hf_5 279 (by decide)).trans hv6
    have hc_109 : σ_1 280 = q_an G 265 g := (hf_5 280 (by decide)).trans hv7
    have hc_110 : σ_1 281 = q_an G 265 wk := (hf_5 281 (by decide)).trans hv8
    have hc_111 : σ_1 282 = q_an G 265 as := (hf_5 282 (by decide)).trans hv9
    have hc_112 : σ_1 283 = q_an G 530 sh := (hf_5 283 (by decide)).trans hv10
    have hc_113 : σ_1 284 = q_an G 2120 a := (hf_5 284 (by decide)).trans hv11
    have hc_114 : σ_1 285 = q_bn G 1681 fb := (hf_5 285 (by decide)).trans hv12
    have hc_115 : σ_1 286 = q_an G 1681 nv := (hf_5 286 (by decide)).trans hv13
    have hc_116 : σ_1 287 = q_an G 1681 ns := (hf_5 287 (by decide)).trans hv14
    have hc_117 : σ_1 288 = q_an G 2000 mk := (hf_5 288 (by decide)).trans hv15
    have hc_118 : σ_1 289 = q_an G 6724 va := (hf_5 289 (by decide)).trans hv16
    have hc_119 : σ_1 290 = q_an G 6724 sp := (hf_5 290 (by decide)).trans hv17
    have hc_120 : σ_1 291 = q_an G 80 lp := (hf_5 291 (by decide)).trans hv18
    have hc_121 : σ_1 292 = q_an G 600 f := (hf_5 292 (by decide)).trans hv19
    have hc_122 : σ_1 293 = q_an G 300 ou := (hf_5 293 (by decide)).trans hv20
    have hc_123 : σ_1 295 = q_dn G 1 oD := (hf_5 295 (by decide)).trans hv22
    refine A_istore hg dL_law_1922 (by decide) (q_c1d rfl) ?_
    refine A_eq (ls2 := [some (.ref bS), some (.ref (q_h G + 0)), some (.ref (q_h G + 279)), some (.ref (q_h G + 294)), some (.ref (q_h G + 295)), some (.int (nI (i))), some (.int (nI (0))), none, none]) (st2 := []) (pc2 := 0) rfl rfl ?_
    refine A_aload_n hg dL_law_1924 rfl rfl ?_
    refine A_aload_n hg dL_law_1925 rfl rfl ?_
    refine A_iload hg dL_law_1926 rfl ?_
    refine A_iconst (v := (nI (1))) hg dL_law_1928 (by decide) ?_
    refine A_iaddN hg dL_law_1929 ?_
    refine A_sld hg hX (i + 1) (by omega) dL_law_1930 ?_
    refine A_hV (kc2 := kc + 1) (ks2 := ks + 6) (As := [.int (xs (i + 1))]) (rest := []) hg lk_RL_238 in_X11_advice se_X11_advice rfl dL_law_1931 ⟨by decide, by decide⟩ rfl rfl (hfK 1 6 (by decide) (by decide)) hc_108 (by omega) rfl rfl (Nat.le_of_ble_eq_true rfl) (c_X11_advice G false 296 σ_1 F g fb nv ns mk va sp lp mc z (xs (i + 1)) hc_108 hc_109 hc_114 hc_115 hc_116 hc_117 hc_118 hc_119 hc_120 (by omega) hg9 (by omega) hF12 hF16 hmk hTI hlo) ?_
    rintro _ σ_144 (⟨rfl, Mhno, hc_124, hf_125⟩ | ⟨x1M, fqM, nvqM, nsqM, mkqM, vaqM, spqM, loqM, mcqM, zqM, q1M, q2M, q3M, rfl, Mhxe, Mhxl, Mhh, MhTI, Mhmc, Mhmk, Mhlo, hc_126, hc_127, hc_128, hc_129, hc_130, hc_131, hc_132, hc_133, hf_134⟩ | ⟨x1M, fqM, nvqM, nsqM, mkqM, vaqM, spqM, loqM, mcqM, zqM, q1M, q2M, q3M, rfl, Mhxe, Mhxl, Mhh, MhTI, Mhmc, Mhmk, Mhlo, hc_135, hc_136, hc_137, hc_138, hc_139, hc_140, hc_141, hc_142, hf_143⟩)
    · skip
      refine (?_ : AJ G K Q (kc + 1) (ks + 6) false 296 1934 [some (.ref bS), some (.ref (q_h G + 0)), some (.ref (q_h G + 279)), some (.ref (q_h G + 294)), some (.ref (q_h G + 295)), some (.int (nI (i))), some (.int (nI (0))), none, none] [.int (nI (0))] σ_144)
      have hc_124 : σ_144 279 = o11 G (upd F 7 (nI (1))) := hc_124
      have hc_145 : σ_144 0 = o10 G (nI (il)) (z2) (z3) := (hf_125 0 (by decide)).trans hc_102
      have hc_146 : σ_144 1 = q_an G 600 f := (hf_125 1 (by decide)).trans hc_103
      have hc_147 : σ_144 23 = o5 G (23) (nI (lo)) := (hf_125 23 (by decide)).trans hc_104
      have hc_148 : σ_144 24 = q_an G 256 o := (hf_125 24 (by decide)).trans hc_105
      have hc_149 : σ_144 224 = q_rn G 2 2 (fun j => some (243 + 18 * j)) := (hf_125 224 (by decide)).trans hc_106
      have hc_150 : σ_144 225 = q_bn G 2 kp := (hf_125 225 (by decide)).trans hc_107
      have hc_151 : σ_144 280 = q_an G 265 g := (hf_125 280 (by decide)).trans hc_109
      have hc_152 : σ_144 281 = q_an G 265 wk := (hf_125 281 (by decide)).trans hc_110
      have hc_153 : σ_144 282 = q_an G 265 as := (hf_125 282 (by decide)).trans hc_111
      have hc_154 : σ_144 283 = q_an G 530 sh := (hf_125 283 (by decide)).trans hc_112
      have hc_155 : σ_144 284 = q_an G 2120 a := (hf_125 284 (by decide)).trans hc_113
      have hc_156 : σ_144 285 = q_bn G 1681 fb := (hf_125 285 (by decide)).trans hc_114
      have hc_157 : σ_144 286 = q_an G 1681 nv := (hf_125 286 (by decide)).trans hc_115
      have hc_158 : σ_144 287 = q_an G 1681 ns := (hf_125 287 (by decide)).trans hc_116
      have hc_159 : σ_144 288 = q_an G 2000 mk := (hf_125 288 (by decide)).trans hc_117
      have hc_160 : σ_144 289 = q_an G 6724 va := (hf_125 289 (by decide)).trans hc_118
      have hc_161 : σ_144 290 = q_an G 6724 sp := (hf_125 290 (by decide)).trans hc_119
      have hc_162 : σ_144 291 = q_an G 80 lp := (hf_125 291 (by decide)).trans hc_120
      have hc_163 : σ_144 292 = q_an G 600 f := (hf_125 292 (by decide)).trans hc_121
      have hc_164 : σ_144 293 = q_an G 300 ou := (hf_125 293 (by decide)).trans hc_122
      have hc_165 : σ_144 295 = q_dn G 1 oD := (hf_125 295 (by decide)).trans hc_123
      have hc_166 : σ_144 294 = q_ln G 1 (va_up oL 0 ((q_d (0)).toInt64)) := (hf_125 294 (by decide)).trans hc_4
      exact (Mhno x1C (by omega) (by omega) Chxe).elim
    · skip
      refine (?_ : AJ G K Q (kc + 1) (ks + 6) false 296 1934 [some (.ref bS), some (.ref (q_h G + 0)), some (.ref (q_h G + 279)), some (.ref (q_h G + 294)), some (.ref (q_h G + 295)), some (.int (nI (i))), some (.int (nI (0))), none, none] [.int (nI (s_advA g x1M))] σ_144)
      have hc_126 : σ_144 279 = o11 G (upd (upd (upd (upd (upd (upd F 7 (nI (0))) 12 (nI (mcqM))) 16 (nI (zqM))) 17 (q1M)) 18 (q2M)) 19 (q3M)) := hc_126
      have hc_167 : σ_144 0 = o10 G (nI (il)) (z2) (z3) := (hf_134 0 (by decide)).trans hc_102
      have hc_168 : σ_144 1 = q_an G 600 f := (hf_134 1 (by decide)).trans hc_103
      have hc_169 : σ_144 23 = o5 G (23) (nI (lo)) := (hf_134 23 (by decide)).trans hc_104
      have hc_170 : σ_144 24 = q_an G 256 o := (hf_134 24 (by decide)).trans hc_105
      have hc_171 : σ_144 224 = q_rn G 2 2 (fun j => some (243 + 18 * j)) := (hf_134 224 (by decide)).trans hc_106
      have hc_172 : σ_144 225 = q_bn G 2 kp := (hf_134 225 (by decide)).trans hc_107
      have hc_173 : σ_144 280 = q_an G 265 g := (hf_134 280 (by decide)).trans hc_109
      have hc_174 : σ_144 281 = q_an G 265 wk := (hf_134 281 (by decide)).trans hc_110
      have hc_175 : σ_144 282 = q_an G 265 as := (hf_134 282 (by decide)).trans hc_111
      have hc_176 : σ_144 283 = q_an G 530 sh := (hf_134 283 (by decide)).trans hc_112
      have hc_177 : σ_144 284 = q_an G 2120 a := (hf_134 284 (by decide)).trans hc_113
      have hc_178 : σ_144 292 = q_an G 600 f := (hf_134 292 (by decide)).trans hc_121
      have hc_179 : σ_144 293 = q_an G 300 ou := (hf_134 293 (by decide)).trans hc_122
      have hc_180 : σ_144 295 = q_dn G 1 oD := (hf_134 295 (by decide)).trans hc_123
      have hc_181 : σ_144 294 = q_ln G 1 (va_up oL 0 ((q_d (0)).toInt64)) := (hf_134 294 (by decide)).trans hc_4
      have e_x : x1C = x1M := q_nI_inj (by omega) (by omega) (Chxe.symm.trans Mhxe)
      subst e_x
      exact absurd (Mhh.symm.trans Chh) (by decide)
    · skip
      refine (?_ : AJ G K Q (kc + 1) (ks + 6) false 296 1934 [some (.ref bS), some (.ref (q_h G + 0)), some (.ref (q_h G + 279)), some (.ref (q_h G + 294)), some (.ref (q_h G + 295)), some (.int (nI (i))), some (.int (nI (0))), none, none] [.int (q_d (0))] σ_144)
      have hc_135 : σ_144 279 = o11 G (upd (upd (upd (upd (upd (upd F 7 (nI (0))) 12 (nI (mcqM))) 16 (nI (zqM))) 17 (q1M)) 18 (q2M)) 19 (q3M)) := hc_135
      have hc_182 : σ_144 0 = o10 G (nI (il)) (z2) (z3) := (hf_143 0 (by decide)).trans hc_102
      have hc_183 : σ_144 1 = q_an G 600 f := (hf_143 1 (by decide)).trans hc_103
      have hc_184 : σ_144 23 = o5 G (23) (nI (lo)) := (hf_143 23 (by decide)).trans hc_104
      have hc_185 : σ_144 24 = q_an G 256 o := (hf_143 24 (by decide)).trans hc_105
      have hc_186 : σ_144 224 = q_rn G 2 2 (fun j => some (243 + 18 * j)) := (hf_143 224 (by decide)).trans hc_106
      have hc_187 : σ_144 225 = q_bn G 2 kp := (hf_143 225 (by decide)).trans hc_107
      have hc_188 : σ_144 280 = q_an G 265 g := (hf_143 280 (by decide)).trans hc_109
      have hc_189 : σ_144 281 = q_an G 265 wk := (hf_143 281 (by decide)).trans hc_110
      have hc_190 : σ_144 282 = q_an G 265 as := (hf_143 282 (by decide)).trans hc_111
      have hc_191 : σ_144 283 = q_an G 530 sh := (hf_143 283 (by decide)).trans hc_112
      have hc_192 : σ_144 284 = q_an G 2120 a := (hf_143 284 (by decide)).trans hc_113
      have hc_193 : σ_144 292 = q_an G 600 f := (hf_143 292 (by decide)).trans hc_121
      have hc_194 : σ_144 293 = q_an G 300 ou := (hf_143 293 (by decide)).trans hc_122
      have hc_195 : σ_144 295 = q_dn G 1 oD := (hf_143 295 (by decide)).trans hc_123
      have hc_196 : σ_144 294 = q_ln G 1 (va_up oL 0 ((q_d (0)).toInt64)) := (hf_143 294 (by decide)).trans hc_4
      have e_x : x1C = x1M := q_nI_inj (by omega) (by omega) (Chxe.symm.trans Mhxe)
      subst e_x
      refine A_istore hg dL_law_1934 (by decide) (q_c1d rfl) ?_
      refine A_eq (ls2 := [some (.ref bS), some (.ref (q_h G + 0)), some (.ref (q_h G + 279)), some (.ref (q_h G + 294)), some (.ref (q_h G + 295)), some (.int (nI (i))), some (.int (nI (0))), some (.int (q_d (0))), none]) (st2 := []) (pc2 := 0) rfl rfl ?_
      refine A_aload_n hg dL_law_1936 rfl rfl ?_
      refine A_eV (kc2 := kc + 1) (ks2 := ks + 6) (As := []) (rest := []) hg lk_RL_170 in_X11_thrown se_X11_thrown rfl dL_law_1937 ⟨by decide, by decide⟩ rfl rfl (hfK 1 6 (by decide) (by decide)) hc_135 (by omega) rfl rfl (Nat.le_of_ble_eq_true rfl) (c_X11_thrown G false 296 σ_144 (upd (upd (upd (upd (upd (upd F 7 (nI (0))) 12 (nI (mcqM))) 16 (nI (zqM))) 17 (q1M)) 18 (q2M)) 19 (q3M)) hc_135 (by omega)) ?_
      refine A_top (w := .int (nI (0))) (congrArg Value.int rfl) ?_
      refine A_iload hg dL_law_1940 rfl ?_
      refine A_icmp_eqN (tgt := 1947) hg dL_law_1942 (by decide) (by decide) (by decide) (fun c1942 => ?_) (fun c1942 => False.elim (by omega))
      refine A_iload hg dL_law_1947 rfl ?_
      refine A_if_neN (tgt := 1964) hg dL_law_1949 (by decide) (by decide) (fun c1949 => absurd (by decide) c1949) (fun c1949 => ?_)
      refine A_aload_n hg dL_law_1952 rfl rfl ?_
      refine A_iconst (v := (nI (0))) hg dL_law_1953 (by decide) ?_
      refine A_lald (j := 0) hg dL_law_1954 hc_196 (by omega) (by decide) (by decide) ?_
      refine A_top (w := .long ((q_d (0)).toInt64)) (congrArg Value.long iv_up0) ?_
      refine A_iload hg dL_law_1955 rfl ?_
      refine A_i2l (v := (q_d (0)).toInt64) hg dL_law_1957 rfl ?_
      refine A_lcmp hg dL_law_1958 ?_
      refine A_top (w := .int (nI 0)) (congrArg Value.int (lc_self _)) ?_
      refine A_if_eqN (tgt := 1964) hg dL_law_1959 (by decide) (by decide) (fun c1959 => ?_) (fun c1959 => absurd (by decide) c1959)
      refine A_goto (tgt := 3062) hg dL_law_1964 (by decide) ?_
      refine A_drop 6 ?_
      refine A_drop 7 ?_
      refine A_eq (ls2 := [some (.ref bS), some (.ref (q_h G + 0)), some (.ref (q_h G + 279)), some (.ref (q_h G + 294)), some (.ref (q_h G + 295)), some (.int (nI (i))), none, none, none]) (st2 := []) (pc2 := 0) rfl rfl ?_
      refine A_wide (kc2 := kc + 8) (ks2 := ks + 48) (by omega) (by omega) ?_
      exact hnxt _ (iv_mk il z2 z3 f lo o g nx m ps kp sn (upd (upd (upd (upd (upd (upd F 7 (nI (0))) 12 (nI (mcqM))) 16 (nI (zqM))) 17 (q1M)) 18 (q2M)) 19 (q3M)) wk as sh a fqM nvqM nsqM mkqM vaqM spqM loqM mcqM zqM ss ou (va_up oL 0 ((q_d (0)).toInt64)) oD hc_182 hc_183 hc_184 hc_185 hc_186 hc_187 hc_135 hc_188 hc_189 hc_190 hc_191 hc_192 hc_136 hc_137 hc_138 hc_139 hc_140 hc_141 hc_142 hc_193 hc_194 hc_196 hc_195 (x_lj_e (fun i _ _ => ((hf_143 i (by omega)).trans (hf_5 i (by omega)))) hL) (x_gm_e (fun i _ _ => ((hf_143 i (by omega)).trans (hf_5 i (by omega)))) hG) (x_mx_e (fun i _ _ => (hf_143 i (by omega))) ChM2) (x_hi_e (fun i _ _ => ((hf_143 i (by omega)).trans (hf_5 i (by omega)))) hHi) (x_oj_e (fun i _ _ => ((hf_143 i (by omega)).trans (hf_5 i (by omega)))) hO) (x_pj_e (fun i _ _ => ((hf_143 i (by omega)).trans (hf_5 i (by omega)))) hT) (iv_hn (fun i _ _ => (hf_143 i (by omega))) ChH2) (iv_Sn (fun i _ _ => ((hf_143 i (by omega)).trans (hf_5 i (by omega)))) hSn) (iv_Kp (fun i _ _ => ((hf_143 i (by omega)).trans (hf_5 i (by omega)))) hKp) (by omega) hfb (by omega) hou hgd hps hk1 hkss hss hsn hF5 hF6 rfl rfl hF21 hF22 hF23 hF33 (by omega) Mhmk MhTI Mhlo)
  · skip
    rw [he_6]
    refine (?_ : AJ G K Q (kc + 1) (ks + 6) false 296 1922 [some (.ref bS), some (.ref (q_h G + 0)), some (.ref (q_h G + 279)), some (.ref (q_h G + 294)), some (.ref (q_h G + 295)), some (.int (nI (i))), none, none, none] [.int (nI (1))] σ)
    refine A_istore hg dL_law_1922 (by decide) (q_c1d rfl) ?_
    refine A_eq (ls2 := [some (.ref bS), some (.ref (q_h G + 0)), some (.ref (q_h G + 279)), some (.ref (q_h G + 294)), some (.ref (q_h G + 295)), some (.int (nI (i))), some (.int (nI (1))), none, none]) (st2 := []) (pc2 := 0) rfl rfl ?_
    refine A_aload_n hg dL_law_1924 rfl rfl ?_
    refine A_aload_n hg dL_law_1925 rfl rfl ?_
    refine A_iload hg dL_law_1926 rfl ?_
    refine A_iconst (v := (nI (1))) hg dL_law_1928 (by decide) ?_
    refine A_iaddN hg dL_law_1929 ?_
    refine A_sld hg hX (i + 1) (by omega) dL_law_1930 ?_
    refine A_hV (kc2 := kc + 1) (ks2 := ks + 6) (As := [.int (xs (i + 1))]) (rest := []) hg lk_RL_238 in_X11_advice se_X11_advice rfl dL_law_1931 ⟨by decide, by decide⟩ rfl rfl (hfK 1 6 (by decide) (by decide)) hv6 (by omega) rfl rfl (Nat.le_of_ble_eq_true rfl) (c_X11_advice G false 296 σ F g fb nv ns mk va sp lp mc z (xs (i + 1)) hv6 hv7 hv12 hv13 hv14 hv15 hv16 hv17 hv18 (by omega) hg9 (by omega) hF12 hF16 hmk hTI hlo) ?_
    rintro _ σ_217 (⟨rfl, Mhno, hc_197, hf_198⟩ | ⟨x1M, fqM, nvqM, nsqM, mkqM, vaqM, spqM, loqM, mcqM, zqM, q1M, q2M, q3M, rfl, Mhxe, Mhxl, Mhh, MhTI, Mhmc, Mhmk, Mhlo, hc_199, hc_200, hc_201, hc_202, hc_203, hc_204, hc_205, hc_206, hf_207⟩ | ⟨x1M, fqM, nvqM, nsqM, mkqM, vaqM, spqM, loqM, mcqM, zqM, q1M, q2M, q3M, rfl, Mhxe, Mhxl, Mhh, MhTI, Mhmc, Mhmk, Mhlo, hc_208, hc_209, hc_210, hc_211, hc_212, hc_213, hc_214, hc_215, hf_216⟩)
    · skip
      refine (?_ : AJ G K Q (kc + 1) (ks + 6) false 296 1934 [some (.ref bS), some (.ref (q_h G + 0)), some (.ref (q_h G + 279)), some (.ref (q_h G + 294)), some (.ref (q_h G + 295)), some (.int (nI (i))), some (.int (nI (1))), none, none] [.int (nI (0))] σ_217)
      have hc_197 : σ_217 279 = o11 G (upd F 7 (nI (1))) := hc_197
      have hc_218 : σ_217 0 = o10 G (nI (il)) (z2) (z3) := (hf_198 0 (by decide)).trans hv0
      have hc_219 : σ_217 1 = q_an G 600 f := (hf_198 1 (by decide)).trans hv1
      have hc_220 : σ_217 23 = o5 G (23) (nI (lo)) := (hf_198 23 (by decide)).trans hv2
      have hc_221 : σ_217 24 = q_an G 256 o := (hf_198 24 (by decide)).trans hv3
      have hc_222 : σ_217 224 = q_rn G 2 2 (fun j => some (243 + 18 * j)) := (hf_198 224 (by decide)).trans hv4
      have hc_223 : σ_217 225 = q_bn G 2 kp := (hf_198 225 (by decide)).trans hv5
      have hc_224 : σ_217 280 = q_an G 265 g := (hf_198 280 (by decide)).trans hv7
      have hc_225 : σ_217 281 = q_an G 265 wk := (hf_198 281 (by decide)).trans hv8
      have hc_226 : σ_217 282 = q_an G 265 as := (hf_198 282 (by decide)).trans hv9
      have hc_227 : σ_217 283 = q_an G 530 sh := (hf_198 283 (by decide)).trans hv10
      have hc_228 : σ_217 284 = q_an G 2120 a := (hf_198 284 (by decide)).trans hv11
      have hc_229 : σ_217 285 = q_bn G 1681 fb := (hf_198 285 (by decide)).trans hv12
      have hc_230 : σ_217 286 = q_an G 1681 nv := (hf_198 286 (by decide)).trans hv13
      have hc_231 : σ_217 287 = q_an G 1681 ns := (hf_198 287 (by decide)).trans hv14
      have hc_232 : σ_217 288 = q_an G 2000 mk := (hf_198 288 (by decide)).trans hv15
      have hc_233 : σ_217 289 = q_an G 6724 va := (hf_198 289 (by decide)).trans hv16
      have hc_234 : σ_217 290 = q_an G 6724 sp := (hf_198 290 (by decide)).trans hv17
      have hc_235 : σ_217 291 = q_an G 80 lp := (hf_198 291 (by decide)).trans hv18
      have hc_236 : σ_217 292 = q_an G 600 f := (hf_198 292 (by decide)).trans hv19
      have hc_237 : σ_217 293 = q_an G 300 ou := (hf_198 293 (by decide)).trans hv20
      have hc_238 : σ_217 294 = q_ln G 1 oL := (hf_198 294 (by decide)).trans hv21
      have hc_239 : σ_217 295 = q_dn G 1 oD := (hf_198 295 (by decide)).trans hv22
      refine A_istore hg dL_law_1934 (by decide) (q_c1d rfl) ?_
      refine A_eq (ls2 := [some (.ref bS), some (.ref (q_h G + 0)), some (.ref (q_h G + 279)), some (.ref (q_h G + 294)), some (.ref (q_h G + 295)), some (.int (nI (i))), some (.int (nI (1))), some (.int (nI (0))), none]) (st2 := []) (pc2 := 0) rfl rfl ?_
      refine A_aload_n hg dL_law_1936 rfl rfl ?_
      refine A_eV (kc2 := kc + 1) (ks2 := ks + 6) (As := []) (rest := []) hg lk_RL_170 in_X11_thrown se_X11_thrown rfl dL_law_1937 ⟨by decide, by decide⟩ rfl rfl (hfK 1 6 (by decide) (by decide)) hc_197 (by omega) rfl rfl (Nat.le_of_ble_eq_true rfl) (c_X11_thrown G false 296 σ_217 (upd F 7 (nI (1))) hc_197 (by omega)) ?_
      refine A_top (w := .int (nI (1))) (congrArg Value.int rfl) ?_
      refine A_iload hg dL_law_1940 rfl ?_
      refine A_icmp_eqN (tgt := 1947) hg dL_law_1942 (by decide) (by decide) (by decide) (fun c1942 => ?_) (fun c1942 => False.elim (by omega))
      refine A_iload hg dL_law_1947 rfl ?_
      refine A_if_neN (tgt := 1964) hg dL_law_1949 (by decide) (by decide) (fun c1949 => ?_) (fun c1949 => absurd c1949 (by decide))
      refine A_goto (tgt := 3062) hg dL_law_1964 (by decide) ?_
      refine A_drop 6 ?_
      refine A_drop 7 ?_
      refine A_eq (ls2 := [some (.ref bS), some (.ref (q_h G + 0)), some (.ref (q_h G + 279)), some (.ref (q_h G + 294)), some (.ref (q_h G + 295)), some (.int (nI (i))), none, none, none]) (st2 := []) (pc2 := 0) rfl rfl ?_
      refine A_wide (kc2 := kc + 8) (ks2 := ks + 48) (by omega) (by omega) ?_
      exact hnxt _ (iv_mk il z2 z3 f lo o g nx m ps kp sn (upd F 7 (nI (1))) wk as sh a fb nv ns mk va sp lp mc z ss ou oL oD hc_218 hc_219 hc_220 hc_221 hc_222 hc_223 hc_197 hc_224 hc_225 hc_226 hc_227 hc_228 hc_229 hc_230 hc_231 hc_232 hc_233 hc_234 hc_235 hc_236 hc_237 hc_238 hc_239 (x_lj_e (fun i _ _ => (hf_198 i (by omega))) hL) (x_gm_e (fun i _ _ => (hf_198 i (by omega))) hG) (x_mx_e (fun i _ _ => (hf_198 i (by omega))) hM) (x_hi_e (fun i _ _ => (hf_198 i (by omega))) hHi) (x_oj_e (fun i _ _ => (hf_198 i (by omega))) hO) (x_pj_e (fun i _ _ => (hf_198 i (by omega))) hT) (iv_hn (fun i _ _ => (hf_198 i (by omega))) hH) (iv_Sn (fun i _ _ => (hf_198 i (by omega))) hSn) (iv_Kp (fun i _ _ => (hf_198 i (by omega))) hKp) (by omega) hfb (by omega) hou hgd hps hk1 hkss hss hsn hF5 hF6 hF12 hF16 hF21 hF22 hF23 hF33 (by omega) hmk hTI hlo)
    · skip
      refine (?_ : AJ G K Q (kc + 1) (ks + 6) false 296 1934 [some (.ref bS), some (.ref (q_h G + 0)), some (.ref (q_h G + 279)), some (.ref (q_h G + 294)), some (.ref (q_h G + 295)), some (.int (nI (i))), some (.int (nI (1))), none, none] [.int (nI (s_advA g x1M))] σ_217)
      have hc_199 : σ_217 279 = o11 G (upd (upd (upd (upd (upd (upd F 7 (nI (0))) 12 (nI (mcqM))) 16 (nI (zqM))) 17 (q1M)) 18 (q2M)) 19 (q3M)) := hc_199
      have hc_240 : σ_217 0 = o10 G (nI (il)) (z2) (z3) := (hf_207 0 (by decide)).trans hv0
      have hc_241 : σ_217 1 = q_an G 600 f := (hf_207 1 (by decide)).trans hv1
      have hc_242 : σ_217 23 = o5 G (23) (nI (lo)) := (hf_207 23 (by decide)).trans hv2
      have hc_243 : σ_217 24 = q_an G 256 o := (hf_207 24 (by decide)).trans hv3
      have hc_244 : σ_217 224 = q_rn G 2 2 (fun j => some (243 + 18 * j)) := (hf_207 224 (by decide)).trans hv4
      have hc_245 : σ_217 225 = q_bn G 2 kp := (hf_207 225 (by decide)).trans hv5
      have hc_246 : σ_217 280 = q_an G 265 g := (hf_207 280 (by decide)).trans hv7
      have hc_247 : σ_217 281 = q_an G 265 wk := (hf_207 281 (by decide)).trans hv8
      have hc_248 : σ_217 282 = q_an G 265 as := (hf_207 282 (by decide)).trans hv9
      have hc_249 : σ_217 283 = q_an G 530 sh := (hf_207 283 (by decide)).trans hv10
      have hc_250 : σ_217 284 = q_an G 2120 a := (hf_207 284 (by decide)).trans hv11
      have hc_251 : σ_217 292 = q_an G 600 f := (hf_207 292 (by decide)).trans hv19
      have hc_252 : σ_217 293 = q_an G 300 ou := (hf_207 293 (by decide)).trans hv20
      have hc_253 : σ_217 294 = q_ln G 1 oL := (hf_207 294 (by decide)).trans hv21
      have hc_254 : σ_217 295 = q_dn G 1 oD := (hf_207 295 (by decide)).trans hv22
      exact (Chxx x1M (by omega) (by omega) Mhxe).elim
    · skip
      refine (?_ : AJ G K Q (kc + 1) (ks + 6) false 296 1934 [some (.ref bS), some (.ref (q_h G + 0)), some (.ref (q_h G + 279)), some (.ref (q_h G + 294)), some (.ref (q_h G + 295)), some (.int (nI (i))), some (.int (nI (1))), none, none] [.int (q_d (0))] σ_217)
      have hc_208 : σ_217 279 = o11 G (upd (upd (upd (upd (upd (upd F 7 (nI (0))) 12 (nI (mcqM))) 16 (nI (zqM))) 17 (q1M)) 18 (q2M)) 19 (q3M)) := hc_208
      have hc_255 : σ_217 0 = o10 G (nI (il)) (z2) (z3) := (hf_216 0 (by decide)).trans hv0
      have hc_256 : σ_217 1 = q_an G 600 f := (hf_216 1 (by decide)).trans hv1
      have hc_257 : σ_217 23 = o5 G (23) (nI (lo)) := (hf_216 23 (by decide)).trans hv2
      have hc_258 : σ_217 24 = q_an G 256 o := (hf_216 24 (by decide)).trans hv3
      have hc_259 : σ_217 224 = q_rn G 2 2 (fun j => some (243 + 18 * j)) := (hf_216 224 (by decide)).trans hv4
      have hc_260 : σ_217 225 = q_bn G 2 kp := (hf_216 225 (by decide)).trans hv5
      have hc_261 : σ_217 280 = q_an G 265 g := (hf_216 280 (by decide)).trans hv7
      have hc_262 : σ_217 281 = q_an G 265 wk := (hf_216 281 (by decide)).trans hv8
      have hc_263 : σ_217 282 = q_an G 265 as := (hf_216 282 (by decide)).trans hv9
      have hc_264 : σ_217 283 = q_an G 530 sh := (hf_216 283 (by decide)).trans hv10
      have hc_265 : σ_217 284 = q_an G 2120 a := (hf_216 284 (by decide)).trans hv11
      have hc_266 : σ_217 292 = q_an G 600 f := (hf_216 292 (by decide)).trans hv19
      have hc_267 : σ_217 293 = q_an G 300 ou := (hf_216 293 (by decide)).trans hv20
      have hc_268 : σ_217 294 = q_ln G 1 oL := (hf_216 294 (by decide)).trans hv21
      have hc_269 : σ_217 295 = q_dn G 1 oD := (hf_216 295 (by decide)).trans hv22
      exact (Chxx x1M (by omega) (by omega) Mhxe).elim
set_option maxRecDepth 100000 in
set_option maxHeartbeats 4000000 in
theorem law_c27 (G : GL) (K : KC) (Q : State → Prop) (hh : List (Nat × Nat × Nat × Nat)) (hg : Gd G K RL code 9 ret room_1 hh) (bS L : Nat) (xs : Nat → Int32) (hX : q_scr G K bS L xs) (i kc ks J : Nat) (hi : i + 5 < L) (hL31 : L < 2 ^ 31) (hkc : kc + 8 ≤ 601024) (hks : ks + 48 ≤ 7293034) (σ : Nat → va_E) (hI : iv G σ J) (hJ : J < 512) (hfd : q_fdn) (hdd : q_ddn) (hf2 : q_f2n) (hds : q_dcs) (hnxt : ∀ σ9 : Nat → va_E, iv G σ9 (J + 1) → AJ G K Q (kc + 8) (ks + 48) false 296 3062 [some (.ref bS), some (.ref (q_h G + 0)), some (.ref (q_h G + 279)), some (.ref (q_h G + 294)), some (.ref (q_h G + 295)), some (.int (nI (i))), none, none, none] [] σ9) : AJ G K Q kc ks false 296 1967 [some (.ref bS), some (.ref (q_h G + 0)), some (.ref (q_h G + 279)), some (.ref (q_h G + 294)), some (.ref (q_h G + 295)), some (.int (nI (i))), none, none, none] [] σ := by
  refine iv_el hI ?_
  intro il z2 z3 f lo o g nx m ps kp sn F wk as sh a fb nv ns mk va sp lp mc z ss ou oL oD
  intro hv0 hv1 hv2 hv3 hv4 hv5 hv6 hv7 hv8 hv9 hv10 hv11 hv12 hv13 hv14 hv15 hv16 hv17 hv18 hv19 hv20 hv21 hv22
  intro hL hG hM hHi hO hT hH hSn hKp
  intro hil hfb hlo2 hou hgd hps hk1 hkss hss hsn hF5 hF6 hF12 hF16 hF21 hF22 hF23 hF33 hmc hmk hTI hlo
  have hfK : ∀ a b : Nat, a ≤ 8 → b ≤ 48 → kc + a ≤ room_1.cells ∧ ks + b ≤ room_1.slots := fun a b h1 h2 => ⟨by show kc + a ≤ 601024; omega, by show ks + b ≤ 7293034; omega⟩
  have hg9 := iv_g hG
  obtain ⟨hnx8, hm8, hc78⟩ := iv_hi hHi
  have hbb := iv_byte (m := il) hfb
  have hg90 := hg9.1
  have hg96 := hg9.2.2.2.2.1
  have hnp8 := s_np_le hg9
  refine A_aload_n hg dL_law_1967 rfl rfl ?_
  refine A_hV (kc2 := kc + 0) (ks2 := ks + 0) (As := []) (rest := []) hg lk_RL_239 in_X10_turnsIn se_X10_turnsIn rfl dL_law_1968 ⟨by decide, by decide⟩ rfl rfl (hfK 0 0 (by decide) (by decide)) hv0 (by omega) rfl rfl (Nat.le_of_ble_eq_true rfl) (c_X10_turnsIn G false 296 σ (nI (il)) z2 z3 g hv0 (by omega) hG hM hH hT) ?_
  rintro _ σ_2 ⟨rfl, ChM2, ChH2, ChT2, hf_1⟩
  refine (?_ : AJ G K Q (kc + 0) (ks + 0) false 296 1971 [some (.ref bS), some (.ref (q_h G + 0)), some (.ref (q_h G + 279)), some (.ref (q_h G + 294)), some (.ref (q_h G + 295)), some (.int (nI (i))), none, none, none] [.int (nI (s_fn g 600))] σ_2)
  have hc_3 : σ_2 0 = o10 G (nI (il)) (z2) (z3) := (hf_1 0 (by decide)).trans hv0
  have hc_4 : σ_2 1 = q_an G 600 f := (hf_1 1 (by decide)).trans hv1
  have hc_5 : σ_2 23 = o5 G (23) (nI (lo)) := (hf_1 23 (by decide)).trans hv2
  have hc_6 : σ_2 24 = q_an G 256 o := (hf_1 24 (by decide)).trans hv3
  have hc_7 : σ_2 224 = q_rn G 2 2 (fun j => some (243 + 18 * j)) := (hf_1 224 (by decide)).trans hv4
  have hc_8 : σ_2 225 = q_bn G 2 kp := (hf_1 225 (by decide)).trans hv5
  have hc_9 : σ_2 279 = o11 G F := (hf_1 279 (by decide)).trans hv6
  have hc_10 : σ_2 280 = q_an G 265 g := (hf_1 280 (by decide)).trans hv7
  have hc_11 : σ_2 281 = q_an G 265 wk := (hf_1 281 (by decide)).trans hv8
  have hc_12 : σ_2 282 = q_an G 265 as := (hf_1 282 (by decide)).trans hv9
  have hc_13 : σ_2 283 = q_an G 530 sh := (hf_1 283 (by decide)).trans hv10
  have hc_14 : σ_2 284 = q_an G 2120 a := (hf_1 284 (by decide)).trans hv11
  have hc_15 : σ_2 285 = q_bn G 1681 fb := (hf_1 285 (by decide)).trans hv12
  have hc_16 : σ_2 286 = q_an G 1681 nv := (hf_1 286 (by decide)).trans hv13
  have hc_17 : σ_2 287 = q_an G 1681 ns := (hf_1 287 (by decide)).trans hv14
  have hc_18 : σ_2 288 = q_an G 2000 mk := (hf_1 288 (by decide)).trans hv15
  have hc_19 : σ_2 289 = q_an G 6724 va := (hf_1 289 (by decide)).trans hv16
  have hc_20 : σ_2 290 = q_an G 6724 sp := (hf_1 290 (by decide)).trans hv17
  have hc_21 : σ_2 291 = q_an G 80 lp := (hf_1 291 (by decide)).trans hv18
  have hc_22 : σ_2 292 = q_an G 600 f := (hf_1 292 (by decide)).trans hv19
  have hc_23 : σ_2 293 = q_an G 300 ou := (hf_1 293 (by decide)).trans hv20
  have hc_24 : σ_2 294 = q_ln G 1 oL := (hf_1 294 (by decide)).trans hv21
  have hc_25 : σ_2 295 = q_dn G 1 oD := (hf_1 295 (by decide)).trans hv22
  refine A_aload_n hg dL_law_1971 rfl rfl ?_
  refine A_hV (kc2 := kc + 0) (ks2 := ks + 0) (As := []) (rest := [.int (nI (s_fn g 600))]) hg lk_RL_242 in_X11_turnsIn se_X11_turnsIn rfl dL_law_1972 ⟨by decide, by decide⟩ rfl rfl (hfK 0 0 (by decide) (by decide)) hc_9 (by omega) rfl rfl (Nat.le_of_ble_eq_true rfl) (c_X11_turnsIn G false 296 σ_2 F g fb nv ns mk va sp lp mc z as hc_9 hc_10 hc_12 hc_15 hc_16 hc_17 hc_18 hc_19 hc_20 hc_21 (by omega) hg9 (by omega) hF12 hF16 hmk hTI hlo) ?_
  rintro _ σ_37 ⟨fqM, nvqM, nsqM, mkqM, vaqM, spqM, loqM, mcqM, zqM, asqM, q1M, q2M, q3M, rfl, MhTI, Mhmc, Mhmk, Mhlo, hc_26, hc_27, hc_28, hc_29, hc_30, hc_31, hc_32, hc_33, hc_34, hc_35, hf_36⟩
  refine (?_ : AJ G K Q (kc + 0) (ks + 0) false 296 1975 [some (.ref bS), some (.ref (q_h G + 0)), some (.ref (q_h G + 279)), some (.ref (q_h G + 294)), some (.ref (q_h G + 295)), some (.int (nI (i))), none, none, none] [.int (nI (s_fn g 600)), .int (nI (s_fn g 600))] σ_37)
  have hc_26 : σ_37 279 = o11 G (upd (upd (upd (upd (upd (upd F 7 (nI (0))) 12 (nI (mcqM))) 16 (nI (zqM))) 17 (q1M)) 18 (q2M)) 19 (q3M)) := hc_26
  have hc_38 : σ_37 0 = o10 G (nI (il)) (z2) (z3) := (hf_36 0 (by decide)).trans hc_3
  have hc_39 : σ_37 1 = q_an G 600 f := (hf_36 1 (by decide)).trans hc_4
  have hc_40 : σ_37 23 = o5 G (23) (nI (lo)) := (hf_36 23 (by decide)).trans hc_5
  have hc_41 : σ_37 24 = q_an G 256 o := (hf_36 24 (by decide)).trans hc_6
  have hc_42 : σ_37 224 = q_rn G 2 2 (fun j => some (243 + 18 * j)) := (hf_36 224 (by decide)).trans hc_7
  have hc_43 : σ_37 225 = q_bn G 2 kp := (hf_36 225 (by decide)).trans hc_8
  have hc_44 : σ_37 281 = q_an G 265 wk := (hf_36 281 (by decide)).trans hc_11
  have hc_45 : σ_37 283 = q_an G 530 sh := (hf_36 283 (by decide)).trans hc_13
  have hc_46 : σ_37 284 = q_an G 2120 a := (hf_36 284 (by decide)).trans hc_14
  have hc_47 : σ_37 292 = q_an G 600 f := (hf_36 292 (by decide)).trans hc_22
  have hc_48 : σ_37 293 = q_an G 300 ou := (hf_36 293 (by decide)).trans hc_23
  have hc_49 : σ_37 294 = q_ln G 1 oL := (hf_36 294 (by decide)).trans hc_24
  have hc_50 : σ_37 295 = q_dn G 1 oD := (hf_36 295 (by decide)).trans hc_25
  refine A_icmp_eq (tgt := 3062) hg dL_law_1975 (by decide) (fun _ => ?_) (fun z9 => absurd rfl z9)
  refine A_eq (ls2 := [some (.ref bS), some (.ref (q_h G + 0)), some (.ref (q_h G + 279)), some (.ref (q_h G + 294)), some (.ref (q_h G + 295)), some (.int (nI (i))), none, none, none]) (st2 := []) (pc2 := 0) rfl rfl ?_
  refine A_wide (kc2 := kc + 8) (ks2 := ks + 48) (by omega) (by omega) ?_
  exact hnxt _ (iv_mk il z2 z3 f lo o g nx m ps kp sn (upd (upd (upd (upd (upd (upd F 7 (nI (0))) 12 (nI (mcqM))) 16 (nI (zqM))) 17 (q1M)) 18 (q2M)) 19 (q3M)) wk asqM sh a fqM nvqM nsqM mkqM vaqM spqM loqM mcqM zqM ss ou oL oD hc_38 hc_39 hc_40 hc_41 hc_42 hc_43 hc_26 hc_27 hc_44 hc_28 hc_45 hc_46 hc_29 hc_30 hc_31 hc_32 hc_33 hc_34 hc_35 hc_47 hc_48 hc_49 hc_50 (x_lj_e (fun i _ _ => ((hf_36 i (by omega)).trans (hf_1 i (by omega)))) hL) (x_gm_e (fun i _ _ => ((hf_36 i (by omega)).trans (hf_1 i (by omega)))) hG) (x_mx_e (fun i _ _ => (hf_36 i (by omega))) ChM2) (x_hi_e (fun i _ _ => ((hf_36 i (by omega)).trans (hf_1 i (by omega)))) hHi) (x_oj_e (fun i _ _ => ((hf_36 i (by omega)).trans (hf_1 i (by omega)))) hO) (x_pj_e (fun i _ _ => (hf_36 i (by omega))) ChT2) (iv_hn (fun i _ _ => (hf_36 i (by omega))) ChH2) (iv_Sn (fun i _ _ => ((hf_36 i (by omega)).trans (hf_1 i (by omega)))) hSn) (iv_Kp (fun i _ _ => ((hf_36 i (by omega)).trans (hf_1 i (by omega)))) hKp) (by omega) hfb (by omega) hou hgd hps hk1 hkss hss hsn hF5 hF6 rfl rfl hF21 hF22 hF23 hF33 (by omega) Mhmk MhTI Mhlo)
set_option maxRecDepth 100000 in
set_option maxHeartbeats 4000000 in
theorem law_c28 (G : GL) (K : KC) (Q : State → Prop) (hh : List (Nat × Nat × Nat × Nat)) (hg : Gd G K RL code 9 ret room_1 hh) (bS L : Nat) (xs : Nat → Int32) (hX : q_scr G K bS L xs) (i kc ks J : Nat) (hi : i + 5 < L) (hL31 : L < 2 ^ 31) (hkc : kc + 8 ≤ 601024) (hks : ks + 48 ≤ 7293034) (σ : Nat → va_E) (hI : iv G σ J) (hJ : J < 512) (hfd : q_fdn) (hdd : q_ddn) (hf2 : q_f2n) (hds : q_dcs) (hnxt : ∀ σ9 : Nat → va_E, iv G σ9 (J + 1) → AJ G K Q (kc + 8) (ks + 48) false 296 3062 [some (.ref bS), some (.ref (q_h G + 0)), some (.ref (q_h G + 279)), some (.ref (q_h G + 294)), some (.ref (q_h G + 295)), some (.int (nI (i))), none, none, none] [] σ9) : AJ G K Q kc ks false 296 1980 [some (.ref bS), some (.ref (q_h G + 0)), some (.ref (q_h G + 279)), some (.ref (q_h G + 294)), some (.ref (q_h G + 295)), some (.int (nI (i))), none, none, none] [] σ := by
  refine iv_el hI ?_
  intro il z2 z3 f lo o g nx m ps kp sn F wk as sh a fb nv ns mk va sp lp mc z ss ou oL oD
  intro hv0 hv1 hv2 hv3 hv4 hv5 hv6 hv7 hv8 hv9 hv10 hv11 hv12 hv13 hv14 hv15 hv16 hv17 hv18 hv19 hv20 hv21 hv22
  intro hL hG hM hHi hO hT hH hSn hKp
  intro hil hfb hlo2 hou hgd hps hk1 hkss hss hsn hF5 hF6 hF12 hF16 hF21 hF22 hF23 hF33 hmc hmk hTI hlo
  have hfK : ∀ a b : Nat, a ≤ 8 → b ≤ 48 → kc + a ≤ room_1.cells ∧ ks + b ≤ room_1.slots := fun a b h1 h2 => ⟨by show kc + a ≤ 601024; omega, by show ks + b ≤ 7293034; omega⟩
  have hg9 := iv_g hG
  obtain ⟨hnx8, hm8, hc78⟩ := iv_hi hHi
  have hbb := iv_byte (m := il) hfb
  have hg90 := hg9.1
  have hg96 := hg9.2.2.2.2.1
  have hnp8 := s_np_le hg9
  refine A_aload_n hg dL_law_1980 rfl rfl ?_
  refine A_hV (kc2 := kc + 0) (ks2 := ks + 0) (As := []) (rest := []) hg lk_RL_243 in_X10_winner se_X10_winner rfl dL_law_1981 ⟨by decide, by decide⟩ rfl rfl (hfK 0 0 (by decide) (by decide)) hv0 (by omega) rfl rfl (Nat.le_of_ble_eq_true rfl) (c_X10_winner G false 296 σ (nI (il)) z2 z3 g hv0 (by omega) hG hM hH hT) ?_
  rintro _ σ_2 ⟨rfl, ChM2, ChH2, ChT2, hf_1⟩
  refine (?_ : AJ G K Q (kc + 0) (ks + 0) false 296 1984 [some (.ref bS), some (.ref (q_h G + 0)), some (.ref (q_h G + 279)), some (.ref (q_h G + 294)), some (.ref (q_h G + 295)), some (.int (nI (i))), none, none, none] [.int (nI (1 - s_it g (s_fn g 600) 3))] σ_2)
  have hc_3 : σ_2 0 = o10 G (nI (il)) (z2) (z3) := (hf_1 0 (by decide)).trans hv0
  have hc_4 : σ_2 1 = q_an G 600 f := (hf_1 1 (by decide)).trans hv1
  have hc_5 : σ_2 23 = o5 G (23) (nI (lo)) := (hf_1 23 (by decide)).trans hv2
  have hc_6 : σ_2 24 = q_an G 256 o := (hf_1 24 (by decide)).trans hv3
  have hc_7 : σ_2 224 = q_rn G 2 2 (fun j => some (243 + 18 * j)) := (hf_1 224 (by decide)).trans hv4
  have hc_8 : σ_2 225 = q_bn G 2 kp := (hf_1 225 (by decide)).trans hv5
  have hc_9 : σ_2 279 = o11 G F := (hf_1 279 (by decide)).trans hv6
  have hc_10 : σ_2 280 = q_an G 265 g := (hf_1 280 (by decide)).trans hv7
  have hc_11 : σ_2 281 = q_an G 265 wk := (hf_1 281 (by decide)).trans hv8
  have hc_12 : σ_2 282 = q_an G 265 as := (hf_1 282 (by decide)).trans hv9
  have hc_13 : σ_2 283 = q_an G 530 sh := (hf_1 283 (by decide)).trans hv10
  have hc_14 : σ_2 284 = q_an G 2120 a := (hf_1 284 (by decide)).trans hv11
  have hc_15 : σ_2 285 = q_bn G 1681 fb := (hf_1 285 (by decide)).trans hv12
  have hc_16 : σ_2 286 = q_an G 1681 nv := (hf_1 286 (by decide)).trans hv13
  have hc_17 : σ_2 287 = q_an G 1681 ns := (hf_1 287 (by decide)).trans hv14
  have hc_18 : σ_2 288 = q_an G 2000 mk := (hf_1 288 (by decide)).trans hv15
  have hc_19 : σ_2 289 = q_an G 6724 va := (hf_1 289 (by decide)).trans hv16
  have hc_20 : σ_2 290 = q_an G 6724 sp := (hf_1 290 (by decide)).trans hv17
  have hc_21 : σ_2 291 = q_an G 80 lp := (hf_1 291 (by decide)).trans hv18
  have hc_22 : σ_2 292 = q_an G 600 f := (hf_1 292 (by decide)).trans hv19
  have hc_23 : σ_2 293 = q_an G 300 ou := (hf_1 293 (by decide)).trans hv20
  have hc_24 : σ_2 294 = q_ln G 1 oL := (hf_1 294 (by decide)).trans hv21
  have hc_25 : σ_2 295 = q_dn G 1 oD := (hf_1 295 (by decide)).trans hv22
  refine A_aload_n hg dL_law_1984 rfl rfl ?_
  refine A_hV (kc2 := kc + 0) (ks2 := ks + 0) (As := []) (rest := [.int (nI (1 - s_it g (s_fn g 600) 3))]) hg lk_RL_246 in_X11_winner se_X11_winner rfl dL_law_1985 ⟨by decide, by decide⟩ rfl rfl (hfK 0 0 (by decide) (by decide)) hc_9 (by omega) rfl rfl (Nat.le_of_ble_eq_true rfl) (c_X11_winner G false 296 σ_2 F g fb nv ns mk va sp lp mc z as hc_9 hc_10 hc_12 hc_15 hc_16 hc_17 hc_18 hc_19 hc_20 hc_21 (by omega) hg9 (by omega) hF12 hF16 hmk hTI hlo) ?_
  rintro _ σ_37 ⟨fqM, nvqM, nsqM, mkqM, vaqM, spqM, loqM, mcqM, zqM, asqM, q1M, q2M, q3M, rfl, MhTI, Mhmc, Mhmk, Mhlo, hc_26, hc_27, hc_28, hc_29, hc_30, hc_31, hc_32, hc_33, hc_34, hc_35, hf_36⟩
  refine (?_ : AJ G K Q (kc + 0) (ks + 0) false 296 1988 [some (.ref bS), some (.ref (q_h G + 0)), some (.ref (q_h G + 279)), some (.ref (q_h G + 294)), some (.ref (q_h G + 295)), some (.int (nI (i))), none, none, none] [.int (nI (1 - s_it g (s_fn g 600) 3)), .int (nI (1 - s_it g (s_fn g 600) 3))] σ_37)
  have hc_26 : σ_37 279 = o11 G (upd (upd (upd (upd (upd (upd F 7 (nI (0))) 12 (nI (mcqM))) 16 (nI (zqM))) 17 (q1M)) 18 (q2M)) 19 (q3M)) := hc_26
  have hc_38 : σ_37 0 = o10 G (nI (il)) (z2) (z3) := (hf_36 0 (by decide)).trans hc_3
  have hc_39 : σ_37 1 = q_an G 600 f := (hf_36 1 (by decide)).trans hc_4
  have hc_40 : σ_37 23 = o5 G (23) (nI (lo)) := (hf_36 23 (by decide)).trans hc_5
  have hc_41 : σ_37 24 = q_an G 256 o := (hf_36 24 (by decide)).trans hc_6
  have hc_42 : σ_37 224 = q_rn G 2 2 (fun j => some (243 + 18 * j)) := (hf_36 224 (by decide)).trans hc_7
  have hc_43 : σ_37 225 = q_bn G 2 kp := (hf_36 225 (by decide)).trans hc_8
  have hc_44 : σ_37 281 = q_an G 265 wk := (hf_36 281 (by decide)).trans hc_11
  have hc_45 : σ_37 283 = q_an G 530 sh := (hf_36 283 (by decide)).trans hc_13
  have hc_46 : σ_37 284 = q_an G 2120 a := (hf_36 284 (by decide)).trans hc_14
  have hc_47 : σ_37 292 = q_an G 600 f := (hf_36 292 (by decide)).trans hc_22
  have hc_48 : σ_37 293 = q_an G 300 ou := (hf_36 293 (by decide)).trans hc_23
  have hc_49 : σ_37 294 = q_ln G 1 oL := (hf_36 294 (by decide)).trans hc_24
  have hc_50 : σ_37 295 = q_dn G 1 oD := (hf_36 295 (by decide)).trans hc_25
  refine A_icmp_eq (tgt := 3062) hg dL_law_1988 (by decide) (fun _ => ?_) (fun z9 => absurd rfl z9)
  refine A_eq (ls2 := [some (.ref bS), some (.ref (q_h G + 0)), some (.ref (q_h G + 279)), some (.ref (q_h G + 294)), some (.ref (q_h G + 295)), some (.int (nI (i))), none, none, none]) (st2 := []) (pc2 := 0) rfl rfl ?_
  refine A_wide (kc2 := kc + 8) (ks2 := ks + 48) (by omega) (by omega) ?_
  exact hnxt _ (iv_mk il z2 z3 f lo o g nx m ps kp sn (upd (upd (upd (upd (upd (upd F 7 (nI (0))) 12 (nI (mcqM))) 16 (nI (zqM))) 17 (q1M)) 18 (q2M)) 19 (q3M)) wk asqM sh a fqM nvqM nsqM mkqM vaqM spqM loqM mcqM zqM ss ou oL oD hc_38 hc_39 hc_40 hc_41 hc_42 hc_43 hc_26 hc_27 hc_44 hc_28 hc_45 hc_46 hc_29 hc_30 hc_31 hc_32 hc_33 hc_34 hc_35 hc_47 hc_48 hc_49 hc_50 (x_lj_e (fun i _ _ => ((hf_36 i (by omega)).trans (hf_1 i (by omega)))) hL) (x_gm_e (fun i _ _ => ((hf_36 i (by omega)).trans (hf_1 i (by omega)))) hG) (x_mx_e (fun i _ _ => (hf_36 i (by omega))) ChM2) (x_hi_e (fun i _ _ => ((hf_36 i (by omega)).trans (hf_1 i (by omega)))) hHi) (x_oj_e (fun i _ _ => ((hf_36 i (by omega)).trans (hf_1 i (by omega)))) hO) (x_pj_e (fun i _ _ => (hf_36 i (by omega))) ChT2) (iv_hn (fun i _ _ => (hf_36 i (by omega))) ChH2) (iv_Sn (fun i _ _ => ((hf_36 i (by omega)).trans (hf_1 i (by omega)))) hSn) (iv_Kp (fun i _ _ => ((hf_36 i (by omega)).trans (hf_1 i (by omega)))) hKp) (by omega) hfb (by omega) hou hgd hps hk1 hkss hss hsn hF5 hF6 rfl rfl hF21 hF22 hF23 hF33 (by omega) Mhmk MhTI Mhlo)
set_option maxRecDepth 100000 in
set_option maxHeartbeats 4000000 in
theorem law_c29 (G : GL) (K : KC) (Q : State → Prop) (hh : List (Nat × Nat × Nat × Nat)) (hg : Gd G K RL code 9 ret room_1 hh) (bS L : Nat) (xs : Nat → Int32) (hX : q_scr G K bS L xs) (i kc ks J : Nat) (hi : i + 5 < L) (hL31 : L < 2 ^ 31) (hkc : kc + 8 ≤ 601024) (hks : ks + 48 ≤ 7293034) (σ : Nat → va_E) (hI : iv G σ J) (hJ : J < 512) (hfd : q_fdn) (hdd : q_ddn) (hf2 : q_f2n) (hds : q_dcs) (hnxt : ∀ σ9 : Nat → va_E, iv G σ9 (J + 1) → AJ G K Q (kc + 8) (ks + 48) false 296 3062 [some (.ref bS), some (.ref (q_h G + 0)), some (.ref (q_h G + 279)), some (.ref (q_h G + 294)), some (.ref (q_h G + 295)), some (.int (nI (i))), none, none, none] [] σ9) : AJ G K Q kc ks false 296 1993 [some (.ref bS), some (.ref (q_h G + 0)), some (.ref (q_h G + 279)), some (.ref (q_h G + 294)), some (.ref (q_h G + 295)), some (.int (nI (i))), none, none, none] [] σ := by
  refine iv_el hI ?_
  intro il z2 z3 f lo o g nx m ps kp sn F wk as sh a fb nv ns mk va sp lp mc z ss ou oL oD
  intro hv0 hv1 hv2 hv3 hv4 hv5 hv6 hv7 hv8 hv9 hv10 hv11 hv12 hv13 hv14 hv15 hv16 hv17 hv18 hv19 hv20 hv21 hv22
  intro hL hG hM hHi hO hT hH hSn hKp
  intro hil hfb hlo2 hou hgd hps hk1 hkss hss hsn hF5 hF6 hF12 hF16 hF21 hF22 hF23 hF33 hmc hmk hTI hlo
  have hfK : ∀ a b : Nat, a ≤ 8 → b ≤ 48 → kc + a ≤ room_1.cells ∧ ks + b ≤ room_1.slots := fun a b h1 h2 => ⟨by show kc + a ≤ 601024; omega, by show ks + b ≤ 7293034; omega⟩
  have hg9 := iv_g hG
  obtain ⟨hnx8, hm8, hc78⟩ := iv_hi hHi
  have hbb := iv_byte (m := il) hfb
  have hg90 := hg9.1
  have hg96 := hg9.2.2.2.2.1
  have hnp8 := s_np_le hg9
  refine A_aload_n hg dL_law_1993 rfl rfl ?_
  refine A_aload_n hg dL_law_1994 rfl rfl ?_
  refine A_iload hg dL_law_1995 rfl ?_
  refine A_iconst (v := (nI (1))) hg dL_law_1997 (by decide) ?_
  refine A_iaddN hg dL_law_1998 ?_
  refine A_sld hg hX (i + 1) (by omega) dL_law_1999 ?_
  refine A_aload_n hg dL_law_2000 rfl rfl ?_
  refine A_iload hg dL_law_2001 rfl ?_
  refine A_iconst (v := (nI (2))) hg dL_law_2003 (by decide) ?_
  refine A_iaddN hg dL_law_2004 ?_
  refine A_sld hg hX (i + 2) (by omega) dL_law_2005 ?_
  refine A_aload_n hg dL_law_2006 rfl rfl ?_
  refine A_iload hg dL_law_2007 rfl ?_
  refine A_iconst (v := (nI (3))) hg dL_law_2009 (by decide) ?_
  refine A_iaddN hg dL_law_2010 ?_
  refine A_sld hg hX (i + 3) (by omega) dL_law_2011 ?_
  refine A_aload_n hg dL_law_2012 rfl rfl ?_
  refine A_callSH (As := [.ref (q_h G + 0), .int (xs (i + 1)), .int (xs (i + 2)), .int (xs (i + 3)), .ref (q_h G + 294)]) (rest := []) hg lkH_247 stH_L_totalBehind dL_law_2013 ⟨by decide, by decide⟩ (hfK 1 6 (by decide) (by decide)) rfl rfl (Nat.le_of_ble_eq_true rfl) (c_L_totalBehind G 296 σ (nI (il)) z2 z3 g (xs (i + 1)) (xs (i + 2)) (xs (i + 3)) oL hv0 hv21 (by omega) hG hM hH hT (by omega)) ?_
  rintro _ σ_1 (⟨p1C, rfl, Chpe, Chpl, Chrf, ChM2, ChH2, ChT2, hc_2, hf_3⟩ | ⟨p1C, a1C, b1C, rfl, Chpe, Chpl, Chke, Chle, Chrf, ChM2, ChH2, ChT2, hc_4, hf_5⟩ | ⟨rfl, Chxx, he_6⟩)
  · skip
    refine (?_ : AJ G K Q (kc + 1) (ks + 6) false 296 2016 [some (.ref bS), some (.ref (q_h G + 0)), some (.ref (q_h G + 279)), some (.ref (q_h G + 294)), some (.ref (q_h G + 295)), some (.int (nI (i))), none, none, none] [.int (nI (0))] σ_1)
    have hc_7 : σ_1 0 = o10 G (nI (il)) (z2) (z3) := (hf_3 0 (by decide)).trans hv0
    have hc_8 : σ_1 1 = q_an G 600 f := (hf_3 1 (by decide)).trans hv1
    have hc_9 : σ_1 23 = o5 G (23) (nI (lo)) := (hf_3 23 (by decide)).trans hv2
    have hc_10 : σ_1 24 = q_an G 256 o := (hf_3 24 (by decide)).trans hv3
    have hc_11 : σ_1 224 = q_rn G 2 2 (fun j => some (243 + 18 * j)) := (hf_3 224 (by decide)).trans hv4
    have hc_12 : σ_1 225 = q_bn G 2 kp := (hf_3 225 (by decide)).trans hv5
    have hc_13 : σ_1 279 = o11 G F := (hf_3 279 (by decide)).trans hv6
    have hc_14 : σ_1 280 = q_an G 265 g := (hf_3 280 (by decide)).trans hv7
    have hc_15 : σ_1 281 = q_an G 265 wk := (hf_3 281 (by decide)).trans hv8
    have hc_16 : σ_1 282 = q_an G 265 as := (hf_3 282 (by decide)).trans hv9
    have hc_17 : σ_1 283 = q_an G 530 sh := (hf_3 283 (by decide)).trans hv10
    have hc_18 : σ_1 284 = q_an G 2120 a := (hf_3 284 (by decide)).trans hv11
    have hc_19 : σ_1 285 = q_bn G 1681 fb := (hf_3 285 (by decide)).trans hv12
    have hc_20 : σ_1 286 = q_an G 1681 nv := (hf_3 286 (by decide)).trans hv13
    have hc_21 : σ_1 287 = q_an G 1681 ns := (hf_3 287 (by decide)).trans hv14
    have hc_22 : σ_1 288 = q_an G 2000 mk := (hf_3 288 (by decide)).trans hv15
    have hc_23 : σ_1 289 = q_an G 6724 va := (hf_3 289 (by decide)).trans hv16
    have hc_24 : σ_1 290 = q_an G 6724 sp := (hf_3 290 (by decide)).trans hv17
    have hc_25 : σ_1 291 = q_an G 80 lp := (hf_3 291 (by decide)).trans hv18
    have hc_26 : σ_1 292 = q_an G 600 f := (hf_3 292 (by decide)).trans hv19
    have hc_27 : σ_1 293 = q_an G 300 ou := (hf_3 293 (by decide)).trans hv20
    have hc_28 : σ_1 295 = q_dn G 1 oD := (hf_3 295 (by decide)).trans hv22
    refine A_istore hg dL_law_2016 (by decide) (q_c1d rfl) ?_
    refine A_eq (ls2 := [some (.ref bS), some (.ref (q_h G + 0)), some (.ref (q_h G + 279)), some (.ref (q_h G + 294)), some (.ref (q_h G + 295)), some (.int (nI (i))), some (.int (nI (0))), none, none]) (st2 := []) (pc2 := 0) rfl rfl ?_
    refine A_aload_n hg dL_law_2018 rfl rfl ?_
    refine A_aload_n hg dL_law_2019 rfl rfl ?_
    refine A_iload hg dL_law_2020 rfl ?_
    refine A_iconst (v := (nI (1))) hg dL_law_2022 (by decide) ?_
    refine A_iaddN hg dL_law_2023 ?_
    refine A_sld hg hX (i + 1) (by omega) dL_law_2024 ?_
    refine A_aload_n hg dL_law_2025 rfl rfl ?_
    refine A_iload hg dL_law_2026 rfl ?_
    refine A_iconst (v := (nI (2))) hg dL_law_2028 (by decide) ?_
    refine A_iaddN hg dL_law_2029 ?_
    refine A_sld hg hX (i + 2) (by omega) dL_law_2030 ?_
    refine A_aload_n hg dL_law_2031 rfl rfl ?_
    refine A_iload hg dL_law_2032 rfl ?_
    refine A_iconst (v := (nI (3))) hg dL_law_2034 (by decide) ?_
    refine A_iaddN hg dL_law_2035 ?_
    refine A_sld hg hX (i + 3) (by omega) dL_law_2036 ?_
    refine A_hV (kc2 := kc + 1) (ks2 := ks + 6) (As := [.int (xs (i + 1)), .int (xs (i + 2)), .int (xs (i + 3))]) (rest := []) hg lk_RL_249 in_X11_totalBehind se_X11_totalBehind rfl dL_law_2037 ⟨by decide, by decide⟩ rfl rfl (hfK 1 6 (by decide) (by decide)) hc_13 (by omega) rfl rfl (Nat.le_of_ble_eq_true rfl) (c_X11_totalBehind G false 296 σ_1 F g fb nv ns mk va sp lp mc z (xs (i + 1)) (xs (i + 2)) (xs (i + 3)) hc_13 hc_14 hc_19 hc_20 hc_21 hc_22 hc_23 hc_24 hc_25 (by omega) hg9 (by omega) hF12 hF16 hmk hTI hlo) ?_
    rintro _ σ_42 (⟨rfl, Mhno, hc_29, hf_30⟩ | ⟨p1M, rfl, Mhpe, Mhpl, Mhrf, hc_31, hf_32⟩ | ⟨p1M, a1M, b1M, fqM, nvqM, nsqM, mkqM, vaqM, spqM, loqM, mcqM, zqM, rfl, Mhpe, Mhpl, Mhke, Mhle, Mhrf, MhTI, Mhmc, Mhmk, Mhlo, hc_33, hc_34, hc_35, hc_36, hc_37, hc_38, hc_39, hc_40, hf_41⟩)
    · skip
      refine (?_ : AJ G K Q (kc + 1) (ks + 6) false 296 2040 [some (.ref bS), some (.ref (q_h G + 0)), some (.ref (q_h G + 279)), some (.ref (q_h G + 294)), some (.ref (q_h G + 295)), some (.int (nI (i))), some (.int (nI (0))), none, none] [.int (nI (0))] σ_42)
      have hc_29 : σ_42 279 = o11 G (upd F 7 (nI (1))) := hc_29
      have hc_43 : σ_42 0 = o10 G (nI (il)) (z2) (z3) := (hf_30 0 (by decide)).trans hc_7
      have hc_44 : σ_42 1 = q_an G 600 f := (hf_30 1 (by decide)).trans hc_8
      have hc_45 : σ_42 23 = o5 G (23) (nI (lo)) := (hf_30 23 (by decide)).trans hc_9
      have hc_46 : σ_42 24 = q_an G 256 o := (hf_30 24 (by decide)).trans hc_10
      have hc_47 : σ_42 224 = q_rn G 2 2 (fun j => some (243 + 18 * j)) := (hf_30 224 (by decide)).trans hc_11
      have hc_48 : σ_42 225 = q_bn G 2 kp := (hf_30 225 (by decide)).trans hc_12
      have hc_49 : σ_42 280 = q_an G 265 g := (hf_30 280 (by decide)).trans hc_14
      have hc_50 : σ_42 281 = q_an G 265 wk := (hf_30 281 (by decide)).trans hc_15
      have hc_51 : σ_42 282 = q_an G 265 as := (hf_30 282 (by decide)).trans hc_16
      have hc_52 : σ_42 283 = q_an G 530 sh := (hf_30 283 (by decide)).trans hc_17
      have hc_53 : σ_42 284 = q_an G 2120 a := (hf_30 284 (by decide)).trans hc_18
      have hc_54 : σ_42 285 = q_bn G 1681 fb := (hf_30 285 (by decide)).trans hc_19
      have hc_55 : σ_42 286 = q_an G 1681 nv := (hf_30 286 (by decide)).trans hc_20
      have hc_56 : σ_42 287 = q_an G 1681 ns := (hf_30 287 (by decide)).trans hc_21
      have hc_57 : σ_42 288 = q_an G 2000 mk := (hf_30 288 (by decide)).trans hc_22
      have hc_58 : σ_42 289 = q_an G 6724 va := (hf_30 289 (by decide)).trans hc_23
      have hc_59 : σ_42 290 = q_an G 6724 sp := (hf_30 290 (by decide)).trans hc_24
      have hc_60 : σ_42 291 = q_an G 80 lp := (hf_30 291 (by decide)).trans hc_25
      have hc_61 : σ_42 292 = q_an G 600 f := (hf_30 292 (by decide)).trans hc_26
      have hc_62 : σ_42 293 = q_an G 300 ou := (hf_30 293 (by decide)).trans hc_27
      have hc_63 : σ_42 295 = q_dn G 1 oD := (hf_30 295 (by decide)).trans hc_28
      have hc_64 : σ_42 294 = q_ln G 1 (va_up oL 0 ((q_d (0)).toInt64)) := (hf_30 294 (by decide)).trans hc_2
      exact (Mhno p1C (by omega) Chpe).elim
    · skip
      refine (?_ : AJ G K Q (kc + 1) (ks + 6) false 296 2040 [some (.ref bS), some (.ref (q_h G + 0)), some (.ref (q_h G + 279)), some (.ref (q_h G + 294)), some (.ref (q_h G + 295)), some (.int (nI (i))), some (.int (nI (0))), none, none] [.int (q_d (0))] σ_42)
      have hc_31 : σ_42 279 = o11 G (upd F 7 (nI (0))) := hc_31
      have hc_65 : σ_42 0 = o10 G (nI (il)) (z2) (z3) := (hf_32 0 (by decide)).trans hc_7
      have hc_66 : σ_42 1 = q_an G 600 f := (hf_32 1 (by decide)).trans hc_8
      have hc_67 : σ_42 23 = o5 G (23) (nI (lo)) := (hf_32 23 (by decide)).trans hc_9
      have hc_68 : σ_42 24 = q_an G 256 o := (hf_32 24 (by decide)).trans hc_10
      have hc_69 : σ_42 224 = q_rn G 2 2 (fun j => some (243 + 18 * j)) := (hf_32 224 (by decide)).trans hc_11
      have hc_70 : σ_42 225 = q_bn G 2 kp := (hf_32 225 (by decide)).trans hc_12
      have hc_71 : σ_42 280 = q_an G 265 g := (hf_32 280 (by decide)).trans hc_14
      have hc_72 : σ_42 281 = q_an G 265 wk := (hf_32 281 (by decide)).trans hc_15
      have hc_73 : σ_42 282 = q_an G 265 as := (hf_32 282 (by decide)).trans hc_16
      have hc_74 : σ_42 283 = q_an G 530 sh := (hf_32 283 (by decide)).trans hc_17
      have hc_75 : σ_42 284 = q_an G 2120 a := (hf_32 284 (by decide)).trans hc_18
      have hc_76 : σ_42 285 = q_bn G 1681 fb := (hf_32 285 (by decide)).trans hc_19
      have hc_77 : σ_42 286 = q_an G 1681 nv := (hf_32 286 (by decide)).trans hc_20
      have hc_78 : σ_42 287 = q_an G 1681 ns := (hf_32 287 (by decide)).trans hc_21
      have hc_79 : σ_42 288 = q_an G 2000 mk := (hf_32 288 (by decide)).trans hc_22
      have hc_80 : σ_42 289 = q_an G 6724 va := (hf_32 289 (by decide)).trans hc_23
      have hc_81 : σ_42 290 = q_an G 6724 sp := (hf_32 290 (by decide)).trans hc_24
      have hc_82 : σ_42 291 = q_an G 80 lp := (hf_32 291 (by decide)).trans hc_25
      have hc_83 : σ_42 292 = q_an G 600 f := (hf_32 292 (by decide)).trans hc_26
      have hc_84 : σ_42 293 = q_an G 300 ou := (hf_32 293 (by decide)).trans hc_27
      have hc_85 : σ_42 295 = q_dn G 1 oD := (hf_32 295 (by decide)).trans hc_28
      have hc_86 : σ_42 294 = q_ln G 1 (va_up oL 0 ((q_d (0)).toInt64)) := (hf_32 294 (by decide)).trans hc_2
      have e_p : p1C = p1M := q_nI_inj (by omega) (by omega) (Chpe.symm.trans Mhpe)
      subst e_p
      refine A_istore hg dL_law_2040 (by decide) (q_c1d rfl) ?_
      refine A_eq (ls2 := [some (.ref bS), some (.ref (q_h G + 0)), some (.ref (q_h G + 279)), some (.ref (q_h G + 294)), some (.ref (q_h G + 295)), some (.int (nI (i))), some (.int (nI (0))), some (.int (q_d (0))), none]) (st2 := []) (pc2 := 0) rfl rfl ?_
      refine A_aload_n hg dL_law_2042 rfl rfl ?_
      refine A_eV (kc2 := kc + 1) (ks2 := ks + 6) (As := []) (rest := []) hg lk_RL_170 in_X11_thrown se_X11_thrown rfl dL_law_2043 ⟨by decide, by decide⟩ rfl rfl (hfK 1 6 (by decide) (by decide)) hc_31 (by omega) rfl rfl (Nat.le_of_ble_eq_true rfl) (c_X11_thrown G false 296 σ_42 (upd F 7 (nI (0))) hc_31 (by omega)) ?_
      refine A_top (w := .int (nI (0))) (congrArg Value.int rfl) ?_
      refine A_iload hg dL_law_2046 rfl ?_
      refine A_icmp_eqN (tgt := 2053) hg dL_law_2048 (by decide) (by decide) (by decide) (fun c2048 => ?_) (fun c2048 => False.elim (by omega))
      refine A_iload hg dL_law_2053 rfl ?_
      refine A_if_neN (tgt := 2070) hg dL_law_2055 (by decide) (by decide) (fun c2055 => absurd (by decide) c2055) (fun c2055 => ?_)
      refine A_aload_n hg dL_law_2058 rfl rfl ?_
      refine A_iconst (v := (nI (0))) hg dL_law_2059 (by decide) ?_
      refine A_lald (j := 0) hg dL_law_2060 hc_86 (by omega) (by decide) (by decide) ?_
      refine A_top (w := .long ((q_d (0)).toInt64)) (congrArg Value.long iv_up0) ?_
      refine A_iload hg dL_law_2061 rfl ?_
      refine A_i2l (v := (q_d (0)).toInt64) hg dL_law_2063 rfl ?_
      refine A_lcmp hg dL_law_2064 ?_
      refine A_top (w := .int (nI 0)) (congrArg Value.int (lc_self _)) ?_
      refine A_if_eqN (tgt := 2070) hg dL_law_2065 (by decide) (by decide) (fun c2065 => ?_) (fun c2065 => absurd (by decide) c2065)
      refine A_goto (tgt := 3062) hg dL_law_2070 (by decide) ?_
      refine A_drop 6 ?_
      refine A_drop 7 ?_
      refine A_eq (ls2 := [some (.ref bS), some (.ref (q_h G + 0)), some (.ref (q_h G + 279)), some (.ref (q_h G + 294)), some (.ref (q_h G + 295)), some (.int (nI (i))), none, none, none]) (st2 := []) (pc2 := 0) rfl rfl ?_
      refine A_wide (kc2 := kc + 8) (ks2 := ks + 48) (by omega) (by omega) ?_
      exact hnxt _ (iv_mk il z2 z3 f lo o g nx m ps kp sn (upd F 7 (nI (0))) wk as sh a fb nv ns mk va sp lp mc z ss ou (va_up oL 0 ((q_d (0)).toInt64)) oD hc_65 hc_66 hc_67 hc_68 hc_69 hc_70 hc_31 hc_71 hc_72 hc_73 hc_74 hc_75 hc_76 hc_77 hc_78 hc_79 hc_80 hc_81 hc_82 hc_83 hc_84 hc_86 hc_85 (x_lj_e (fun i _ _ => ((hf_32 i (by omega)).trans (hf_3 i (by omega)))) hL) (x_gm_e (fun i _ _ => ((hf_32 i (by omega)).trans (hf_3 i (by omega)))) hG) (x_mx_e (fun i _ _ => (hf_32 i (by omega))) ChM2) (x_hi_e (fun i _ _ => ((hf_32 i (by omega)).trans (hf_3 i (by omega)))) hHi) (x_oj_e (fun i _ _ => ((hf_32 i (by omega)).trans (hf_3 i (by omega)))) hO) (x_pj_e (fun i _ _ => (hf_32 i (by omega))) ChT2) (iv_hn (fun i _ _ => (hf_32 i (by omega))) ChH2) (iv_Sn (fun i _ _ => ((hf_32 i (by omega)).trans (hf_3 i (by omega)))) hSn) (iv_Kp (fun i _ _ => ((hf_32 i (by omega)).trans (hf_3 i (by omega)))) hKp) (by omega) hfb (by omega) hou hgd hps hk1 hkss hss hsn hF5 hF6 hF12 hF16 hF21 hF22 hF23 hF33 (by omega) hmk hTI hlo)
    · skip
      refine (?_ : AJ G K Q (kc + 1) (ks + 6) false 296 2040 [some (.ref bS), some (.ref (q_h G + 0)), some (.ref (q_h G + 279)), some (.ref (q_h G + 294)), some (.ref (q_h G + 295)), some (.int (nI (i))), some (.int (nI (0))), none, none] [.int (nI (((s_tot g) ^^^ (s_pv g p1M 0 0)) ^^^ (s_pv g p1M a1M b1M)))] σ_42)
      have hc_33 : σ_42 279 = o11 G (upd (upd (upd F 7 (nI (0))) 12 (nI (mcqM))) 16 (nI (zqM))) := hc_33
      have hc_87 : σ_42 0 = o10 G (nI (il)) (z2) (z3) := (hf_41 0 (by decide)).trans hc_7
      have hc_88 : σ_42 1 = q_an G 600 f := (hf_41 1 (by decide)).trans hc_8
      have hc_89 : σ_42 23 = o5 G (23) (nI (lo)) := (hf_41 23 (by decide)).trans hc_9
      have hc_90 : σ_42 24 = q_an G 256 o := (hf_41 24 (by decide)).trans hc_10
      have hc_91 : σ_42 224 = q_rn G 2 2 (fun j => some (243 + 18 * j)) := (hf_41 224 (by decide)).trans hc_11
      have hc_92 : σ_42 225 = q_bn G 2 kp := (hf_41 225 (by decide)).trans hc_12
      have hc_93 : σ_42 280 = q_an G 265 g := (hf_41 280 (by decide)).trans hc_14
      have hc_94 : σ_42 281 = q_an G 265 wk := (hf_41 281 (by decide)).trans hc_15
      have hc_95 : σ_42 282 = q_an G 265 as := (hf_41 282 (by decide)).trans hc_16
      have hc_96 : σ_42 283 = q_an G 530 sh := (hf_41 283 (by decide)).trans hc_17
      have hc_97 : σ_42 284 = q_an G 2120 a := (hf_41 284 (by decide)).trans hc_18
      have hc_98 : σ_42 292 = q_an G 600 f := (hf_41 292 (by decide)).trans hc_26
      have hc_99 : σ_42 293 = q_an G 300 ou := (hf_41 293 (by decide)).trans hc_27
      have hc_100 : σ_42 295 = q_dn G 1 oD := (hf_41 295 (by decide)).trans hc_28
      have hc_101 : σ_42 294 = q_ln G 1 (va_up oL 0 ((q_d (0)).toInt64)) := (hf_41 294 (by decide)).trans hc_2
      have hrbM := iv_ref Mhrf
      have hptM := s_part hg9 Mhpl
      have e_p : p1C = p1M := q_nI_inj (by omega) (by omega) (Chpe.symm.trans Mhpe)
      subst e_p
      exact (iv_refI Mhke Mhle (by omega) (by omega) Mhrf Chrf).elim
  · skip
    refine (?_ : AJ G K Q (kc + 1) (ks + 6) false 296 2016 [some (.ref bS), some (.ref (q_h G + 0)), some (.ref (q_h G + 279)), some (.ref (q_h G + 294)), some (.ref (q_h G + 295)), some (.int (nI (i))), none, none, none] [.int (nI (0))] σ_1)
    have hc_102 : σ_1 0 = o10 G (nI (il)) (z2) (z3) := (hf_5 0 (by decide)).trans hv0
    have hc_103 : σ_1 1 = q_an G 600 f := (hf_5 1 (by decide)).trans hv1
    have hc_104 : σ_1 23 = o5 G (23) (nI (lo)) := (hf_5 23 (by decide)).trans hv2
    have hc_105 : σ_1 24 = q_an G 256 o := (hf_5 24 (by decide)).trans hv3
    have hc_106 : σ_1 224 = q_rn G 2 2 (fun j => some (243 + 18 * j)) := (hf_5 224 (by decide)).trans hv4
    have hc_107 : σ_1 225 = q_bn G 2 kp := (hf_5 225 (by decide)).trans hv5
    have hc_108 : σ_1 279 = o11 G F := (hf_5 279 (by decide)).trans hv6
    have hc_109 : σ_1 280 = q_an G 265 g := (hf_5 280 (by decide)).trans hv7
    have hc_110 : σ_1 281 = q_an G 265 wk := (hf_5 281 (by decide)).trans hv8
    have hc_111 : σ_1 282 = q_an G 265 as := (hf_5 282 (by decide)).trans hv9
    have hc_112 : σ_1 283 = q_an G 530 sh := (hf_5 283 (by decide)).trans hv10
    have hc_113 : σ_1 284 = q_an G 2120 a := (hf_5 284 (by decide)).trans hv11
    have hc_114 : σ_1 285 = q_bn G 1681 fb := (hf_5 285 (by decide)).trans hv12
    have hc_115 : σ_1 286 = q_an G 1681 nv := (hf_5 286 (by decide)).trans hv13
    have hc_116 : σ_1 287 = q_an G 1681 ns := (hf_5 287 (by decide)).trans hv14
    have hc_117 : σ_1 288 = q_an G 2000 mk := (hf_5 288 (by decide)).trans hv15
    have hc_118 : σ_1 289 = q_an G 6724 va := (hf_5 289 (by decide)).trans hv16
    have hc_119 : σ_1 290 = q_an G 6724 sp := (hf_5 290 (by decide)).trans hv17
    have hc_120 : σ_1 291 = q_an G 80 lp := (hf_5 291 (by decide)).trans hv18
    have hc_121 : σ_1 292 = q_an G 600 f := (hf_5 292 (by decide)).trans hv19
    have hc_122 : σ_1 293 = q_an G 300 ou := (hf_5 293 (by decide)).trans hv20
    have hc_123 : σ_1 295 = q_dn G 1 oD := (hf_5 295 (by decide)).trans hv22
    refine A_istore hg dL_law_2016 (by decide) (q_c1d rfl) ?_
    refine A_eq (ls2 := [some (.ref bS), some (.ref (q_h G + 0)), some (.ref (q_h G + 279)), some (.ref (q_h G + 294)), some (.ref (q_h G + 295)), some (.int (nI (i))), some (.int (nI (0))), none, none]) (st2 := []) (pc2 := 0) rfl rfl ?_
    refine A_aload_n hg dL_law_2018 rfl rfl ?_
    refine A_aload_n hg dL_law_2019 rfl rfl ?_
    refine A_iload hg dL_law_2020 rfl ?_
    refine A_iconst (v := (nI (1))) hg dL_law_2022 (by decide) ?_
    refine A_iaddN hg dL_law_2023 ?_
    refine A_sld hg hX (i + 1) (by omega) dL_law_2024 ?_
    refine A_aload_n hg dL_law_2025 rfl rfl ?_
    refine A_iload hg dL_law_2026 rfl ?_
    refine A_iconst (v := (nI (2))) hg dL_law_2028 (by decide) ?_
    refine A_iaddN hg dL_law_2029 ?_
    refine A_sld hg hX (i + 2) (by omega) dL_law_2030 ?_
    refine A_aload_n hg dL_law_2031 rfl rfl ?_
    refine A_iload hg dL_law_2032 rfl ?_
    refine A_iconst (v := (nI (3))) hg dL_law_2034 (by decide) ?_
    refine A_iaddN hg dL_law_2035 ?_
    refine A_sld hg hX (i + 3) (by omega) dL_law_2036 ?_
    refine A_hV (kc2 := kc + 1) (ks2 := ks + 6) (As := [.int (xs (i + 1)), .int (xs (i + 2)), .int (xs (i + 3))]) (rest := []) hg lk_RL_249 in_X11_totalBehind se_X11_totalBehind rfl dL_law_2037 ⟨by decide, by decide⟩ rfl rfl (hfK 1 6 (by decide) (by decide)) hc_108 (by omega) rfl rfl (Nat.le_of_ble_eq_true rfl) (c_X11_totalBehind G false 296 σ_1 F g fb nv ns mk va sp lp mc z (xs (i + 1)) (xs (i + 2)) (xs (i + 3)) hc_108 hc_109 hc_114 hc_115 hc_116 hc_117 hc_118 hc_119 hc_120 (by omega) hg9 (by omega) hF12 hF16 hmk hTI hlo) ?_
    rintro _ σ_137 (⟨rfl, Mhno, hc_124, hf_125⟩ | ⟨p1M, rfl, Mhpe, Mhpl, Mhrf, hc_126, hf_127⟩ | ⟨p1M, a1M, b1M, fqM, nvqM, nsqM, mkqM, vaqM, spqM, loqM, mcqM, zqM, rfl, Mhpe, Mhpl, Mhke, Mhle, Mhrf, MhTI, Mhmc, Mhmk, Mhlo, hc_128, hc_129, hc_130, hc_131, hc_132, hc_133, hc_134, hc_135, hf_136⟩)
    · skip
      refine (?_ : AJ G K Q (kc + 1) (ks + 6) false 296 2040 [some (.ref bS), some (.ref (q_h G + 0)), some (.ref (q_h G + 279)), some (.ref (q_h G + 294)), some (.ref (q_h G + 295)), some (.int (nI (i))), some (.int (nI (0))), none, none] [.int (nI (0))] σ_137)
      have hc_124 : σ_137 279 = o11 G (upd F 7 (nI (1))) := hc_124
      have hc_138 : σ_137 0 = o10 G (nI (il)) (z2) (z3) := (hf_125 0 (by decide)).trans hc_102
      have hc_139 : σ_137 1 = q_an G 600 f := (hf_125 1 (by decide)).trans hc_103
      have hc_140 : σ_137 23 = o5 G (23) (nI (lo)) := (hf_125 23 (by decide)).trans hc_104
      have hc_141 : σ_137 24 = q_an G 256 o := (hf_125 24 (by decide)).trans hc_105
      have hc_142 : σ_137 224 = q_rn G 2 2 (fun j => some (243 + 18 * j)) := (hf_125 224 (by decide)).trans hc_106
      have hc_143 : σ_137 225 = q_bn G 2 kp := (hf_125 225 (by decide)).trans hc_107
      have hc_144 : σ_137 280 = q_an G 265 g := (hf_125 280 (by decide)).trans hc_109
      have hc_145 : σ_137 281 = q_an G 265 wk := (hf_125 281 (by decide)).trans hc_110
      have hc_146 : σ_137 282 = q_an G 265 as := (hf_125 282 (by decide)).trans hc_111
      have hc_147 : σ_137 283 = q_an G 530 sh := (hf_125 283 (by decide)).trans hc_112
      have hc_148 : σ_137 284 = q_an G 2120 a := (hf_125 284 (by decide)).trans hc_113
      have hc_149 : σ_137 285 = q_bn G 1681 fb := (hf_125 285 (by decide)).trans hc_114
      have hc_150 : σ_137 286 = q_an G 1681 nv := (hf_125 286 (by decide)).trans hc_115
      have hc_151 : σ_137 287 = q_an G 1681 ns := (hf_125 287 (by decide)).trans hc_116
      have hc_152 : σ_137 288 = q_an G 2000 mk := (hf_125 288 (by decide)).trans hc_117
      have hc_153 : σ_137 289 = q_an G 6724 va := (hf_125 289 (by decide)).trans hc_118
      have hc_154 : σ_137 290 = q_an G 6724 sp := (hf_125 290 (by decide)).trans hc_119
      have hc_155 : σ_137 291 = q_an G 80 lp := (hf_125 291 (by decide)).trans hc_120
      have hc_156 : σ_137 292 = q_an G 600 f := (hf_125 292 (by decide)).trans hc_121
      have hc_157 : σ_137 293 = q_an G 300 ou := (hf_125 293 (by decide)).trans hc_122
      have hc_158 : σ_137 295 = q_dn G 1 oD := (hf_125 295 (by decide)).trans hc_123
      have hc_159 : σ_137 294 = q_ln G 1 (va_up oL 0 ((nI (((s_tot g) ^^^ (s_pv g p1C 0 0)) ^^^ (s_pv g p1C a1C b1C))).toInt64)) := (hf_125 294 (by decide)).trans hc_4
      have hrbC := iv_ref Chrf
      have hptC := s_part hg9 Chpl
      exact (Mhno p1C (by omega) Chpe).elim
    · skip
      refine (?_ : AJ G K Q (kc + 1) (ks + 6) false 296 2040 [some (.ref bS), some (.ref (q_h G + 0)), some (.ref (q_h G + 279)), some (.ref (q_h G + 294)), some (.ref (q_h G + 295)), some (.int (nI (i))), some (.int (nI (0))), none, none] [.int (q_d (0))] σ_137)
      have hc_126 : σ_137 279 = o11 G (upd F 7 (nI (0))) := hc_126
      have hc_160 : σ_137 0 = o10 G (nI (il)) (z2) (z3) := (hf_127 0 (by decide)).trans hc_102
      have hc_161 : σ_137 1 = q_an G 600 f := (hf_127 1 (by decide)).trans hc_103
      have hc_162 : σ_137 23 = o5 G (23) (nI (lo)) := (hf_127 23 (by decide)).trans hc_104
      have hc_163 : σ_137 24 = q_an G 256 o := (hf_127 24 (by decide)).trans hc_105
      have hc_164 : σ_137 224 = q_rn G 2 2 (fun j => some (243 + 18 * j)) := (hf_127 224 (by decide)).trans hc_106
      have hc_165 : σ_137 225 = q_bn G 2 kp := (hf_127 225 (by decide)).trans hc_107
      have hc_166 : σ_137 280 = q_an G 265 g := (hf_127 280 (by decide)).trans hc_109
      have hc_167 : σ_137 281 = q_an G 265 wk := (hf_127 281 (by decide)).trans hc_110
      have hc_168 : σ_137 282 = q_an G 265 as := (hf_127 282 (by decide)).trans hc_111
      have hc_169 : σ_137 283 = q_an G 530 sh := (hf_127 283 (by decide)).trans hc_112
      have hc_170 : σ_137 284 = q_an G 2120 a := (hf_127 284 (by decide)).trans hc_113
      have hc_171 : σ_137 285 = q_bn G 1681 fb := (hf_127 285 (by decide)).trans hc_114
      have hc_172 : σ_137 286 = q_an G 1681 nv := (hf_127 286 (by decide)).trans hc_115
      have hc_173 : σ_137 287 = q_an G 1681 ns := (hf_127 287 (by decide)).trans hc_116
      have hc_174 : σ_137 288 = q_an G 2000 mk := (hf_127 288 (by decide)).trans hc_117
      have hc_175 : σ_137 289 = q_an G 6724 va := (hf_127 289 (by decide)).trans hc_118
      have hc_176 : σ_137 290 = q_an G 6724 sp := (hf_127 290 (by decide)).trans hc_119
      have hc_177 : σ_137 291 = q_an G 80 lp := (hf_127 291 (by decide)).trans hc_120
      have hc_178 : σ_137 292 = q_an G 600 f := (hf_127 292 (by decide)).trans hc_121
      have hc_179 : σ_137 293 = q_an G 300 ou := (hf_127 293 (by decide)).trans hc_122
      have hc_180 : σ_137 295 = q_dn G 1 oD := (hf_127 295 (by decide)).trans hc_123
      have hc_181 : σ_137 294 = q_ln G 1 (va_up oL 0 ((nI (((s_tot g) ^^^ (s_pv g p1C 0 0)) ^^^ (s_pv g p1C a1C b1C))).toInt64)) := (hf_127 294 (by decide)).trans hc_4
      have hrbC := iv_ref Chrf
      have hptC := s_part hg9 Chpl
      have e_p : p1C = p1M := q_nI_inj (by omega) (by omega) (Chpe.symm.trans Mhpe)
      subst e_p
      exact (iv_refI Chke Chle (by omega) (by omega) Chrf Mhrf).elim
    · skip
      refine (?_ : AJ G K Q (kc + 1) (ks + 6) false 296 2040 [some (.ref bS), some (.ref (q_h G + 0)), some (.ref (q_h G + 279)), some (.ref (q_h G + 294)), some (.ref (q_h G + 295)), some (.int (nI (i))), some (.int (nI (0))), none, none] [.int (nI (((s_tot g) ^^^ (s_pv g p1M 0 0)) ^^^ (s_pv g p1M a1M b1M)))] σ_137)
      have hc_128 : σ_137 279 = o11 G (upd (upd (upd F 7 (nI (0))) 12 (nI (mcqM))) 16 (nI (zqM))) := hc_128
      have hc_182 : σ_137 0 = o10 G (nI (il)) (z2) (z3) := (hf_136 0 (by decide)).trans hc_102
      have hc_183 : σ_137 1 = q_an G 600 f := (hf_136 1 (by decide)).trans hc_103
      have hc_184 : σ_137 23 = o5 G (23) (nI (lo)) := (hf_136 23 (by decide)).trans hc_104
      have hc_185 : σ_137 24 = q_an G 256 o := (hf_136 24 (by decide)).trans hc_105
      have hc_186 : σ_137 224 = q_rn G 2 2 (fun j => some (243 + 18 * j)) := (hf_136 224 (by decide)).trans hc_106
      have hc_187 : σ_137 225 = q_bn G 2 kp := (hf_136 225 (by decide)).trans hc_107
      have hc_188 : σ_137 280 = q_an G 265 g := (hf_136 280 (by decide)).trans hc_109
      have hc_189 : σ_137 281 = q_an G 265 wk := (hf_136 281 (by decide)).trans hc_110
      have hc_190 : σ_137 282 = q_an G 265 as := (hf_136 282 (by decide)).trans hc_111
      have hc_191 : σ_137 283 = q_an G 530 sh := (hf_136 283 (by decide)).trans hc_112
      have hc_192 : σ_137 284 = q_an G 2120 a := (hf_136 284 (by decide)).trans hc_113
      have hc_193 : σ_137 292 = q_an G 600 f := (hf_136 292 (by decide)).trans hc_121
      have hc_194 : σ_137 293 = q_an G 300 ou := (hf_136 293 (by decide)).trans hc_122
      have hc_195 : σ_137 295 = q_dn G 1 oD := (hf_136 295 (by decide)).trans hc_123
      have hc_196 : σ_137 294 = q_ln G 1 (va_up oL 0 ((nI (((s_tot g) ^^^ (s_pv g p1C 0 0)) ^^^ (s_pv g p1C a1C b1C))).toInt64)) := (hf_136 294 (by decide)).trans hc_4
      have hrbC := iv_ref Chrf
      have hptC := s_part hg9 Chpl
      have hrbM := iv_ref Mhrf
      have hptM := s_part hg9 Mhpl
      have e_p : p1C = p1M := q_nI_inj (by omega) (by omega) (Chpe.symm.trans Mhpe)
      subst e_p
      have e_k : a1C = a1M := q_nI_inj (by omega) (by omega) (Chke.symm.trans Mhke)
      subst e_k
      have e_l : b1C = b1M := q_nI_inj (by omega) (by omega) (Chle.symm.trans Mhle)
      subst e_l
      refine A_istore hg dL_law_2040 (by decide) (q_c1d rfl) ?_
      refine A_eq (ls2 := [some (.ref bS), some (.ref (q_h G + 0)), some (.ref (q_h G + 279)), some (.ref (q_h G + 294)), some (.ref (q_h G + 295)), some (.int (nI (i))), some (.int (nI (0))), some (.int (nI (((s_tot g) ^^^ (s_pv g p1C 0 0)) ^^^ (s_pv g p1C a1C b1C)))), none]) (st2 := []) (pc2 := 0) rfl rfl ?_
      refine A_aload_n hg dL_law_2042 rfl rfl ?_
      refine A_eV (kc2 := kc + 1) (ks2 := ks + 6) (As := []) (rest := []) hg lk_RL_170 in_X11_thrown se_X11_thrown rfl dL_law_2043 ⟨by decide, by decide⟩ rfl rfl (hfK 1 6 (by decide) (by decide)) hc_128 (by omega) rfl rfl (Nat.le_of_ble_eq_true rfl) (c_X11_thrown G false 296 σ_137 (upd (upd (upd F 7 (nI (0))) 12 (nI (mcqM))) 16 (nI (zqM))) hc_128 (by omega)) ?_
      refine A_top (w := .int (nI (0))) (congrArg Value.int rfl) ?_
      refine A_iload hg dL_law_2046 rfl ?_
      refine A_icmp_eqN (tgt := 2053) hg dL_law_2048 (by decide) (by decide) (by decide) (fun c2048 => ?_) (fun c2048 => False.elim (by omega))
      refine A_iload hg dL_law_2053 rfl ?_
      refine A_if_neN (tgt := 2070) hg dL_law_2055 (by decide) (by decide) (fun c2055 => absurd (by decide) c2055) (fun c2055 => ?_)
      refine A_aload_n hg dL_law_2058 rfl rfl ?_
      refine A_iconst (v := (nI (0))) hg dL_law_2059 (by decide) ?_
      refine A_lald (j := 0) hg dL_law_2060 hc_196 (by omega) (by decide) (by decide) ?_
      refine A_top (w := .long ((nI (((s_tot g) ^^^ (s_pv g p1C 0 0)) ^^^ (s_pv g p1C a1C b1C))).toInt64)) (congrArg Value.long iv_up0) ?_
      refine A_iload hg dL_law_2061 rfl ?_
      refine A_i2l (v := (nI (((s_tot g) ^^^ (s_pv g p1C 0 0)) ^^^ (s_pv g p1C a1C b1C))).toInt64) hg dL_law_2063 rfl ?_
      refine A_lcmp hg dL_law_2064 ?_
      refine A_top (w := .int (nI 0)) (congrArg Value.int (lc_self _)) ?_
      refine A_if_eqN (tgt := 2070) hg dL_law_2065 (by decide) (by decide) (fun c2065 => ?_) (fun c2065 => absurd (by decide) c2065)
      refine A_goto (tgt := 3062) hg dL_law_2070 (by decide) ?_
      refine A_drop 6 ?_
      refine A_drop 7 ?_
      refine A_eq (ls2 := [some (.ref bS), some (.ref (q_h G + 0)), some (.ref (q_h G + 279)), some (.ref (q_h G + 294)), some (.ref (q_h G + 295)), some (.int (nI (i))), none, none, none]) (st2 := []) (pc2 := 0) rfl rfl ?_
      refine A_wide (kc2 := kc + 8) (ks2 := ks + 48) (by omega) (by omega) ?_
      exact hnxt _ (iv_mk il z2 z3 f lo o g nx m ps kp sn (upd (upd (upd F 7 (nI (0))) 12 (nI (mcqM))) 16 (nI (zqM))) wk as sh a fqM nvqM nsqM mkqM vaqM spqM loqM mcqM zqM ss ou (va_up oL 0 ((nI (((s_tot g) ^^^ (s_pv g p1C 0 0)) ^^^ (s_pv g p1C a1C b1C))).toInt64)) oD hc_182 hc_183 hc_184 hc_185 hc_186 hc_187 hc_128 hc_188 hc_189 hc_190 hc_191 hc_192 hc_129 hc_130 hc_131 hc_132 hc_133 hc_134 hc_135 hc_193 hc_194 hc_196 hc_195 (x_lj_e (fun i _ _ => ((hf_136 i (by omega)).trans (hf_5 i (by omega)))) hL) (x_gm_e (fun i _ _ => ((hf_136 i (by omega)).trans (hf_5 i (by omega)))) hG) (x_mx_e (fun i _ _ => (hf_136 i (by omega))) ChM2) (x_hi_e (fun i _ _ => ((hf_136 i (by omega)).trans (hf_5 i (by omega)))) hHi) (x_oj_e (fun i _ _ => ((hf_136 i (by omega)).trans (hf_5 i (by omega)))) hO) (x_pj_e (fun i _ _ => (hf_136 i (by omega))) ChT2) (iv_hn (fun i _ _ => (hf_136 i (by omega))) ChH2) (iv_Sn (fun i _ _ => ((hf_136 i (by omega)).trans (hf_5 i (by omega)))) hSn) (iv_Kp (fun i _ _ => ((hf_136 i (by omega)).trans (hf_5 i (by omega)))) hKp) (by omega) hfb (by omega) hou hgd hps hk1 hkss hss hsn hF5 hF6 rfl rfl hF21 hF22 hF23 hF33 (by omega) Mhmk MhTI Mhlo)
  · skip
    rw [he_6]
    refine (?_ : AJ G K Q (kc + 1) (ks + 6) false 296 2016 [some (.ref bS), some (.ref (q_h G + 0)), some (.ref (q_h G + 279)), some (.ref (q_h G + 294)), some (.ref (q_h G + 295)), some (.int (nI (i))), none, none, none] [.int (nI (1))] σ)
    refine A_istore hg dL_law_2016 (by decide) (q_c1d rfl) ?_
    refine A_eq (ls2 := [some (.ref bS), some (.ref (q_h G + 0)), some (.ref (q_h G + 279)), some (.ref (q_h G + 294)), some (.ref (q_h G + 295)), some (.int (nI (i))), some (.int (nI (1))), none, none]) (st2 := []) (pc2 := 0) rfl rfl ?_
    refine A_aload_n hg dL_law_2018 rfl rfl ?_
    refine A_aload_n hg dL_law_2019 rfl rfl ?_
    refine A_iload hg dL_law_2020 rfl ?_
    refine A_iconst (v := (nI (1))) hg dL_law_2022 (by decide) ?_
    refine A_iaddN hg dL_law_2023 ?_
    refine A_sld hg hX (i + 1) (by omega) dL_law_2024 ?_
    refine A_aload_n hg dL_law_2025 rfl rfl ?_
    refine A_iload hg dL_law_2026 rfl ?_
    refine A_iconst (v := (nI (2))) hg dL_law_2028 (by decide) ?_
    refine A_iaddN hg dL_law_2029 ?_
    refine A_sld hg hX (i + 2) (by omega) dL_law_2030 ?_
    refine A_aload_n hg dL_law_2031 rfl rfl ?_
    refine A_iload hg dL_law_2032 rfl ?_
    refine A_iconst (v := (nI (3))) hg dL_law_2034 (by decide) ?_
    refine A_iaddN hg dL_law_2035 ?_
    refine A_sld hg hX (i + 3) (by omega) dL_law_2036 ?_
    refine A_hV (kc2 := kc + 1) (ks2 := ks + 6) (As := [.int (xs (i + 1)), .int (xs (i + 2)), .int (xs (i + 3))]) (rest := []) hg lk_RL_249 in_X11_totalBehind se_X11_totalBehind rfl dL_law_2037 ⟨by decide, by decide⟩ rfl rfl (hfK 1 6 (by decide) (by decide)) hv6 (by omega) rfl rfl (Nat.le_of_ble_eq_true rfl) (c_X11_totalBehind G false 296 σ F g fb nv ns mk va sp lp mc z (xs (i + 1)) (xs (i + 2)) (xs (i + 3)) hv6 hv7 hv12 hv13 hv14 hv15 hv16 hv17 hv18 (by omega) hg9 (by omega) hF12 hF16 hmk hTI hlo) ?_
    rintro _ σ_210 (⟨rfl, Mhno, hc_197, hf_198⟩ | ⟨p1M, rfl, Mhpe, Mhpl, Mhrf, hc_199, hf_200⟩ | ⟨p1M, a1M, b1M, fqM, nvqM, nsqM, mkqM, vaqM, spqM, loqM, mcqM, zqM, rfl, Mhpe, Mhpl, Mhke, Mhle, Mhrf, MhTI, Mhmc, Mhmk, Mhlo, hc_201, hc_202, hc_203, hc_204, hc_205, hc_206, hc_207, hc_208, hf_209⟩)
    · skip
      refine (?_ : AJ G K Q (kc + 1) (ks + 6) false 296 2040 [some (.ref bS), some (.ref (q_h G + 0)), some (.ref (q_h G + 279)), some (.ref (q_h G + 294)), some (.ref (q_h G + 295)), some (.int (nI (i))), some (.int (nI (1))), none, none] [.int (nI (0))] σ_210)
      have hc_197 : σ_210 279 = o11 G (upd F 7 (nI (1))) := hc_197
      have hc_211 : σ_210 0 = o10 G (nI (il)) (z2) (z3) := (hf_198 0 (by decide)).trans hv0
      have hc_212 : σ_210 1 = q_an G 600 f := (hf_198 1 (by decide)).trans hv1
      have hc_213 : σ_210 23 = o5 G (23) (nI (lo)) := (hf_198 23 (by decide)).trans hv2
      have hc_214 : σ_210 24 = q_an G 256 o := (hf_198 24 (by decide)).trans hv3
      have hc_215 : σ_210 224 = q_rn G 2 2 (fun j => some (243 + 18 * j)) := (hf_198 224 (by decide)).trans hv4
      have hc_216 : σ_210 225 = q_bn G 2 kp := (hf_198 225 (by decide)).trans hv5
      have hc_217 : σ_210 280 = q_an G 265 g := (hf_198 280 (by decide)).trans hv7
      have hc_218 : σ_210 281 = q_an G 265 wk := (hf_198 281 (by decide)).trans hv8
      have hc_219 : σ_210 282 = q_an G 265 as := (hf_198 282 (by decide)).trans hv9
      have hc_220 : σ_210 283 = q_an G 530 sh := (hf_198 283 (by decide)).trans hv10
      have hc_221 : σ_210 284 = q_an G 2120 a := (hf_198 284 (by decide)).trans hv11
      have hc_222 : σ_210 285 = q_bn G 1681 fb := (hf_198 285 (by decide)).trans hv12
      have hc_223 : σ_210 286 = q_an G 1681 nv := (hf_198 286 (by decide)).trans hv13
      have hc_224 : σ_210 287 = q_an G 1681 ns := (hf_198 287 (by decide)).trans hv14
      have hc_225 : σ_210 288 = q_an G 2000 mk := (hf_198 288 (by decide)).trans hv15
      have hc_226 : σ_210 289 = q_an G 6724 va := (hf_198 289 (by decide)).trans hv16
      have hc_227 : σ_210 290 = q_an G 6724 sp := (hf_198 290 (by decide)).trans hv17
      have hc_228 : σ_210 291 = q_an G 80 lp := (hf_198 291 (by decide)).trans hv18
      have hc_229 : σ_210 292 = q_an G 600 f := (hf_198 292 (by decide)).trans hv19
      have hc_230 : σ_210 293 = q_an G 300 ou := (hf_198 293 (by decide)).trans hv20
      have hc_231 : σ_210 294 = q_ln G 1 oL := (hf_198 294 (by decide)).trans hv21
      have hc_232 : σ_210 295 = q_dn G 1 oD := (hf_198 295 (by decide)).trans hv22
      refine A_istore hg dL_law_2040 (by decide) (q_c1d rfl) ?_
      refine A_eq (ls2 := [some (.ref bS), some (.ref (q_h G + 0)), some (.ref (q_h G + 279)), some (.ref (q_h G + 294)), some (.ref (q_h G + 295)), some (.int (nI (i))), some (.int (nI (1))), some (.int (nI (0))), none]) (st2 := []) (pc2 := 0) rfl rfl ?_
      refine A_aload_n hg dL_law_2042 rfl rfl ?_
      refine A_eV (kc2 := kc + 1) (ks2 := ks + 6) (As := []) (rest := []) hg lk_RL_170 in_X11_thrown se_X11_thrown rfl dL_law_2043 ⟨by decide, by decide⟩ rfl rfl (hfK 1 6 (by decide) (by decide)) hc_197 (by omega) rfl rfl (Nat.le_of_ble_eq_true rfl) (c_X11_thrown G false 296 σ_210 (upd F 7 (nI (1))) hc_197 (by omega)) ?_
      refine A_top (w := .int (nI (1))) (congrArg Value.int rfl) ?_
      refine A_iload hg dL_law_2046 rfl ?_
      refine A_icmp_eqN (tgt := 2053) hg dL_law_2048 (by decide) (by decide) (by decide) (fun c2048 => ?_) (fun c2048 => False.elim (by omega))
      refine A_iload hg dL_law_2053 rfl ?_
      refine A_if_neN (tgt := 2070) hg dL_law_2055 (by decide) (by decide) (fun c2055 => ?_) (fun c2055 => absurd c2055 (by decide))
      refine A_goto (tgt := 3062) hg dL_law_2070 (by decide) ?_
      refine A_drop 6 ?_
      refine A_drop 7 ?_
      refine A_eq (ls2 := [some (.ref bS), some (.ref (q_h G + 0)), some (.ref (q_h G + 279)), some (.ref (q_h G + 294)), some (.ref (q_h G + 295)), some (.int (nI (i))), none, none, none]) (st2 := []) (pc2 := 0) rfl rfl ?_
      refine A_wide (kc2 := kc + 8) (ks2 := ks + 48) (by omega) (by omega) ?_
      exact hnxt _ (iv_mk il z2 z3 f lo o g nx m ps kp sn (upd F 7 (nI (1))) wk as sh a fb nv ns mk va sp lp mc z ss ou oL oD hc_211 hc_212 hc_213 hc_214 hc_215 hc_216 hc_197 hc_217 hc_218 hc_219 hc_220 hc_221 hc_222 hc_223 hc_224 hc_225 hc_226 hc_227 hc_228 hc_229 hc_230 hc_231 hc_232 (x_lj_e (fun i _ _ => (hf_198 i (by omega))) hL) (x_gm_e (fun i _ _ => (hf_198 i (by omega))) hG) (x_mx_e (fun i _ _ => (hf_198 i (by omega))) hM) (x_hi_e (fun i _ _ => (hf_198 i (by omega))) hHi) (x_oj_e (fun i _ _ => (hf_198 i (by omega))) hO) (x_pj_e (fun i _ _ => (hf_198 i (by omega))) hT) (iv_hn (fun i _ _ => (hf_198 i (by omega))) hH) (iv_Sn (fun i _ _ => (hf_198 i (by omega))) hSn) (iv_Kp (fun i _ _ => (hf_198 i (by omega))) hKp) (by omega) hfb (by omega) hou hgd hps hk1 hkss hss hsn hF5 hF6 hF12 hF16 hF21 hF22 hF23 hF33 (by omega) hmk hTI hlo)
    · skip
      refine (?_ : AJ G K Q (kc + 1) (ks + 6) false 296 2040 [some (.ref bS), some (.ref (q_h G + 0)), some (.ref (q_h G + 279)), some (.ref (q_h G + 294)), some (.ref (q_h G + 295)), some (.int (nI (i))), some (.int (nI (1))), none, none] [.int (q_d (0))] σ_210)
      have hc_199 : σ_210 279 = o11 G (upd F 7 (nI (0))) := hc_199
      have hc_233 : σ_210 0 = o10 G (nI (il)) (z2) (z3) := (hf_200 0 (by decide)).trans hv0
      have hc_234 : σ_210 1 = q_an G 600 f := (hf_200 1 (by decide)).trans hv1
      have hc_235 : σ_210 23 = o5 G (23) (nI (lo)) := (hf_200 23 (by decide)).trans hv2
      have hc_236 : σ_210 24 = q_an G 256 o := (hf_200 24 (by decide)).trans hv3
      have hc_237 : σ_210 224 = q_rn G 2 2 (fun j => some (243 + 18 * j)) := (hf_200 224 (by decide)).trans hv4
      have hc_238 : σ_210 225 = q_bn G 2 kp := (hf_200 225 (by decide)).trans hv5
      have hc_239 : σ_210 280 = q_an G 265 g := (hf_200 280 (by decide)).trans hv7
      have hc_240 : σ_210 281 = q_an G 265 wk := (hf_200 281 (by decide)).trans hv8
      have hc_241 : σ_210 282 = q_an G 265 as := (hf_200 282 (by decide)).trans hv9
      have hc_242 : σ_210 283 = q_an G 530 sh := (hf_200 283 (by decide)).trans hv10
      have hc_243 : σ_210 284 = q_an G 2120 a := (hf_200 284 (by decide)).trans hv11
      have hc_244 : σ_210 285 = q_bn G 1681 fb := (hf_200 285 (by decide)).trans hv12
      have hc_245 : σ_210 286 = q_an G 1681 nv := (hf_200 286 (by decide)).trans hv13
      have hc_246 : σ_210 287 = q_an G 1681 ns := (hf_200 287 (by decide)).trans hv14
      have hc_247 : σ_210 288 = q_an G 2000 mk := (hf_200 288 (by decide)).trans hv15
      have hc_248 : σ_210 289 = q_an G 6724 va := (hf_200 289 (by decide)).trans hv16
      have hc_249 : σ_210 290 = q_an G 6724 sp := (hf_200 290 (by decide)).trans hv17
      have hc_250 : σ_210 291 = q_an G 80 lp := (hf_200 291 (by decide)).trans hv18
      have hc_251 : σ_210 292 = q_an G 600 f := (hf_200 292 (by decide)).trans hv19
      have hc_252 : σ_210 293 = q_an G 300 ou := (hf_200 293 (by decide)).trans hv20
      have hc_253 : σ_210 294 = q_ln G 1 oL := (hf_200 294 (by decide)).trans hv21
      have hc_254 : σ_210 295 = q_dn G 1 oD := (hf_200 295 (by decide)).trans hv22
      exact (Chxx p1M (by omega) Mhpe).elim
    · skip
      refine (?_ : AJ G K Q (kc + 1) (ks + 6) false 296 2040 [some (.ref bS), some (.ref (q_h G + 0)), some (.ref (q_h G + 279)), some (.ref (q_h G + 294)), some (.ref (q_h G + 295)), some (.int (nI (i))), some (.int (nI (1))), none, none] [.int (nI (((s_tot g) ^^^ (s_pv g p1M 0 0)) ^^^ (s_pv g p1M a1M b1M)))] σ_210)
      have hc_201 : σ_210 279 = o11 G (upd (upd (upd F 7 (nI (0))) 12 (nI (mcqM))) 16 (nI (zqM))) := hc_201
      have hc_255 : σ_210 0 = o10 G (nI (il)) (z2) (z3) := (hf_209 0 (by decide)).trans hv0
      have hc_256 : σ_210 1 = q_an G 600 f := (hf_209 1 (by decide)).trans hv1
      have hc_257 : σ_210 23 = o5 G (23) (nI (lo)) := (hf_209 23 (by decide)).trans hv2
      have hc_258 : σ_210 24 = q_an G 256 o := (hf_209 24 (by decide)).trans hv3
      have hc_259 : σ_210 224 = q_rn G 2 2 (fun j => some (243 + 18 * j)) := (hf_209 224 (by decide)).trans hv4
      have hc_260 : σ_210 225 = q_bn G 2 kp := (hf_209 225 (by decide)).trans hv5
      have hc_261 : σ_210 280 = q_an G 265 g := (hf_209 280 (by decide)).trans hv7
      have hc_262 : σ_210 281 = q_an G 265 wk := (hf_209 281 (by decide)).trans hv8
      have hc_263 : σ_210 282 = q_an G 265 as := (hf_209 282 (by decide)).trans hv9
      have hc_264 : σ_210 283 = q_an G 530 sh := (hf_209 283 (by decide)).trans hv10
      have hc_265 : σ_210 284 = q_an G 2120 a := (hf_209 284 (by decide)).trans hv11
      have hc_266 : σ_210 292 = q_an G 600 f := (hf_209 292 (by decide)).trans hv19
      have hc_267 : σ_210 293 = q_an G 300 ou := (hf_209 293 (by decide)).trans hv20
      have hc_268 : σ_210 294 = q_ln G 1 oL := (hf_209 294 (by decide)).trans hv21
      have hc_269 : σ_210 295 = q_dn G 1 oD := (hf_209 295 (by decide)).trans hv22
      have hrbM := iv_ref Mhrf
      have hptM := s_part hg9 Mhpl
      exact (Chxx p1M (by omega) Mhpe).elim
end
