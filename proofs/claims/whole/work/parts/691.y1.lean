section
set_option maxRecDepth 100000 in
set_option maxHeartbeats 4000000 in
theorem law_c0 (G : GL) (K : KC) (Q : State → Prop) (hh : List (Nat × Nat × Nat × Nat)) (hg : Gd G K RL code 9 ret room_1 hh) (bS L : Nat) (xs : Nat → Int32) (hX : q_scr G K bS L xs) (i kc ks J : Nat) (hi : i + 5 < L) (hL31 : L < 2 ^ 31) (hkc : kc + 8 ≤ 601024) (hks : ks + 48 ≤ 7293034) (σ : Nat → va_E) (hI : iv G σ J) (hJ : J < 512) (hfd : q_fdn) (hdd : q_ddn) (hf2 : q_f2n) (hds : q_dcs) (hnxt : ∀ σ9 : Nat → va_E, iv G σ9 (J + 1) → AJ G K Q (kc + 8) (ks + 48) false 296 3062 [some (.ref bS), some (.ref (q_h G + 0)), some (.ref (q_h G + 279)), some (.ref (q_h G + 294)), some (.ref (q_h G + 295)), some (.int (nI (i))), none, none, none] [] σ9) : AJ G K Q kc ks false 296 244 [some (.ref bS), some (.ref (q_h G + 0)), some (.ref (q_h G + 279)), some (.ref (q_h G + 294)), some (.ref (q_h G + 295)), some (.int (nI (i))), none, none, none] [] σ := by
  refine iv_el hI ?_
  intro il z2 z3 f lo o g nx m ps kp sn F wk as sh a fb nv ns mk va sp lp mc z ss ou oL oD
  intro hv0 hv1 hv2 hv3 hv4 hv5 hv6 hv7 hv8 hv9 hv10 hv11 hv12 hv13 hv14 hv15 hv16 hv17 hv18 hv19 hv20 hv21 hv22
  intro hL hG hM hHi hO hT hH hSn hKp
  intro hil hfb hlo2 hou hgd hps hk1 hkss hss hsn hF5 hF6 hF12 hF16 hF21 hF22 hF23 hF33 hmc hmk hTI hlo
  have hfK : ∀ a b : Nat, a ≤ 8 → b ≤ 48 → kc + a ≤ room_1.cells ∧ ks + b ≤ room_1.slots := fun a b h1 h2 => ⟨by show kc + a ≤ 601024; omega, by show ks + b ≤ 7293034; omega⟩
  have hg9 := iv_g hG
  obtain ⟨hnx8, hm8, hc78⟩ := iv_hi hHi
  have hbb := iv_byte (m := il) hfb
  have hg90 := hg9.1
  have hg96 := hg9.2.2.2.2.1
  have hnp8 := s_np_le hg9
  refine A_aload_n hg dL_law_244 rfl rfl ?_
  refine A_aload_n hg dL_law_245 rfl rfl ?_
  refine A_iload hg dL_law_246 rfl ?_
  refine A_iconst (v := (nI (1))) hg dL_law_248 (by decide) ?_
  refine A_iaddN hg dL_law_249 ?_
  refine A_sld hg hX (i + 1) (by omega) dL_law_250 ?_
  refine A_aload_n hg dL_law_251 rfl rfl ?_
  refine A_iload hg dL_law_252 rfl ?_
  refine A_iconst (v := (nI (2))) hg dL_law_254 (by decide) ?_
  refine A_iaddN hg dL_law_255 ?_
  refine A_sld hg hX (i + 2) (by omega) dL_law_256 ?_
  refine A_aload_n hg dL_law_257 rfl rfl ?_
  refine A_iload hg dL_law_258 rfl ?_
  refine A_iconst (v := (nI (3))) hg dL_law_260 (by decide) ?_
  refine A_iaddN hg dL_law_261 ?_
  refine A_sld hg hX (i + 3) (by omega) dL_law_262 ?_
  refine A_aload_n hg dL_law_263 rfl rfl ?_
  refine A_iload hg dL_law_264 rfl ?_
  refine A_iconst (v := (nI (4))) hg dL_law_266 (by decide) ?_
  refine A_iaddN hg dL_law_267 ?_
  refine A_sld hg hX (i + 4) (by omega) dL_law_268 ?_
  refine A_aload_n hg dL_law_269 rfl rfl ?_
  refine A_iload hg dL_law_270 rfl ?_
  refine A_iconst (v := (nI (5))) hg dL_law_272 (by decide) ?_
  refine A_iaddN hg dL_law_273 ?_
  refine A_sld hg hX (i + 5) (by omega) dL_law_274 ?_
  refine A_hV (kc2 := kc + 0) (ks2 := ks + 0) (As := [.int (xs (i + 1)), .int (xs (i + 2)), .int (xs (i + 3)), .int (xs (i + 4)), .int (xs (i + 5))]) (rest := []) hg lk_RL_142 in_X10_appendInput se_X10_appendInput rfl dL_law_275 ⟨by decide, by decide⟩ rfl rfl (hfK 0 0 (by decide) (by decide)) hv0 (by omega) rfl rfl (Nat.le_of_ble_eq_true rfl) (c_X10_appendInput G false 296 σ z2 z3 f il (xs (i + 1)) (xs (i + 2)) (xs (i + 3)) (xs (i + 4)) (xs (i + 5)) hv0 hv1 (by omega) (by omega)) ?_
  rintro _ σ_5 (⟨rfl, Chfull, he_1⟩ | ⟨rfl, Chroom, hc_2, hc_3, hf_4⟩)
  · skip
    rw [he_1]
    refine (?_ : AJ G K Q (kc + 0) (ks + 0) false 296 278 [some (.ref bS), some (.ref (q_h G + 0)), some (.ref (q_h G + 279)), some (.ref (q_h G + 294)), some (.ref (q_h G + 295)), some (.int (nI (i))), none, none, none] [.int (q_d (0))] σ)
    refine A_aload_n hg dL_law_278 rfl rfl ?_
    refine A_aload_n hg dL_law_279 rfl rfl ?_
    refine A_iload hg dL_law_280 rfl ?_
    refine A_iconst (v := (nI (1))) hg dL_law_282 (by decide) ?_
    refine A_iaddN hg dL_law_283 ?_
    refine A_sld hg hX (i + 1) (by omega) dL_law_284 ?_
    refine A_aload_n hg dL_law_285 rfl rfl ?_
    refine A_iload hg dL_law_286 rfl ?_
    refine A_iconst (v := (nI (2))) hg dL_law_288 (by decide) ?_
    refine A_iaddN hg dL_law_289 ?_
    refine A_sld hg hX (i + 2) (by omega) dL_law_290 ?_
    refine A_aload_n hg dL_law_291 rfl rfl ?_
    refine A_iload hg dL_law_292 rfl ?_
    refine A_iconst (v := (nI (3))) hg dL_law_294 (by decide) ?_
    refine A_iaddN hg dL_law_295 ?_
    refine A_sld hg hX (i + 3) (by omega) dL_law_296 ?_
    refine A_aload_n hg dL_law_297 rfl rfl ?_
    refine A_iload hg dL_law_298 rfl ?_
    refine A_iconst (v := (nI (4))) hg dL_law_300 (by decide) ?_
    refine A_iaddN hg dL_law_301 ?_
    refine A_sld hg hX (i + 4) (by omega) dL_law_302 ?_
    refine A_aload_n hg dL_law_303 rfl rfl ?_
    refine A_iload hg dL_law_304 rfl ?_
    refine A_iconst (v := (nI (5))) hg dL_law_306 (by decide) ?_
    refine A_iaddN hg dL_law_307 ?_
    refine A_sld hg hX (i + 5) (by omega) dL_law_308 ?_
    refine A_hV (kc2 := kc + 0) (ks2 := ks + 0) (As := [.int (xs (i + 1)), .int (xs (i + 2)), .int (xs (i + 3)), .int (xs (i + 4)), .int (xs (i + 5))]) (rest := [.int (q_d (0))]) hg lk_RL_146 in_X11_appendInput se_X11_appendInput rfl dL_law_309 ⟨by decide, by decide⟩ rfl rfl (hfK 0 0 (by decide) (by decide)) hv6 (by omega) rfl rfl (Nat.le_of_ble_eq_true rfl) (c_X11_appendInput G false 296 σ F f il (xs (i + 1)) (xs (i + 2)) (xs (i + 3)) (xs (i + 4)) (xs (i + 5)) hv6 hv19 (by omega) hF21 (by omega)) ?_
    rintro _ σ_11 (⟨rfl, Mhfull, hc_6, hf_7⟩ | ⟨rfl, Mhroom, hc_8, hc_9, hf_10⟩)
    · skip
      refine (?_ : AJ G K Q (kc + 0) (ks + 0) false 296 312 [some (.ref bS), some (.ref (q_h G + 0)), some (.ref (q_h G + 279)), some (.ref (q_h G + 294)), some (.ref (q_h G + 295)), some (.int (nI (i))), none, none, none] [.int (q_d (0)), .int (q_d (0))] σ_11)
      have hc_6 : σ_11 279 = o11 G (upd F 7 (nI (0))) := hc_6
      have hc_12 : σ_11 0 = o10 G (nI (il)) (z2) (z3) := (hf_7 0 (by decide)).trans hv0
      have hc_13 : σ_11 1 = q_an G 600 f := (hf_7 1 (by decide)).trans hv1
      have hc_14 : σ_11 23 = o5 G (23) (nI (lo)) := (hf_7 23 (by decide)).trans hv2
      have hc_15 : σ_11 24 = q_an G 256 o := (hf_7 24 (by decide)).trans hv3
      have hc_16 : σ_11 224 = q_rn G 2 2 (fun j => some (243 + 18 * j)) := (hf_7 224 (by decide)).trans hv4
      have hc_17 : σ_11 225 = q_bn G 2 kp := (hf_7 225 (by decide)).trans hv5
      have hc_18 : σ_11 280 = q_an G 265 g := (hf_7 280 (by decide)).trans hv7
      have hc_19 : σ_11 281 = q_an G 265 wk := (hf_7 281 (by decide)).trans hv8
      have hc_20 : σ_11 282 = q_an G 265 as := (hf_7 282 (by decide)).trans hv9
      have hc_21 : σ_11 283 = q_an G 530 sh := (hf_7 283 (by decide)).trans hv10
      have hc_22 : σ_11 284 = q_an G 2120 a := (hf_7 284 (by decide)).trans hv11
      have hc_23 : σ_11 285 = q_bn G 1681 fb := (hf_7 285 (by decide)).trans hv12
      have hc_24 : σ_11 286 = q_an G 1681 nv := (hf_7 286 (by decide)).trans hv13
      have hc_25 : σ_11 287 = q_an G 1681 ns := (hf_7 287 (by decide)).trans hv14
      have hc_26 : σ_11 288 = q_an G 2000 mk := (hf_7 288 (by decide)).trans hv15
      have hc_27 : σ_11 289 = q_an G 6724 va := (hf_7 289 (by decide)).trans hv16
      have hc_28 : σ_11 290 = q_an G 6724 sp := (hf_7 290 (by decide)).trans hv17
      have hc_29 : σ_11 291 = q_an G 80 lp := (hf_7 291 (by decide)).trans hv18
      have hc_30 : σ_11 292 = q_an G 600 f := (hf_7 292 (by decide)).trans hv19
      have hc_31 : σ_11 293 = q_an G 300 ou := (hf_7 293 (by decide)).trans hv20
      have hc_32 : σ_11 294 = q_ln G 1 oL := (hf_7 294 (by decide)).trans hv21
      have hc_33 : σ_11 295 = q_dn G 1 oD := (hf_7 295 (by decide)).trans hv22
      refine A_icmp_eq (tgt := 3062) hg dL_law_312 (by decide) (fun _ => ?_) (fun z9 => absurd rfl z9)
      refine A_eq (ls2 := [some (.ref bS), some (.ref (q_h G + 0)), some (.ref (q_h G + 279)), some (.ref (q_h G + 294)), some (.ref (q_h G + 295)), some (.int (nI (i))), none, none, none]) (st2 := []) (pc2 := 0) rfl rfl ?_
      refine A_wide (kc2 := kc + 8) (ks2 := ks + 48) (by omega) (by omega) ?_
      exact hnxt _ (iv_mk il z2 z3 f lo o g nx m ps kp sn (upd F 7 (nI (0))) wk as sh a fb nv ns mk va sp lp mc z ss ou oL oD hc_12 hc_13 hc_14 hc_15 hc_16 hc_17 hc_6 hc_18 hc_19 hc_20 hc_21 hc_22 hc_23 hc_24 hc_25 hc_26 hc_27 hc_28 hc_29 hc_30 hc_31 hc_32 hc_33 (x_lj_e (fun i _ _ => (hf_7 i (by omega))) hL) (x_gm_e (fun i _ _ => (hf_7 i (by omega))) hG) (x_mx_e (fun i _ _ => (hf_7 i (by omega))) hM) (x_hi_e (fun i _ _ => (hf_7 i (by omega))) hHi) (x_oj_e (fun i _ _ => (hf_7 i (by omega))) hO) (x_pj_e (fun i _ _ => (hf_7 i (by omega))) hT) (iv_hn (fun i _ _ => (hf_7 i (by omega))) hH) (iv_Sn (fun i _ _ => (hf_7 i (by omega))) hSn) (iv_Kp (fun i _ _ => (hf_7 i (by omega))) hKp) (by omega) hfb (by omega) hou hgd hps hk1 hkss hss hsn hF5 hF6 hF12 hF16 hF21 hF22 hF23 hF33 (by omega) hmk hTI hlo)
    · skip
      refine (?_ : AJ G K Q (kc + 0) (ks + 0) false 296 312 [some (.ref bS), some (.ref (q_h G + 0)), some (.ref (q_h G + 279)), some (.ref (q_h G + 294)), some (.ref (q_h G + 295)), some (.int (nI (i))), none, none, none] [.int (nI (il + 20)), .int (q_d (0))] σ_11)
      have hc_8 : σ_11 279 = o11 G (upd (upd F 7 (nI (0))) 21 (nI (il + 20))) := hc_8
      have hc_34 : σ_11 0 = o10 G (nI (il)) (z2) (z3) := (hf_10 0 (by decide)).trans hv0
      have hc_35 : σ_11 1 = q_an G 600 f := (hf_10 1 (by decide)).trans hv1
      have hc_36 : σ_11 23 = o5 G (23) (nI (lo)) := (hf_10 23 (by decide)).trans hv2
      have hc_37 : σ_11 24 = q_an G 256 o := (hf_10 24 (by decide)).trans hv3
      have hc_38 : σ_11 224 = q_rn G 2 2 (fun j => some (243 + 18 * j)) := (hf_10 224 (by decide)).trans hv4
      have hc_39 : σ_11 225 = q_bn G 2 kp := (hf_10 225 (by decide)).trans hv5
      have hc_40 : σ_11 280 = q_an G 265 g := (hf_10 280 (by decide)).trans hv7
      have hc_41 : σ_11 281 = q_an G 265 wk := (hf_10 281 (by decide)).trans hv8
      have hc_42 : σ_11 282 = q_an G 265 as := (hf_10 282 (by decide)).trans hv9
      have hc_43 : σ_11 283 = q_an G 530 sh := (hf_10 283 (by decide)).trans hv10
      have hc_44 : σ_11 284 = q_an G 2120 a := (hf_10 284 (by decide)).trans hv11
      have hc_45 : σ_11 285 = q_bn G 1681 fb := (hf_10 285 (by decide)).trans hv12
      have hc_46 : σ_11 286 = q_an G 1681 nv := (hf_10 286 (by decide)).trans hv13
      have hc_47 : σ_11 287 = q_an G 1681 ns := (hf_10 287 (by decide)).trans hv14
      have hc_48 : σ_11 288 = q_an G 2000 mk := (hf_10 288 (by decide)).trans hv15
      have hc_49 : σ_11 289 = q_an G 6724 va := (hf_10 289 (by decide)).trans hv16
      have hc_50 : σ_11 290 = q_an G 6724 sp := (hf_10 290 (by decide)).trans hv17
      have hc_51 : σ_11 291 = q_an G 80 lp := (hf_10 291 (by decide)).trans hv18
      have hc_52 : σ_11 293 = q_an G 300 ou := (hf_10 293 (by decide)).trans hv20
      have hc_53 : σ_11 294 = q_ln G 1 oL := (hf_10 294 (by decide)).trans hv21
      have hc_54 : σ_11 295 = q_dn G 1 oD := (hf_10 295 (by decide)).trans hv22
      exact (Chfull Mhroom).elim
  · skip
    refine (?_ : AJ G K Q (kc + 0) (ks + 0) false 296 278 [some (.ref bS), some (.ref (q_h G + 0)), some (.ref (q_h G + 279)), some (.ref (q_h G + 294)), some (.ref (q_h G + 295)), some (.int (nI (i))), none, none, none] [.int (nI (il + 20))] σ_5)
    have hc_55 : σ_5 23 = o5 G (23) (nI (lo)) := (hf_4 23 (by decide)).trans hv2
    have hc_56 : σ_5 24 = q_an G 256 o := (hf_4 24 (by decide)).trans hv3
    have hc_57 : σ_5 224 = q_rn G 2 2 (fun j => some (243 + 18 * j)) := (hf_4 224 (by decide)).trans hv4
    have hc_58 : σ_5 225 = q_bn G 2 kp := (hf_4 225 (by decide)).trans hv5
    have hc_59 : σ_5 279 = o11 G F := (hf_4 279 (by decide)).trans hv6
    have hc_60 : σ_5 280 = q_an G 265 g := (hf_4 280 (by decide)).trans hv7
    have hc_61 : σ_5 281 = q_an G 265 wk := (hf_4 281 (by decide)).trans hv8
    have hc_62 : σ_5 282 = q_an G 265 as := (hf_4 282 (by decide)).trans hv9
    have hc_63 : σ_5 283 = q_an G 530 sh := (hf_4 283 (by decide)).trans hv10
    have hc_64 : σ_5 284 = q_an G 2120 a := (hf_4 284 (by decide)).trans hv11
    have hc_65 : σ_5 285 = q_bn G 1681 fb := (hf_4 285 (by decide)).trans hv12
    have hc_66 : σ_5 286 = q_an G 1681 nv := (hf_4 286 (by decide)).trans hv13
    have hc_67 : σ_5 287 = q_an G 1681 ns := (hf_4 287 (by decide)).trans hv14
    have hc_68 : σ_5 288 = q_an G 2000 mk := (hf_4 288 (by decide)).trans hv15
    have hc_69 : σ_5 289 = q_an G 6724 va := (hf_4 289 (by decide)).trans hv16
    have hc_70 : σ_5 290 = q_an G 6724 sp := (hf_4 290 (by decide)).trans hv17
    have hc_71 : σ_5 291 = q_an G 80 lp := (hf_4 291 (by decide)).trans hv18
    have hc_72 : σ_5 292 = q_an G 600 f := (hf_4 292 (by decide)).trans hv19
    have hc_73 : σ_5 293 = q_an G 300 ou := (hf_4 293 (by decide)).trans hv20
    have hc_74 : σ_5 294 = q_ln G 1 oL := (hf_4 294 (by decide)).trans hv21
    have hc_75 : σ_5 295 = q_dn G 1 oD := (hf_4 295 (by decide)).trans hv22
    refine A_aload_n hg dL_law_278 rfl rfl ?_
    refine A_aload_n hg dL_law_279 rfl rfl ?_
    refine A_iload hg dL_law_280 rfl ?_
    refine A_iconst (v := (nI (1))) hg dL_law_282 (by decide) ?_
    refine A_iaddN hg dL_law_283 ?_
    refine A_sld hg hX (i + 1) (by omega) dL_law_284 ?_
    refine A_aload_n hg dL_law_285 rfl rfl ?_
    refine A_iload hg dL_law_286 rfl ?_
    refine A_iconst (v := (nI (2))) hg dL_law_288 (by decide) ?_
    refine A_iaddN hg dL_law_289 ?_
    refine A_sld hg hX (i + 2) (by omega) dL_law_290 ?_
    refine A_aload_n hg dL_law_291 rfl rfl ?_
    refine A_iload hg dL_law_292 rfl ?_
    refine A_iconst (v := (nI (3))) hg dL_law_294 (by decide) ?_
    refine A_iaddN hg dL_law_295 ?_
    refine A_sld hg hX (i + 3) (by omega) dL_law_296 ?_
    refine A_aload_n hg dL_law_297 rfl rfl ?_
    refine A_iload hg dL_law_298 rfl ?_
    refine A_iconst (v := (nI (4))) hg dL_law_300 (by decide) ?_
    refine A_iaddN hg dL_law_301 ?_
    refine A_sld hg hX (i + 4) (by omega) dL_law_302 ?_
    refine A_aload_n hg dL_law_303 rfl rfl ?_
    refine A_iload hg dL_law_304 rfl ?_
    refine A_iconst (v := (nI (5))) hg dL_law_306 (by decide) ?_
    refine A_iaddN hg dL_law_307 ?_
    refine A_sld hg hX (i + 5) (by omega) dL_law_308 ?_
    refine A_hV (kc2 := kc + 0) (ks2 := ks + 0) (As := [.int (xs (i + 1)), .int (xs (i + 2)), .int (xs (i + 3)), .int (xs (i + 4)), .int (xs (i + 5))]) (rest := [.int (nI (il + 20))]) hg lk_RL_146 in_X11_appendInput se_X11_appendInput rfl dL_law_309 ⟨by decide, by decide⟩ rfl rfl (hfK 0 0 (by decide) (by decide)) hc_59 (by omega) rfl rfl (Nat.le_of_ble_eq_true rfl) (c_X11_appendInput G false 296 σ_5 F f il (xs (i + 1)) (xs (i + 2)) (xs (i + 3)) (xs (i + 4)) (xs (i + 5)) hc_59 hc_72 (by omega) hF21 (by omega)) ?_
    rintro _ σ_81 (⟨rfl, Mhfull, hc_76, hf_77⟩ | ⟨rfl, Mhroom, hc_78, hc_79, hf_80⟩)
    · skip
      refine (?_ : AJ G K Q (kc + 0) (ks + 0) false 296 312 [some (.ref bS), some (.ref (q_h G + 0)), some (.ref (q_h G + 279)), some (.ref (q_h G + 294)), some (.ref (q_h G + 295)), some (.int (nI (i))), none, none, none] [.int (q_d (0)), .int (nI (il + 20))] σ_81)
      have hc_76 : σ_81 279 = o11 G (upd F 7 (nI (0))) := hc_76
      have hc_82 : σ_81 23 = o5 G (23) (nI (lo)) := (hf_77 23 (by decide)).trans hc_55
      have hc_83 : σ_81 24 = q_an G 256 o := (hf_77 24 (by decide)).trans hc_56
      have hc_84 : σ_81 224 = q_rn G 2 2 (fun j => some (243 + 18 * j)) := (hf_77 224 (by decide)).trans hc_57
      have hc_85 : σ_81 225 = q_bn G 2 kp := (hf_77 225 (by decide)).trans hc_58
      have hc_86 : σ_81 280 = q_an G 265 g := (hf_77 280 (by decide)).trans hc_60
      have hc_87 : σ_81 281 = q_an G 265 wk := (hf_77 281 (by decide)).trans hc_61
      have hc_88 : σ_81 282 = q_an G 265 as := (hf_77 282 (by decide)).trans hc_62
      have hc_89 : σ_81 283 = q_an G 530 sh := (hf_77 283 (by decide)).trans hc_63
      have hc_90 : σ_81 284 = q_an G 2120 a := (hf_77 284 (by decide)).trans hc_64
      have hc_91 : σ_81 285 = q_bn G 1681 fb := (hf_77 285 (by decide)).trans hc_65
      have hc_92 : σ_81 286 = q_an G 1681 nv := (hf_77 286 (by decide)).trans hc_66
      have hc_93 : σ_81 287 = q_an G 1681 ns := (hf_77 287 (by decide)).trans hc_67
      have hc_94 : σ_81 288 = q_an G 2000 mk := (hf_77 288 (by decide)).trans hc_68
      have hc_95 : σ_81 289 = q_an G 6724 va := (hf_77 289 (by decide)).trans hc_69
      have hc_96 : σ_81 290 = q_an G 6724 sp := (hf_77 290 (by decide)).trans hc_70
      have hc_97 : σ_81 291 = q_an G 80 lp := (hf_77 291 (by decide)).trans hc_71
      have hc_98 : σ_81 292 = q_an G 600 f := (hf_77 292 (by decide)).trans hc_72
      have hc_99 : σ_81 293 = q_an G 300 ou := (hf_77 293 (by decide)).trans hc_73
      have hc_100 : σ_81 294 = q_ln G 1 oL := (hf_77 294 (by decide)).trans hc_74
      have hc_101 : σ_81 295 = q_dn G 1 oD := (hf_77 295 (by decide)).trans hc_75
      have hc_102 : σ_81 0 = o10 G (nI (il + 20)) (z2) (z3) := (hf_77 0 (by decide)).trans hc_2
      have hc_103 : σ_81 1 = q_an G 600 (s_apI f il (xs (i + 1)) (xs (i + 2)) (xs (i + 3)) (xs (i + 4)) (xs (i + 5))) := (hf_77 1 (by decide)).trans hc_3
      exact (Mhfull Chroom).elim
    · skip
      refine (?_ : AJ G K Q (kc + 0) (ks + 0) false 296 312 [some (.ref bS), some (.ref (q_h G + 0)), some (.ref (q_h G + 279)), some (.ref (q_h G + 294)), some (.ref (q_h G + 295)), some (.int (nI (i))), none, none, none] [.int (nI (il + 20)), .int (nI (il + 20))] σ_81)
      have hc_78 : σ_81 279 = o11 G (upd (upd F 7 (nI (0))) 21 (nI (il + 20))) := hc_78
      have hc_104 : σ_81 23 = o5 G (23) (nI (lo)) := (hf_80 23 (by decide)).trans hc_55
      have hc_105 : σ_81 24 = q_an G 256 o := (hf_80 24 (by decide)).trans hc_56
      have hc_106 : σ_81 224 = q_rn G 2 2 (fun j => some (243 + 18 * j)) := (hf_80 224 (by decide)).trans hc_57
      have hc_107 : σ_81 225 = q_bn G 2 kp := (hf_80 225 (by decide)).trans hc_58
      have hc_108 : σ_81 280 = q_an G 265 g := (hf_80 280 (by decide)).trans hc_60
      have hc_109 : σ_81 281 = q_an G 265 wk := (hf_80 281 (by decide)).trans hc_61
      have hc_110 : σ_81 282 = q_an G 265 as := (hf_80 282 (by decide)).trans hc_62
      have hc_111 : σ_81 283 = q_an G 530 sh := (hf_80 283 (by decide)).trans hc_63
      have hc_112 : σ_81 284 = q_an G 2120 a := (hf_80 284 (by decide)).trans hc_64
      have hc_113 : σ_81 285 = q_bn G 1681 fb := (hf_80 285 (by decide)).trans hc_65
      have hc_114 : σ_81 286 = q_an G 1681 nv := (hf_80 286 (by decide)).trans hc_66
      have hc_115 : σ_81 287 = q_an G 1681 ns := (hf_80 287 (by decide)).trans hc_67
      have hc_116 : σ_81 288 = q_an G 2000 mk := (hf_80 288 (by decide)).trans hc_68
      have hc_117 : σ_81 289 = q_an G 6724 va := (hf_80 289 (by decide)).trans hc_69
      have hc_118 : σ_81 290 = q_an G 6724 sp := (hf_80 290 (by decide)).trans hc_70
      have hc_119 : σ_81 291 = q_an G 80 lp := (hf_80 291 (by decide)).trans hc_71
      have hc_120 : σ_81 293 = q_an G 300 ou := (hf_80 293 (by decide)).trans hc_73
      have hc_121 : σ_81 294 = q_ln G 1 oL := (hf_80 294 (by decide)).trans hc_74
      have hc_122 : σ_81 295 = q_dn G 1 oD := (hf_80 295 (by decide)).trans hc_75
      have hc_123 : σ_81 0 = o10 G (nI (il + 20)) (z2) (z3) := (hf_80 0 (by decide)).trans hc_2
      have hc_124 : σ_81 1 = q_an G 600 (s_apI f il (xs (i + 1)) (xs (i + 2)) (xs (i + 3)) (xs (i + 4)) (xs (i + 5))) := (hf_80 1 (by decide)).trans hc_3
      refine A_icmp_eq (tgt := 3062) hg dL_law_312 (by decide) (fun _ => ?_) (fun z9 => absurd rfl z9)
      refine A_eq (ls2 := [some (.ref bS), some (.ref (q_h G + 0)), some (.ref (q_h G + 279)), some (.ref (q_h G + 294)), some (.ref (q_h G + 295)), some (.int (nI (i))), none, none, none]) (st2 := []) (pc2 := 0) rfl rfl ?_
      refine A_wide (kc2 := kc + 8) (ks2 := ks + 48) (by omega) (by omega) ?_
      exact hnxt _ (iv_mk (il + 20) z2 z3 (s_apI f il (xs (i + 1)) (xs (i + 2)) (xs (i + 3)) (xs (i + 4)) (xs (i + 5))) lo o g nx m ps kp sn (upd (upd F 7 (nI (0))) 21 (nI (il + 20))) wk as sh a fb nv ns mk va sp lp mc z ss ou oL oD hc_123 hc_124 hc_104 hc_105 hc_106 hc_107 hc_78 hc_108 hc_109 hc_110 hc_111 hc_112 hc_113 hc_114 hc_115 hc_116 hc_117 hc_118 hc_119 hc_79 hc_120 hc_121 hc_122 (x_lj_e (fun i _ _ => ((hf_80 i (by omega)).trans (hf_4 i (by omega)))) hL) (x_gm_e (fun i _ _ => ((hf_80 i (by omega)).trans (hf_4 i (by omega)))) hG) (x_mx_e (fun i _ _ => ((hf_80 i (by omega)).trans (hf_4 i (by omega)))) hM) (x_hi_e (fun i _ _ => ((hf_80 i (by omega)).trans (hf_4 i (by omega)))) hHi) (x_oj_e (fun i _ _ => ((hf_80 i (by omega)).trans (hf_4 i (by omega)))) hO) (x_pj_e (fun i _ _ => ((hf_80 i (by omega)).trans (hf_4 i (by omega)))) hT) (iv_hn (fun i _ _ => ((hf_80 i (by omega)).trans (hf_4 i (by omega)))) hH) (iv_Sn (fun i _ _ => ((hf_80 i (by omega)).trans (hf_4 i (by omega)))) hSn) (iv_Kp (fun i _ _ => ((hf_80 i (by omega)).trans (hf_4 i (by omega)))) hKp) (by omega) (iv_apI hfb) (by omega) hou hgd hps hk1 hkss hss hsn hF5 hF6 hF12 hF16 rfl hF22 hF23 hF33 (by omega) hmk hTI hlo)
set_option maxRecDepth 100000 in
set_option maxHeartbeats 4000000 in
theorem law_c1 (G : GL) (K : KC) (Q : State → Prop) (hh : List (Nat × Nat × Nat × Nat)) (hg : Gd G K RL code 9 ret room_1 hh) (bS L : Nat) (xs : Nat → Int32) (hX : q_scr G K bS L xs) (i kc ks J : Nat) (hi : i + 5 < L) (hL31 : L < 2 ^ 31) (hkc : kc + 8 ≤ 601024) (hks : ks + 48 ≤ 7293034) (σ : Nat → va_E) (hI : iv G σ J) (hJ : J < 512) (hfd : q_fdn) (hdd : q_ddn) (hf2 : q_f2n) (hds : q_dcs) (hnxt : ∀ σ9 : Nat → va_E, iv G σ9 (J + 1) → AJ G K Q (kc + 8) (ks + 48) false 296 3062 [some (.ref bS), some (.ref (q_h G + 0)), some (.ref (q_h G + 279)), some (.ref (q_h G + 294)), some (.ref (q_h G + 295)), some (.int (nI (i))), none, none, none] [] σ9) : AJ G K Q kc ks false 296 317 [some (.ref bS), some (.ref (q_h G + 0)), some (.ref (q_h G + 279)), some (.ref (q_h G + 294)), some (.ref (q_h G + 295)), some (.int (nI (i))), none, none, none] [] σ := by
  refine iv_el hI ?_
  intro il z2 z3 f lo o g nx m ps kp sn F wk as sh a fb nv ns mk va sp lp mc z ss ou oL oD
  intro hv0 hv1 hv2 hv3 hv4 hv5 hv6 hv7 hv8 hv9 hv10 hv11 hv12 hv13 hv14 hv15 hv16 hv17 hv18 hv19 hv20 hv21 hv22
  intro hL hG hM hHi hO hT hH hSn hKp
  intro hil hfb hlo2 hou hgd hps hk1 hkss hss hsn hF5 hF6 hF12 hF16 hF21 hF22 hF23 hF33 hmc hmk hTI hlo
  have hfK : ∀ a b : Nat, a ≤ 8 → b ≤ 48 → kc + a ≤ room_1.cells ∧ ks + b ≤ room_1.slots := fun a b h1 h2 => ⟨by show kc + a ≤ 601024; omega, by show ks + b ≤ 7293034; omega⟩
  have hg9 := iv_g hG
  obtain ⟨hnx8, hm8, hc78⟩ := iv_hi hHi
  have hbb := iv_byte (m := il) hfb
  have hg90 := hg9.1
  have hg96 := hg9.2.2.2.2.1
  have hnp8 := s_np_le hg9
  refine A_aload_n hg dL_law_317 rfl rfl ?_
  refine A_aload_n hg dL_law_318 rfl rfl ?_
  refine A_iload hg dL_law_319 rfl ?_
  refine A_iconst (v := (nI (1))) hg dL_law_321 (by decide) ?_
  refine A_iaddN hg dL_law_322 ?_
  refine A_sld hg hX (i + 1) (by omega) dL_law_323 ?_
  refine A_hV (kc2 := kc + 0) (ks2 := ks + 0) (As := [.int (xs (i + 1))]) (rest := []) hg lk_RL_147 in_X10_truncateInput se_X10_truncateInput rfl dL_law_324 ⟨by decide, by decide⟩ rfl rfl (hfK 0 0 (by decide) (by decide)) hv0 (by omega) rfl rfl (Nat.le_of_ble_eq_true rfl) (c_X10_truncateInput G false 296 σ z2 z3 il (xs (i + 1)) hv0 (by omega) (by omega)) ?_
  rintro _ σ_4 (⟨rfl, Chno, he_1⟩ | ⟨x1C, rfl, Chxe, Chxl, hc_2, hf_3⟩)
  · skip
    rw [he_1]
    refine (?_ : AJ G K Q (kc + 0) (ks + 0) false 296 327 [some (.ref bS), some (.ref (q_h G + 0)), some (.ref (q_h G + 279)), some (.ref (q_h G + 294)), some (.ref (q_h G + 295)), some (.int (nI (i))), none, none, none] [.int (nI (0))] σ)
    refine A_aload_n hg dL_law_327 rfl rfl ?_
    refine A_aload_n hg dL_law_328 rfl rfl ?_
    refine A_iload hg dL_law_329 rfl ?_
    refine A_iconst (v := (nI (1))) hg dL_law_331 (by decide) ?_
    refine A_iaddN hg dL_law_332 ?_
    refine A_sld hg hX (i + 1) (by omega) dL_law_333 ?_
    refine A_hV (kc2 := kc + 0) (ks2 := ks + 0) (As := [.int (xs (i + 1))]) (rest := [.int (nI (0))]) hg lk_RL_151 in_X11_truncateInput se_X11_truncateInput rfl dL_law_334 ⟨by decide, by decide⟩ rfl rfl (hfK 0 0 (by decide) (by decide)) hv6 (by omega) rfl rfl (Nat.le_of_ble_eq_true rfl) (c_X11_truncateInput G false 296 σ F il (xs (i + 1)) hv6 (by omega) hF21 (by omega)) ?_
    rintro _ σ_9 (⟨rfl, Mhno, hc_5, hf_6⟩ | ⟨x1M, rfl, Mhxe, Mhxl, hc_7, hf_8⟩)
    · skip
      refine (?_ : AJ G K Q (kc + 0) (ks + 0) false 296 337 [some (.ref bS), some (.ref (q_h G + 0)), some (.ref (q_h G + 279)), some (.ref (q_h G + 294)), some (.ref (q_h G + 295)), some (.int (nI (i))), none, none, none] [.int (nI (0)), .int (nI (0))] σ_9)
      have hc_5 : σ_9 279 = o11 G (upd F 7 (nI (0))) := hc_5
      have hc_10 : σ_9 0 = o10 G (nI (il)) (z2) (z3) := (hf_6 0 (by decide)).trans hv0
      have hc_11 : σ_9 1 = q_an G 600 f := (hf_6 1 (by decide)).trans hv1
      have hc_12 : σ_9 23 = o5 G (23) (nI (lo)) := (hf_6 23 (by decide)).trans hv2
      have hc_13 : σ_9 24 = q_an G 256 o := (hf_6 24 (by decide)).trans hv3
      have hc_14 : σ_9 224 = q_rn G 2 2 (fun j => some (243 + 18 * j)) := (hf_6 224 (by decide)).trans hv4
      have hc_15 : σ_9 225 = q_bn G 2 kp := (hf_6 225 (by decide)).trans hv5
      have hc_16 : σ_9 280 = q_an G 265 g := (hf_6 280 (by decide)).trans hv7
      have hc_17 : σ_9 281 = q_an G 265 wk := (hf_6 281 (by decide)).trans hv8
      have hc_18 : σ_9 282 = q_an G 265 as := (hf_6 282 (by decide)).trans hv9
      have hc_19 : σ_9 283 = q_an G 530 sh := (hf_6 283 (by decide)).trans hv10
      have hc_20 : σ_9 284 = q_an G 2120 a := (hf_6 284 (by decide)).trans hv11
      have hc_21 : σ_9 285 = q_bn G 1681 fb := (hf_6 285 (by decide)).trans hv12
      have hc_22 : σ_9 286 = q_an G 1681 nv := (hf_6 286 (by decide)).trans hv13
      have hc_23 : σ_9 287 = q_an G 1681 ns := (hf_6 287 (by decide)).trans hv14
      have hc_24 : σ_9 288 = q_an G 2000 mk := (hf_6 288 (by decide)).trans hv15
      have hc_25 : σ_9 289 = q_an G 6724 va := (hf_6 289 (by decide)).trans hv16
      have hc_26 : σ_9 290 = q_an G 6724 sp := (hf_6 290 (by decide)).trans hv17
      have hc_27 : σ_9 291 = q_an G 80 lp := (hf_6 291 (by decide)).trans hv18
      have hc_28 : σ_9 292 = q_an G 600 f := (hf_6 292 (by decide)).trans hv19
      have hc_29 : σ_9 293 = q_an G 300 ou := (hf_6 293 (by decide)).trans hv20
      have hc_30 : σ_9 294 = q_ln G 1 oL := (hf_6 294 (by decide)).trans hv21
      have hc_31 : σ_9 295 = q_dn G 1 oD := (hf_6 295 (by decide)).trans hv22
      refine A_icmp_eqN (tgt := 3062) hg dL_law_337 (by decide) (by decide) (by decide) (fun c337 => ?_) (fun c337 => False.elim (by omega))
      refine A_eq (ls2 := [some (.ref bS), some (.ref (q_h G + 0)), some (.ref (q_h G + 279)), some (.ref (q_h G + 294)), some (.ref (q_h G + 295)), some (.int (nI (i))), none, none, none]) (st2 := []) (pc2 := 0) rfl rfl ?_
      refine A_wide (kc2 := kc + 8) (ks2 := ks + 48) (by omega) (by omega) ?_
      exact hnxt _ (iv_mk il z2 z3 f lo o g nx m ps kp sn (upd F 7 (nI (0))) wk as sh a fb nv ns mk va sp lp mc z ss ou oL oD hc_10 hc_11 hc_12 hc_13 hc_14 hc_15 hc_5 hc_16 hc_17 hc_18 hc_19 hc_20 hc_21 hc_22 hc_23 hc_24 hc_25 hc_26 hc_27 hc_28 hc_29 hc_30 hc_31 (x_lj_e (fun i _ _ => (hf_6 i (by omega))) hL) (x_gm_e (fun i _ _ => (hf_6 i (by omega))) hG) (x_mx_e (fun i _ _ => (hf_6 i (by omega))) hM) (x_hi_e (fun i _ _ => (hf_6 i (by omega))) hHi) (x_oj_e (fun i _ _ => (hf_6 i (by omega))) hO) (x_pj_e (fun i _ _ => (hf_6 i (by omega))) hT) (iv_hn (fun i _ _ => (hf_6 i (by omega))) hH) (iv_Sn (fun i _ _ => (hf_6 i (by omega))) hSn) (iv_Kp (fun i _ _ => (hf_6 i (by omega))) hKp) (by omega) hfb (by omega) hou hgd hps hk1 hkss hss hsn hF5 hF6 hF12 hF16 hF21 hF22 hF23 hF33 (by omega) hmk hTI hlo)
    · skip
      refine (?_ : AJ G K Q (kc + 0) (ks + 0) false 296 337 [some (.ref bS), some (.ref (q_h G + 0)), some (.ref (q_h G + 279)), some (.ref (q_h G + 294)), some (.ref (q_h G + 295)), some (.int (nI (i))), none, none, none] [.int (nI (1)), .int (nI (0))] σ_9)
      have hc_7 : σ_9 279 = o11 G (upd (upd F 7 (nI (0))) 21 (nI (x1M))) := hc_7
      have hc_32 : σ_9 0 = o10 G (nI (il)) (z2) (z3) := (hf_8 0 (by decide)).trans hv0
      have hc_33 : σ_9 1 = q_an G 600 f := (hf_8 1 (by decide)).trans hv1
      have hc_34 : σ_9 23 = o5 G (23) (nI (lo)) := (hf_8 23 (by decide)).trans hv2
      have hc_35 : σ_9 24 = q_an G 256 o := (hf_8 24 (by decide)).trans hv3
      have hc_36 : σ_9 224 = q_rn G 2 2 (fun j => some (243 + 18 * j)) := (hf_8 224 (by decide)).trans hv4
      have hc_37 : σ_9 225 = q_bn G 2 kp := (hf_8 225 (by decide)).trans hv5
      have hc_38 : σ_9 280 = q_an G 265 g := (hf_8 280 (by decide)).trans hv7
      have hc_39 : σ_9 281 = q_an G 265 wk := (hf_8 281 (by decide)).trans hv8
      have hc_40 : σ_9 282 = q_an G 265 as := (hf_8 282 (by decide)).trans hv9
      have hc_41 : σ_9 283 = q_an G 530 sh := (hf_8 283 (by decide)).trans hv10
      have hc_42 : σ_9 284 = q_an G 2120 a := (hf_8 284 (by decide)).trans hv11
      have hc_43 : σ_9 285 = q_bn G 1681 fb := (hf_8 285 (by decide)).trans hv12
      have hc_44 : σ_9 286 = q_an G 1681 nv := (hf_8 286 (by decide)).trans hv13
      have hc_45 : σ_9 287 = q_an G 1681 ns := (hf_8 287 (by decide)).trans hv14
      have hc_46 : σ_9 288 = q_an G 2000 mk := (hf_8 288 (by decide)).trans hv15
      have hc_47 : σ_9 289 = q_an G 6724 va := (hf_8 289 (by decide)).trans hv16
      have hc_48 : σ_9 290 = q_an G 6724 sp := (hf_8 290 (by decide)).trans hv17
      have hc_49 : σ_9 291 = q_an G 80 lp := (hf_8 291 (by decide)).trans hv18
      have hc_50 : σ_9 292 = q_an G 600 f := (hf_8 292 (by decide)).trans hv19
      have hc_51 : σ_9 293 = q_an G 300 ou := (hf_8 293 (by decide)).trans hv20
      have hc_52 : σ_9 294 = q_ln G 1 oL := (hf_8 294 (by decide)).trans hv21
      have hc_53 : σ_9 295 = q_dn G 1 oD := (hf_8 295 (by decide)).trans hv22
      exact (Chno x1M (by omega) (by omega) Mhxe).elim
  · skip
    refine (?_ : AJ G K Q (kc + 0) (ks + 0) false 296 327 [some (.ref bS), some (.ref (q_h G + 0)), some (.ref (q_h G + 279)), some (.ref (q_h G + 294)), some (.ref (q_h G + 295)), some (.int (nI (i))), none, none, none] [.int (nI (1))] σ_4)
    have hc_54 : σ_4 1 = q_an G 600 f := (hf_3 1 (by decide)).trans hv1
    have hc_55 : σ_4 23 = o5 G (23) (nI (lo)) := (hf_3 23 (by decide)).trans hv2
    have hc_56 : σ_4 24 = q_an G 256 o := (hf_3 24 (by decide)).trans hv3
    have hc_57 : σ_4 224 = q_rn G 2 2 (fun j => some (243 + 18 * j)) := (hf_3 224 (by decide)).trans hv4
    have hc_58 : σ_4 225 = q_bn G 2 kp := (hf_3 225 (by decide)).trans hv5
    have hc_59 : σ_4 279 = o11 G F := (hf_3 279 (by decide)).trans hv6
    have hc_60 : σ_4 280 = q_an G 265 g := (hf_3 280 (by decide)).trans hv7
    have hc_61 : σ_4 281 = q_an G 265 wk := (hf_3 281 (by decide)).trans hv8
    have hc_62 : σ_4 282 = q_an G 265 as := (hf_3 282 (by decide)).trans hv9
    have hc_63 : σ_4 283 = q_an G 530 sh := (hf_3 283 (by decide)).trans hv10
    have hc_64 : σ_4 284 = q_an G 2120 a := (hf_3 284 (by decide)).trans hv11
    have hc_65 : σ_4 285 = q_bn G 1681 fb := (hf_3 285 (by decide)).trans hv12
    have hc_66 : σ_4 286 = q_an G 1681 nv := (hf_3 286 (by decide)).trans hv13
    have hc_67 : σ_4 287 = q_an G 1681 ns := (hf_3 287 (by decide)).trans hv14
    have hc_68 : σ_4 288 = q_an G 2000 mk := (hf_3 288 (by decide)).trans hv15
    have hc_69 : σ_4 289 = q_an G 6724 va := (hf_3 289 (by decide)).trans hv16
    have hc_70 : σ_4 290 = q_an G 6724 sp := (hf_3 290 (by decide)).trans hv17
    have hc_71 : σ_4 291 = q_an G 80 lp := (hf_3 291 (by decide)).trans hv18
    have hc_72 : σ_4 292 = q_an G 600 f := (hf_3 292 (by decide)).trans hv19
    have hc_73 : σ_4 293 = q_an G 300 ou := (hf_3 293 (by decide)).trans hv20
    have hc_74 : σ_4 294 = q_ln G 1 oL := (hf_3 294 (by decide)).trans hv21
    have hc_75 : σ_4 295 = q_dn G 1 oD := (hf_3 295 (by decide)).trans hv22
    refine A_aload_n hg dL_law_327 rfl rfl ?_
    refine A_aload_n hg dL_law_328 rfl rfl ?_
    refine A_iload hg dL_law_329 rfl ?_
    refine A_iconst (v := (nI (1))) hg dL_law_331 (by decide) ?_
    refine A_iaddN hg dL_law_332 ?_
    refine A_sld hg hX (i + 1) (by omega) dL_law_333 ?_
    refine A_hV (kc2 := kc + 0) (ks2 := ks + 0) (As := [.int (xs (i + 1))]) (rest := [.int (nI (1))]) hg lk_RL_151 in_X11_truncateInput se_X11_truncateInput rfl dL_law_334 ⟨by decide, by decide⟩ rfl rfl (hfK 0 0 (by decide) (by decide)) hc_59 (by omega) rfl rfl (Nat.le_of_ble_eq_true rfl) (c_X11_truncateInput G false 296 σ_4 F il (xs (i + 1)) hc_59 (by omega) hF21 (by omega)) ?_
    rintro _ σ_80 (⟨rfl, Mhno, hc_76, hf_77⟩ | ⟨x1M, rfl, Mhxe, Mhxl, hc_78, hf_79⟩)
    · skip
      refine (?_ : AJ G K Q (kc + 0) (ks + 0) false 296 337 [some (.ref bS), some (.ref (q_h G + 0)), some (.ref (q_h G + 279)), some (.ref (q_h G + 294)), some (.ref (q_h G + 295)), some (.int (nI (i))), none, none, none] [.int (nI (0)), .int (nI (1))] σ_80)
      have hc_76 : σ_80 279 = o11 G (upd F 7 (nI (0))) := hc_76
      have hc_81 : σ_80 1 = q_an G 600 f := (hf_77 1 (by decide)).trans hc_54
      have hc_82 : σ_80 23 = o5 G (23) (nI (lo)) := (hf_77 23 (by decide)).trans hc_55
      have hc_83 : σ_80 24 = q_an G 256 o := (hf_77 24 (by decide)).trans hc_56
      have hc_84 : σ_80 224 = q_rn G 2 2 (fun j => some (243 + 18 * j)) := (hf_77 224 (by decide)).trans hc_57
      have hc_85 : σ_80 225 = q_bn G 2 kp := (hf_77 225 (by decide)).trans hc_58
      have hc_86 : σ_80 280 = q_an G 265 g := (hf_77 280 (by decide)).trans hc_60
      have hc_87 : σ_80 281 = q_an G 265 wk := (hf_77 281 (by decide)).trans hc_61
      have hc_88 : σ_80 282 = q_an G 265 as := (hf_77 282 (by decide)).trans hc_62
      have hc_89 : σ_80 283 = q_an G 530 sh := (hf_77 283 (by decide)).trans hc_63
      have hc_90 : σ_80 284 = q_an G 2120 a := (hf_77 284 (by decide)).trans hc_64
      have hc_91 : σ_80 285 = q_bn G 1681 fb := (hf_77 285 (by decide)).trans hc_65
      have hc_92 : σ_80 286 = q_an G 1681 nv := (hf_77 286 (by decide)).trans hc_66
      have hc_93 : σ_80 287 = q_an G 1681 ns := (hf_77 287 (by decide)).trans hc_67
      have hc_94 : σ_80 288 = q_an G 2000 mk := (hf_77 288 (by decide)).trans hc_68
      have hc_95 : σ_80 289 = q_an G 6724 va := (hf_77 289 (by decide)).trans hc_69
      have hc_96 : σ_80 290 = q_an G 6724 sp := (hf_77 290 (by decide)).trans hc_70
      have hc_97 : σ_80 291 = q_an G 80 lp := (hf_77 291 (by decide)).trans hc_71
      have hc_98 : σ_80 292 = q_an G 600 f := (hf_77 292 (by decide)).trans hc_72
      have hc_99 : σ_80 293 = q_an G 300 ou := (hf_77 293 (by decide)).trans hc_73
      have hc_100 : σ_80 294 = q_ln G 1 oL := (hf_77 294 (by decide)).trans hc_74
      have hc_101 : σ_80 295 = q_dn G 1 oD := (hf_77 295 (by decide)).trans hc_75
      have hc_102 : σ_80 0 = o10 G (nI (x1C)) (z2) (z3) := (hf_77 0 (by decide)).trans hc_2
      exact (Mhno x1C (by omega) (by omega) Chxe).elim
    · skip
      refine (?_ : AJ G K Q (kc + 0) (ks + 0) false 296 337 [some (.ref bS), some (.ref (q_h G + 0)), some (.ref (q_h G + 279)), some (.ref (q_h G + 294)), some (.ref (q_h G + 295)), some (.int (nI (i))), none, none, none] [.int (nI (1)), .int (nI (1))] σ_80)
      have hc_78 : σ_80 279 = o11 G (upd (upd F 7 (nI (0))) 21 (nI (x1M))) := hc_78
      have hc_103 : σ_80 1 = q_an G 600 f := (hf_79 1 (by decide)).trans hc_54
      have hc_104 : σ_80 23 = o5 G (23) (nI (lo)) := (hf_79 23 (by decide)).trans hc_55
      have hc_105 : σ_80 24 = q_an G 256 o := (hf_79 24 (by decide)).trans hc_56
      have hc_106 : σ_80 224 = q_rn G 2 2 (fun j => some (243 + 18 * j)) := (hf_79 224 (by decide)).trans hc_57
      have hc_107 : σ_80 225 = q_bn G 2 kp := (hf_79 225 (by decide)).trans hc_58
      have hc_108 : σ_80 280 = q_an G 265 g := (hf_79 280 (by decide)).trans hc_60
      have hc_109 : σ_80 281 = q_an G 265 wk := (hf_79 281 (by decide)).trans hc_61
      have hc_110 : σ_80 282 = q_an G 265 as := (hf_79 282 (by decide)).trans hc_62
      have hc_111 : σ_80 283 = q_an G 530 sh := (hf_79 283 (by decide)).trans hc_63
      have hc_112 : σ_80 284 = q_an G 2120 a := (hf_79 284 (by decide)).trans hc_64
      have hc_113 : σ_80 285 = q_bn G 1681 fb := (hf_79 285 (by decide)).trans hc_65
      have hc_114 : σ_80 286 = q_an G 1681 nv := (hf_79 286 (by decide)).trans hc_66
      have hc_115 : σ_80 287 = q_an G 1681 ns := (hf_79 287 (by decide)).trans hc_67
      have hc_116 : σ_80 288 = q_an G 2000 mk := (hf_79 288 (by decide)).trans hc_68
      have hc_117 : σ_80 289 = q_an G 6724 va := (hf_79 289 (by decide)).trans hc_69
      have hc_118 : σ_80 290 = q_an G 6724 sp := (hf_79 290 (by decide)).trans hc_70
      have hc_119 : σ_80 291 = q_an G 80 lp := (hf_79 291 (by decide)).trans hc_71
      have hc_120 : σ_80 292 = q_an G 600 f := (hf_79 292 (by decide)).trans hc_72
      have hc_121 : σ_80 293 = q_an G 300 ou := (hf_79 293 (by decide)).trans hc_73
      have hc_122 : σ_80 294 = q_ln G 1 oL := (hf_79 294 (by decide)).trans hc_74
      have hc_123 : σ_80 295 = q_dn G 1 oD := (hf_79 295 (by decide)).trans hc_75
      have hc_124 : σ_80 0 = o10 G (nI (x1C)) (z2) (z3) := (hf_79 0 (by decide)).trans hc_2
      have e_x : x1C = x1M := q_nI_inj (by omega) (by omega) (Chxe.symm.trans Mhxe)
      subst e_x
      refine A_icmp_eqN (tgt := 3062) hg dL_law_337 (by decide) (by decide) (by decide) (fun c337 => ?_) (fun c337 => False.elim (by omega))
      refine A_eq (ls2 := [some (.ref bS), some (.ref (q_h G + 0)), some (.ref (q_h G + 279)), some (.ref (q_h G + 294)), some (.ref (q_h G + 295)), some (.int (nI (i))), none, none, none]) (st2 := []) (pc2 := 0) rfl rfl ?_
      refine A_wide (kc2 := kc + 8) (ks2 := ks + 48) (by omega) (by omega) ?_
      exact hnxt _ (iv_mk x1C z2 z3 f lo o g nx m ps kp sn (upd (upd F 7 (nI (0))) 21 (nI (x1C))) wk as sh a fb nv ns mk va sp lp mc z ss ou oL oD hc_124 hc_103 hc_104 hc_105 hc_106 hc_107 hc_78 hc_108 hc_109 hc_110 hc_111 hc_112 hc_113 hc_114 hc_115 hc_116 hc_117 hc_118 hc_119 hc_120 hc_121 hc_122 hc_123 (x_lj_e (fun i _ _ => ((hf_79 i (by omega)).trans (hf_3 i (by omega)))) hL) (x_gm_e (fun i _ _ => ((hf_79 i (by omega)).trans (hf_3 i (by omega)))) hG) (x_mx_e (fun i _ _ => ((hf_79 i (by omega)).trans (hf_3 i (by omega)))) hM) (x_hi_e (fun i _ _ => ((hf_79 i (by omega)).trans (hf_3 i (by omega)))) hHi) (x_oj_e (fun i _ _ => ((hf_79 i (by omega)).trans (hf_3 i (by omega)))) hO) (x_pj_e (fun i _ _ => ((hf_79 i (by omega)).trans (hf_3 i (by omega)))) hT) (iv_hn (fun i _ _ => ((hf_79 i (by omega)).trans (hf_3 i (by omega)))) hH) (iv_Sn (fun i _ _ => ((hf_79 i (by omega)).trans (hf_3 i (by omega)))) hSn) (iv_Kp (fun i _ _ => ((hf_79 i (by omega)).trans (hf_3 i (by omega)))) hKp) (by omega) hfb (by omega) hou hgd hps hk1 hkss hss hsn hF5 hF6 hF12 hF16 rfl hF22 hF23 hF33 (by omega) hmk hTI hlo)
set_option maxRecDepth 100000 in
set_option maxHeartbeats 4000000 in
theorem law_c2 (G : GL) (K : KC) (Q : State → Prop) (hh : List (Nat × Nat × Nat × Nat)) (hg : Gd G K RL code 9 ret room_1 hh) (bS L : Nat) (xs : Nat → Int32) (hX : q_scr G K bS L xs) (i kc ks J : Nat) (hi : i + 5 < L) (hL31 : L < 2 ^ 31) (hkc : kc + 8 ≤ 601024) (hks : ks + 48 ≤ 7293034) (σ : Nat → va_E) (hI : iv G σ J) (hJ : J < 512) (hfd : q_fdn) (hdd : q_ddn) (hf2 : q_f2n) (hds : q_dcs) (hnxt : ∀ σ9 : Nat → va_E, iv G σ9 (J + 1) → AJ G K Q (kc + 8) (ks + 48) false 296 3062 [some (.ref bS), some (.ref (q_h G + 0)), some (.ref (q_h G + 279)), some (.ref (q_h G + 294)), some (.ref (q_h G + 295)), some (.int (nI (i))), none, none, none] [] σ9) : AJ G K Q kc ks false 296 342 [some (.ref bS), some (.ref (q_h G + 0)), some (.ref (q_h G + 279)), some (.ref (q_h G + 294)), some (.ref (q_h G + 295)), some (.int (nI (i))), none, none, none] [] σ := by
  refine iv_el hI ?_
  intro il z2 z3 f lo o g nx m ps kp sn F wk as sh a fb nv ns mk va sp lp mc z ss ou oL oD
  intro hv0 hv1 hv2 hv3 hv4 hv5 hv6 hv7 hv8 hv9 hv10 hv11 hv12 hv13 hv14 hv15 hv16 hv17 hv18 hv19 hv20 hv21 hv22
  intro hL hG hM hHi hO hT hH hSn hKp
  intro hil hfb hlo2 hou hgd hps hk1 hkss hss hsn hF5 hF6 hF12 hF16 hF21 hF22 hF23 hF33 hmc hmk hTI hlo
  have hfK : ∀ a b : Nat, a ≤ 8 → b ≤ 48 → kc + a ≤ room_1.cells ∧ ks + b ≤ room_1.slots := fun a b h1 h2 => ⟨by show kc + a ≤ 601024; omega, by show ks + b ≤ 7293034; omega⟩
  have hg9 := iv_g hG
  obtain ⟨hnx8, hm8, hc78⟩ := iv_hi hHi
  have hbb := iv_byte (m := il) hfb
  have hg90 := hg9.1
  have hg96 := hg9.2.2.2.2.1
  have hnp8 := s_np_le hg9
  refine A_aload_n hg dL_law_342 rfl rfl ?_
  refine A_hV (kc2 := kc + 0) (ks2 := ks + 0) (As := []) (rest := []) hg lk_RL_152 in_X10_loadHeaps se_X10_loadHeaps rfl dL_law_343 ⟨by decide, by decide⟩ rfl rfl (hfK 0 0 (by decide) (by decide)) hv0 (by omega) rfl rfl (Nat.le_of_ble_eq_true rfl) (c_X10_loadHeaps G false 296 σ z2 z3 f il g nx m ps kp hv0 hv1 hv5 (by omega) hG hHi (by omega) hbb hL (fun c o h => x_rc_all h)) ?_
  rintro _ σ_6 (⟨cC, oC, rfl, ChR, Chc0, ChL2, hc_1, hf_2⟩ | ⟨gqC, tqC, rfl, ChR, Chinv2, ChG2, ChHi2, ChL2, hc_3, hc_4, hf_5⟩)
  · skip
    refine (?_ : AJ G K Q (kc + 0) (ks + 0) false 296 346 [some (.ref bS), some (.ref (q_h G + 0)), some (.ref (q_h G + 279)), some (.ref (q_h G + 294)), some (.ref (q_h G + 295)), some (.int (nI (i))), none, none, none] [.int (q_d (0))] σ_6)
    have hc_7 : σ_6 1 = q_an G 600 f := (hf_2 1 (by decide)).trans hv1
    have hc_8 : σ_6 23 = o5 G (23) (nI (lo)) := (hf_2 23 (by decide)).trans hv2
    have hc_9 : σ_6 24 = q_an G 256 o := (hf_2 24 (by decide)).trans hv3
    have hc_10 : σ_6 224 = q_rn G 2 2 (fun j => some (243 + 18 * j)) := (hf_2 224 (by decide)).trans hv4
    have hc_11 : σ_6 225 = q_bn G 2 kp := (hf_2 225 (by decide)).trans hv5
    have hc_12 : σ_6 279 = o11 G F := (hf_2 279 (by decide)).trans hv6
    have hc_13 : σ_6 280 = q_an G 265 g := (hf_2 280 (by decide)).trans hv7
    have hc_14 : σ_6 281 = q_an G 265 wk := (hf_2 281 (by decide)).trans hv8
    have hc_15 : σ_6 282 = q_an G 265 as := (hf_2 282 (by decide)).trans hv9
    have hc_16 : σ_6 283 = q_an G 530 sh := (hf_2 283 (by decide)).trans hv10
    have hc_17 : σ_6 284 = q_an G 2120 a := (hf_2 284 (by decide)).trans hv11
    have hc_18 : σ_6 285 = q_bn G 1681 fb := (hf_2 285 (by decide)).trans hv12
    have hc_19 : σ_6 286 = q_an G 1681 nv := (hf_2 286 (by decide)).trans hv13
    have hc_20 : σ_6 287 = q_an G 1681 ns := (hf_2 287 (by decide)).trans hv14
    have hc_21 : σ_6 288 = q_an G 2000 mk := (hf_2 288 (by decide)).trans hv15
    have hc_22 : σ_6 289 = q_an G 6724 va := (hf_2 289 (by decide)).trans hv16
    have hc_23 : σ_6 290 = q_an G 6724 sp := (hf_2 290 (by decide)).trans hv17
    have hc_24 : σ_6 291 = q_an G 80 lp := (hf_2 291 (by decide)).trans hv18
    have hc_25 : σ_6 292 = q_an G 600 f := (hf_2 292 (by decide)).trans hv19
    have hc_26 : σ_6 293 = q_an G 300 ou := (hf_2 293 (by decide)).trans hv20
    have hc_27 : σ_6 294 = q_ln G 1 oL := (hf_2 294 (by decide)).trans hv21
    have hc_28 : σ_6 295 = q_dn G 1 oD := (hf_2 295 (by decide)).trans hv22
    refine A_aload_n hg dL_law_346 rfl rfl ?_
    refine A_hV (kc2 := kc + 0) (ks2 := ks + 0) (As := []) (rest := [.int (q_d (0))]) hg lk_RL_155 in_X11_loadHeaps se_X11_loadHeaps rfl dL_law_347 ⟨by decide, by decide⟩ rfl rfl (hfK 0 0 (by decide) (by decide)) hc_12 (by omega) rfl rfl (Nat.le_of_ble_eq_true rfl) (c_X11_loadHeaps G false 296 σ_6 F g wk f il hc_12 hc_25 hc_13 hc_14 (by omega) hF21 (by omega) hbb hg9) ?_
    rintro _ σ_37 (⟨FqM, wkqM, cM, oM, rfl, MhR, Mhc0, Mhfr, Mh7, Mh21, Mh22, Mh23, hc_29, hc_30, hc_31, hf_32⟩ | ⟨FqM, wkqM, gqM, tqM, rfl, MhR, Mhfr, Mh7, Mh21, Mh22, Mh23, Mh5, Mh6, hc_33, hc_34, hc_35, hf_36⟩)
    · skip
      refine (?_ : AJ G K Q (kc + 0) (ks + 0) false 296 350 [some (.ref bS), some (.ref (q_h G + 0)), some (.ref (q_h G + 279)), some (.ref (q_h G + 294)), some (.ref (q_h G + 295)), some (.int (nI (i))), none, none, none] [.int (q_d (0)), .int (q_d (0))] σ_37)
      have hc_38 : σ_37 1 = q_an G 600 f := (hf_32 1 (by decide)).trans hc_7
      have hc_39 : σ_37 23 = o5 G (23) (nI (lo)) := (hf_32 23 (by decide)).trans hc_8
      have hc_40 : σ_37 24 = q_an G 256 o := (hf_32 24 (by decide)).trans hc_9
      have hc_41 : σ_37 224 = q_rn G 2 2 (fun j => some (243 + 18 * j)) := (hf_32 224 (by decide)).trans hc_10
      have hc_42 : σ_37 225 = q_bn G 2 kp := (hf_32 225 (by decide)).trans hc_11
      have hc_43 : σ_37 282 = q_an G 265 as := (hf_32 282 (by decide)).trans hc_15
      have hc_44 : σ_37 283 = q_an G 530 sh := (hf_32 283 (by decide)).trans hc_16
      have hc_45 : σ_37 284 = q_an G 2120 a := (hf_32 284 (by decide)).trans hc_17
      have hc_46 : σ_37 285 = q_bn G 1681 fb := (hf_32 285 (by decide)).trans hc_18
      have hc_47 : σ_37 286 = q_an G 1681 nv := (hf_32 286 (by decide)).trans hc_19
      have hc_48 : σ_37 287 = q_an G 1681 ns := (hf_32 287 (by decide)).trans hc_20
      have hc_49 : σ_37 288 = q_an G 2000 mk := (hf_32 288 (by decide)).trans hc_21
      have hc_50 : σ_37 289 = q_an G 6724 va := (hf_32 289 (by decide)).trans hc_22
      have hc_51 : σ_37 290 = q_an G 6724 sp := (hf_32 290 (by decide)).trans hc_23
      have hc_52 : σ_37 291 = q_an G 80 lp := (hf_32 291 (by decide)).trans hc_24
      have hc_53 : σ_37 292 = q_an G 600 f := (hf_32 292 (by decide)).trans hc_25
      have hc_54 : σ_37 293 = q_an G 300 ou := (hf_32 293 (by decide)).trans hc_26
      have hc_55 : σ_37 294 = q_ln G 1 oL := (hf_32 294 (by decide)).trans hc_27
      have hc_56 : σ_37 295 = q_dn G 1 oD := (hf_32 295 (by decide)).trans hc_28
      have hc_57 : σ_37 0 = o10 G (nI (0)) (nI (cC)) (nI (oC)) := (hf_32 0 (by decide)).trans hc_1
      obtain ⟨e_c, e_o⟩ := iv_inl ChR MhR
      subst e_c
      subst e_o
      refine A_icmp_eq (tgt := 3062) hg dL_law_350 (by decide) (fun _ => ?_) (fun z9 => absurd rfl z9)
      refine A_eq (ls2 := [some (.ref bS), some (.ref (q_h G + 0)), some (.ref (q_h G + 279)), some (.ref (q_h G + 294)), some (.ref (q_h G + 295)), some (.int (nI (i))), none, none, none]) (st2 := []) (pc2 := 0) rfl rfl ?_
      refine A_wide (kc2 := kc + 8) (ks2 := ks + 48) (by omega) (by omega) ?_
      exact hnxt _ (iv_mk 0 (nI (cC)) (nI (oC)) f lo o g nx m ps kp sn FqM wkqM as sh a fb nv ns mk va sp lp mc z ss ou oL oD hc_57 hc_38 hc_39 hc_40 hc_41 hc_42 hc_29 hc_30 hc_31 hc_43 hc_44 hc_45 hc_46 hc_47 hc_48 hc_49 hc_50 hc_51 hc_52 hc_53 hc_54 hc_55 hc_56 (x_lj_e (fun i _ _ => (hf_32 i (by omega))) ChL2) (x_gm_e (fun i _ _ => ((hf_32 i (by omega)).trans (hf_2 i (by omega)))) hG) (x_mx_e (fun i _ _ => ((hf_32 i (by omega)).trans (hf_2 i (by omega)))) hM) (x_hi_e (fun i _ _ => ((hf_32 i (by omega)).trans (hf_2 i (by omega)))) hHi) (x_oj_e (fun i _ _ => ((hf_32 i (by omega)).trans (hf_2 i (by omega)))) hO) (x_pj_e (fun i _ _ => ((hf_32 i (by omega)).trans (hf_2 i (by omega)))) hT) (iv_hn (fun i _ _ => ((hf_32 i (by omega)).trans (hf_2 i (by omega)))) hH) (iv_Sn (fun i _ _ => ((hf_32 i (by omega)).trans (hf_2 i (by omega)))) hSn) (iv_Kp (fun i _ _ => ((hf_32 i (by omega)).trans (hf_2 i (by omega)))) hKp) (by omega) hfb (by omega) hou hgd hps hk1 hkss hss hsn ((Mhfr 5 (by decide)).trans hF5) ((Mhfr 6 (by decide)).trans hF6) ((Mhfr 12 (by decide)).trans hF12) ((Mhfr 16 (by decide)).trans hF16) Mh21 Mh22 Mh23 ((Mhfr 33 (by decide)).trans hF33) (by omega) hmk hTI hlo)
    · skip
      refine (?_ : AJ G K Q (kc + 0) (ks + 0) false 296 350 [some (.ref bS), some (.ref (q_h G + 0)), some (.ref (q_h G + 279)), some (.ref (q_h G + 294)), some (.ref (q_h G + 295)), some (.int (nI (i))), none, none, none] [.int (nI (s_np gqM)), .int (q_d (0))] σ_37)
      have hc_58 : σ_37 1 = q_an G 600 f := (hf_36 1 (by decide)).trans hc_7
      have hc_59 : σ_37 23 = o5 G (23) (nI (lo)) := (hf_36 23 (by decide)).trans hc_8
      have hc_60 : σ_37 24 = q_an G 256 o := (hf_36 24 (by decide)).trans hc_9
      have hc_61 : σ_37 224 = q_rn G 2 2 (fun j => some (243 + 18 * j)) := (hf_36 224 (by decide)).trans hc_10
      have hc_62 : σ_37 225 = q_bn G 2 kp := (hf_36 225 (by decide)).trans hc_11
      have hc_63 : σ_37 282 = q_an G 265 as := (hf_36 282 (by decide)).trans hc_15
      have hc_64 : σ_37 283 = q_an G 530 sh := (hf_36 283 (by decide)).trans hc_16
      have hc_65 : σ_37 284 = q_an G 2120 a := (hf_36 284 (by decide)).trans hc_17
      have hc_66 : σ_37 285 = q_bn G 1681 fb := (hf_36 285 (by decide)).trans hc_18
      have hc_67 : σ_37 286 = q_an G 1681 nv := (hf_36 286 (by decide)).trans hc_19
      have hc_68 : σ_37 287 = q_an G 1681 ns := (hf_36 287 (by decide)).trans hc_20
      have hc_69 : σ_37 288 = q_an G 2000 mk := (hf_36 288 (by decide)).trans hc_21
      have hc_70 : σ_37 289 = q_an G 6724 va := (hf_36 289 (by decide)).trans hc_22
      have hc_71 : σ_37 290 = q_an G 6724 sp := (hf_36 290 (by decide)).trans hc_23
      have hc_72 : σ_37 291 = q_an G 80 lp := (hf_36 291 (by decide)).trans hc_24
      have hc_73 : σ_37 292 = q_an G 600 f := (hf_36 292 (by decide)).trans hc_25
      have hc_74 : σ_37 293 = q_an G 300 ou := (hf_36 293 (by decide)).trans hc_26
      have hc_75 : σ_37 294 = q_ln G 1 oL := (hf_36 294 (by decide)).trans hc_27
      have hc_76 : σ_37 295 = q_dn G 1 oD := (hf_36 295 (by decide)).trans hc_28
      have hc_77 : σ_37 0 = o10 G (nI (0)) (nI (cC)) (nI (oC)) := (hf_36 0 (by decide)).trans hc_1
      exact (iv_inx ChR MhR).elim
  · skip
    refine (?_ : AJ G K Q (kc + 0) (ks + 0) false 296 346 [some (.ref bS), some (.ref (q_h G + 0)), some (.ref (q_h G + 279)), some (.ref (q_h G + 294)), some (.ref (q_h G + 295)), some (.int (nI (i))), none, none, none] [.int (nI (gqC 1 + gqC 2))] σ_6)
    have hc_78 : σ_6 1 = q_an G 600 f := (hf_5 1 (by decide)).trans hv1
    have hc_79 : σ_6 23 = o5 G (23) (nI (lo)) := (hf_5 23 (by decide)).trans hv2
    have hc_80 : σ_6 24 = q_an G 256 o := (hf_5 24 (by decide)).trans hv3
    have hc_81 : σ_6 224 = q_rn G 2 2 (fun j => some (243 + 18 * j)) := (hf_5 224 (by decide)).trans hv4
    have hc_82 : σ_6 279 = o11 G F := (hf_5 279 (by decide)).trans hv6
    have hc_83 : σ_6 280 = q_an G 265 g := (hf_5 280 (by decide)).trans hv7
    have hc_84 : σ_6 281 = q_an G 265 wk := (hf_5 281 (by decide)).trans hv8
    have hc_85 : σ_6 282 = q_an G 265 as := (hf_5 282 (by decide)).trans hv9
    have hc_86 : σ_6 283 = q_an G 530 sh := (hf_5 283 (by decide)).trans hv10
    have hc_87 : σ_6 284 = q_an G 2120 a := (hf_5 284 (by decide)).trans hv11
    have hc_88 : σ_6 285 = q_bn G 1681 fb := (hf_5 285 (by decide)).trans hv12
    have hc_89 : σ_6 286 = q_an G 1681 nv := (hf_5 286 (by decide)).trans hv13
    have hc_90 : σ_6 287 = q_an G 1681 ns := (hf_5 287 (by decide)).trans hv14
    have hc_91 : σ_6 288 = q_an G 2000 mk := (hf_5 288 (by decide)).trans hv15
    have hc_92 : σ_6 289 = q_an G 6724 va := (hf_5 289 (by decide)).trans hv16
    have hc_93 : σ_6 290 = q_an G 6724 sp := (hf_5 290 (by decide)).trans hv17
    have hc_94 : σ_6 291 = q_an G 80 lp := (hf_5 291 (by decide)).trans hv18
    have hc_95 : σ_6 292 = q_an G 600 f := (hf_5 292 (by decide)).trans hv19
    have hc_96 : σ_6 293 = q_an G 300 ou := (hf_5 293 (by decide)).trans hv20
    have hc_97 : σ_6 294 = q_ln G 1 oL := (hf_5 294 (by decide)).trans hv21
    have hc_98 : σ_6 295 = q_dn G 1 oD := (hf_5 295 (by decide)).trans hv22
    refine A_aload_n hg dL_law_346 rfl rfl ?_
    refine A_hV (kc2 := kc + 0) (ks2 := ks + 0) (As := []) (rest := [.int (nI (gqC 1 + gqC 2))]) hg lk_RL_155 in_X11_loadHeaps se_X11_loadHeaps rfl dL_law_347 ⟨by decide, by decide⟩ rfl rfl (hfK 0 0 (by decide) (by decide)) hc_82 (by omega) rfl rfl (Nat.le_of_ble_eq_true rfl) (c_X11_loadHeaps G false 296 σ_6 F g wk f il hc_82 hc_95 hc_83 hc_84 (by omega) hF21 (by omega) hbb hg9) ?_
    rintro _ σ_107 (⟨FqM, wkqM, cM, oM, rfl, MhR, Mhc0, Mhfr, Mh7, Mh21, Mh22, Mh23, hc_99, hc_100, hc_101, hf_102⟩ | ⟨FqM, wkqM, gqM, tqM, rfl, MhR, Mhfr, Mh7, Mh21, Mh22, Mh23, Mh5, Mh6, hc_103, hc_104, hc_105, hf_106⟩)
    · skip
      refine (?_ : AJ G K Q (kc + 0) (ks + 0) false 296 350 [some (.ref bS), some (.ref (q_h G + 0)), some (.ref (q_h G + 279)), some (.ref (q_h G + 294)), some (.ref (q_h G + 295)), some (.int (nI (i))), none, none, none] [.int (q_d (0)), .int (nI (gqC 1 + gqC 2))] σ_107)
      have hc_108 : σ_107 1 = q_an G 600 f := (hf_102 1 (by decide)).trans hc_78
      have hc_109 : σ_107 23 = o5 G (23) (nI (lo)) := (hf_102 23 (by decide)).trans hc_79
      have hc_110 : σ_107 24 = q_an G 256 o := (hf_102 24 (by decide)).trans hc_80
      have hc_111 : σ_107 224 = q_rn G 2 2 (fun j => some (243 + 18 * j)) := (hf_102 224 (by decide)).trans hc_81
      have hc_112 : σ_107 282 = q_an G 265 as := (hf_102 282 (by decide)).trans hc_85
      have hc_113 : σ_107 283 = q_an G 530 sh := (hf_102 283 (by decide)).trans hc_86
      have hc_114 : σ_107 284 = q_an G 2120 a := (hf_102 284 (by decide)).trans hc_87
      have hc_115 : σ_107 285 = q_bn G 1681 fb := (hf_102 285 (by decide)).trans hc_88
      have hc_116 : σ_107 286 = q_an G 1681 nv := (hf_102 286 (by decide)).trans hc_89
      have hc_117 : σ_107 287 = q_an G 1681 ns := (hf_102 287 (by decide)).trans hc_90
      have hc_118 : σ_107 288 = q_an G 2000 mk := (hf_102 288 (by decide)).trans hc_91
      have hc_119 : σ_107 289 = q_an G 6724 va := (hf_102 289 (by decide)).trans hc_92
      have hc_120 : σ_107 290 = q_an G 6724 sp := (hf_102 290 (by decide)).trans hc_93
      have hc_121 : σ_107 291 = q_an G 80 lp := (hf_102 291 (by decide)).trans hc_94
      have hc_122 : σ_107 292 = q_an G 600 f := (hf_102 292 (by decide)).trans hc_95
      have hc_123 : σ_107 293 = q_an G 300 ou := (hf_102 293 (by decide)).trans hc_96
      have hc_124 : σ_107 294 = q_ln G 1 oL := (hf_102 294 (by decide)).trans hc_97
      have hc_125 : σ_107 295 = q_dn G 1 oD := (hf_102 295 (by decide)).trans hc_98
      have hc_126 : σ_107 0 = o10 G (nI (0)) (nI (0)) (q_d (0)) := (hf_102 0 (by decide)).trans hc_3
      have hc_127 : σ_107 225 = q_bn G 2 (va_up (va_up kp 0 0) 1 0) := (hf_102 225 (by decide)).trans hc_4
      exact (iv_inx MhR ChR).elim
    · skip
      refine (?_ : AJ G K Q (kc + 0) (ks + 0) false 296 350 [some (.ref bS), some (.ref (q_h G + 0)), some (.ref (q_h G + 279)), some (.ref (q_h G + 294)), some (.ref (q_h G + 295)), some (.int (nI (i))), none, none, none] [.int (nI (s_np gqM)), .int (nI (gqC 1 + gqC 2))] σ_107)
      have hc_128 : σ_107 1 = q_an G 600 f := (hf_106 1 (by decide)).trans hc_78
      have hc_129 : σ_107 23 = o5 G (23) (nI (lo)) := (hf_106 23 (by decide)).trans hc_79
      have hc_130 : σ_107 24 = q_an G 256 o := (hf_106 24 (by decide)).trans hc_80
      have hc_131 : σ_107 224 = q_rn G 2 2 (fun j => some (243 + 18 * j)) := (hf_106 224 (by decide)).trans hc_81
      have hc_132 : σ_107 282 = q_an G 265 as := (hf_106 282 (by decide)).trans hc_85
      have hc_133 : σ_107 283 = q_an G 530 sh := (hf_106 283 (by decide)).trans hc_86
      have hc_134 : σ_107 284 = q_an G 2120 a := (hf_106 284 (by decide)).trans hc_87
      have hc_135 : σ_107 285 = q_bn G 1681 fb := (hf_106 285 (by decide)).trans hc_88
      have hc_136 : σ_107 286 = q_an G 1681 nv := (hf_106 286 (by decide)).trans hc_89
      have hc_137 : σ_107 287 = q_an G 1681 ns := (hf_106 287 (by decide)).trans hc_90
      have hc_138 : σ_107 288 = q_an G 2000 mk := (hf_106 288 (by decide)).trans hc_91
      have hc_139 : σ_107 289 = q_an G 6724 va := (hf_106 289 (by decide)).trans hc_92
      have hc_140 : σ_107 290 = q_an G 6724 sp := (hf_106 290 (by decide)).trans hc_93
      have hc_141 : σ_107 291 = q_an G 80 lp := (hf_106 291 (by decide)).trans hc_94
      have hc_142 : σ_107 292 = q_an G 600 f := (hf_106 292 (by decide)).trans hc_95
      have hc_143 : σ_107 293 = q_an G 300 ou := (hf_106 293 (by decide)).trans hc_96
      have hc_144 : σ_107 294 = q_ln G 1 oL := (hf_106 294 (by decide)).trans hc_97
      have hc_145 : σ_107 295 = q_dn G 1 oD := (hf_106 295 (by decide)).trans hc_98
      have hc_146 : σ_107 0 = o10 G (nI (0)) (nI (0)) (q_d (0)) := (hf_106 0 (by decide)).trans hc_3
      have hc_147 : σ_107 225 = q_bn G 2 (va_up (va_up kp 0 0) 1 0) := (hf_106 225 (by decide)).trans hc_4
      have e_g := iv_inr ChR MhR
      subst e_g
      refine A_canon gqC hc_104 (fun _ _ => rfl) (fun σ_148 hc_149 hf_150 => ?_)
      have hc_151 : σ_148 1 = q_an G 600 f := (hf_150 1 (by decide)).trans hc_128
      have hc_152 : σ_148 23 = o5 G (23) (nI (lo)) := (hf_150 23 (by decide)).trans hc_129
      have hc_153 : σ_148 24 = q_an G 256 o := (hf_150 24 (by decide)).trans hc_130
      have hc_154 : σ_148 224 = q_rn G 2 2 (fun j => some (243 + 18 * j)) := (hf_150 224 (by decide)).trans hc_131
      have hc_155 : σ_148 282 = q_an G 265 as := (hf_150 282 (by decide)).trans hc_132
      have hc_156 : σ_148 283 = q_an G 530 sh := (hf_150 283 (by decide)).trans hc_133
      have hc_157 : σ_148 284 = q_an G 2120 a := (hf_150 284 (by decide)).trans hc_134
      have hc_158 : σ_148 285 = q_bn G 1681 fb := (hf_150 285 (by decide)).trans hc_135
      have hc_159 : σ_148 286 = q_an G 1681 nv := (hf_150 286 (by decide)).trans hc_136
      have hc_160 : σ_148 287 = q_an G 1681 ns := (hf_150 287 (by decide)).trans hc_137
      have hc_161 : σ_148 288 = q_an G 2000 mk := (hf_150 288 (by decide)).trans hc_138
      have hc_162 : σ_148 289 = q_an G 6724 va := (hf_150 289 (by decide)).trans hc_139
      have hc_163 : σ_148 290 = q_an G 6724 sp := (hf_150 290 (by decide)).trans hc_140
      have hc_164 : σ_148 291 = q_an G 80 lp := (hf_150 291 (by decide)).trans hc_141
      have hc_165 : σ_148 292 = q_an G 600 f := (hf_150 292 (by decide)).trans hc_142
      have hc_166 : σ_148 293 = q_an G 300 ou := (hf_150 293 (by decide)).trans hc_143
      have hc_167 : σ_148 294 = q_ln G 1 oL := (hf_150 294 (by decide)).trans hc_144
      have hc_168 : σ_148 295 = q_dn G 1 oD := (hf_150 295 (by decide)).trans hc_145
      have hc_169 : σ_148 0 = o10 G (nI (0)) (nI (0)) (q_d (0)) := (hf_150 0 (by decide)).trans hc_146
      have hc_170 : σ_148 225 = q_bn G 2 (va_up (va_up kp 0 0) 1 0) := (hf_150 225 (by decide)).trans hc_147
      have hc_171 : σ_148 279 = o11 G FqM := (hf_150 279 (by decide)).trans hc_103
      have hc_172 : σ_148 281 = q_an G 265 wkqM := (hf_150 281 (by decide)).trans hc_105
      refine A_icmp_eq (tgt := 3062) hg dL_law_350 (by decide) (fun _ => ?_) (fun z9 => absurd rfl z9)
      refine A_eq (ls2 := [some (.ref bS), some (.ref (q_h G + 0)), some (.ref (q_h G + 279)), some (.ref (q_h G + 294)), some (.ref (q_h G + 295)), some (.int (nI (i))), none, none, none]) (st2 := []) (pc2 := 0) rfl rfl ?_
      refine A_wide (kc2 := kc + 8) (ks2 := ks + 48) (by omega) (by omega) ?_
      exact hnxt _ (iv_mk 0 (nI (0)) (q_d (0)) f lo o gqC nx 0 ps (va_up (va_up kp 0 0) 1 0) sn FqM wkqM as sh a fb nv ns mk va sp lp mc z 0 ou oL oD hc_169 hc_151 hc_152 hc_153 hc_154 hc_170 hc_171 hc_149 hc_172 hc_155 hc_156 hc_157 hc_158 hc_159 hc_160 hc_161 hc_162 hc_163 hc_164 hc_165 hc_166 hc_167 hc_168 (x_lj_e (fun i _ _ => ((hf_150 i (by omega)).trans (hf_106 i (by omega)))) ChL2) (x_gm_e (fun i _ _ => ((hf_150 i (by omega)).trans (hf_106 i (by omega)))) ChG2) (x_mx_e (fun i _ _ => ((hf_150 i (by omega)).trans ((hf_106 i (by omega)).trans (hf_5 i (by omega))))) hM) (x_hi_e (fun i _ _ => ((hf_150 i (by omega)).trans (hf_106 i (by omega)))) ChHi2) (x_oj_e (fun i _ _ => ((hf_150 i (by omega)).trans ((hf_106 i (by omega)).trans (hf_5 i (by omega))))) hO) (x_pj_e (fun i _ _ => ((hf_150 i (by omega)).trans ((hf_106 i (by omega)).trans (hf_5 i (by omega))))) hT) (iv_hn (fun i _ _ => ((hf_150 i (by omega)).trans ((hf_106 i (by omega)).trans (hf_5 i (by omega))))) hH) (iv_Sn (fun i _ _ => ((hf_150 i (by omega)).trans ((hf_106 i (by omega)).trans (hf_5 i (by omega))))) hSn) (fun j hj hk => absurd ((iv_kp0 hj).symm.trans hk) (by decide)) (by omega) hfb (by omega) hou (x_bd_all ChR) (fun q hq => absurd hq (Nat.not_lt_zero q)) (fun j hj => by rw [iv_kp0 hj]; decide) (fun j hj => by rw [iv_kp0 hj, Nat.zero_testBit]; decide) (by decide) (fun j hj hk => absurd ((iv_kp0 hj).symm.trans hk) (by decide)) Mh5 Mh6 ((Mhfr 12 (by decide)).trans hF12) ((Mhfr 16 (by decide)).trans hF16) Mh21 Mh22 Mh23 ((Mhfr 33 (by decide)).trans hF33) (by omega) hmk hTI hlo)
set_option maxRecDepth 100000 in
set_option maxHeartbeats 4000000 in
theorem law_c3 (G : GL) (K : KC) (Q : State → Prop) (hh : List (Nat × Nat × Nat × Nat)) (hg : Gd G K RL code 9 ret room_1 hh) (bS L : Nat) (xs : Nat → Int32) (hX : q_scr G K bS L xs) (i kc ks J : Nat) (hi : i + 5 < L) (hL31 : L < 2 ^ 31) (hkc : kc + 8 ≤ 601024) (hks : ks + 48 ≤ 7293034) (σ : Nat → va_E) (hI : iv G σ J) (hJ : J < 512) (hfd : q_fdn) (hdd : q_ddn) (hf2 : q_f2n) (hds : q_dcs) (hnxt : ∀ σ9 : Nat → va_E, iv G σ9 (J + 1) → AJ G K Q (kc + 8) (ks + 48) false 296 3062 [some (.ref bS), some (.ref (q_h G + 0)), some (.ref (q_h G + 279)), some (.ref (q_h G + 294)), some (.ref (q_h G + 295)), some (.int (nI (i))), none, none, none] [] σ9) : AJ G K Q kc ks false 296 355 [some (.ref bS), some (.ref (q_h G + 0)), some (.ref (q_h G + 279)), some (.ref (q_h G + 294)), some (.ref (q_h G + 295)), some (.int (nI (i))), none, none, none] [] σ := by
  refine iv_el hI ?_
  intro il z2 z3 f lo o g nx m ps kp sn F wk as sh a fb nv ns mk va sp lp mc z ss ou oL oD
  intro hv0 hv1 hv2 hv3 hv4 hv5 hv6 hv7 hv8 hv9 hv10 hv11 hv12 hv13 hv14 hv15 hv16 hv17 hv18 hv19 hv20 hv21 hv22
  intro hL hG hM hHi hO hT hH hSn hKp
  intro hil hfb hlo2 hou hgd hps hk1 hkss hss hsn hF5 hF6 hF12 hF16 hF21 hF22 hF23 hF33 hmc hmk hTI hlo
  have hfK : ∀ a b : Nat, a ≤ 8 → b ≤ 48 → kc + a ≤ room_1.cells ∧ ks + b ≤ room_1.slots := fun a b h1 h2 => ⟨by show kc + a ≤ 601024; omega, by show ks + b ≤ 7293034; omega⟩
  have hg9 := iv_g hG
  obtain ⟨hnx8, hm8, hc78⟩ := iv_hi hHi
  have hbb := iv_byte (m := il) hfb
  have hg90 := hg9.1
  have hg96 := hg9.2.2.2.2.1
  have hnp8 := s_np_le hg9
  refine A_aload_n hg dL_law_355 rfl rfl ?_
  refine A_eV (kc2 := kc + 0) (ks2 := ks + 0) (As := []) (rest := []) hg lk_RL_156 in_X10_errorCode se_X10_errorCode rfl dL_law_356 ⟨by decide, by decide⟩ rfl rfl (hfK 0 0 (by decide) (by decide)) hv0 (by omega) rfl rfl (Nat.le_of_ble_eq_true rfl) (c_X10_errorCode G false 296 σ (nI (il)) z2 z3 hv0 (by omega)) ?_
  refine A_aload_n hg dL_law_359 rfl rfl ?_
  refine A_hV (kc2 := kc + 0) (ks2 := ks + 0) (As := []) (rest := [.int (z2)]) hg lk_RL_159 in_X11_errorCode se_X11_errorCode rfl dL_law_360 ⟨by decide, by decide⟩ rfl rfl (hfK 0 0 (by decide) (by decide)) hv6 (by omega) rfl rfl (Nat.le_of_ble_eq_true rfl) (c_X11_errorCode G false 296 σ F hv6 (by omega)) ?_
  rintro _ σ_3 ⟨rfl, hc_1, hf_2⟩
  refine (?_ : AJ G K Q (kc + 0) (ks + 0) false 296 363 [some (.ref bS), some (.ref (q_h G + 0)), some (.ref (q_h G + 279)), some (.ref (q_h G + 294)), some (.ref (q_h G + 295)), some (.int (nI (i))), none, none, none] [.int (F 22), .int (z2)] σ_3)
  have hc_1 : σ_3 279 = o11 G (upd F 7 (nI (0))) := hc_1
  have hc_4 : σ_3 0 = o10 G (nI (il)) (z2) (z3) := (hf_2 0 (by decide)).trans hv0
  have hc_5 : σ_3 1 = q_an G 600 f := (hf_2 1 (by decide)).trans hv1
  have hc_6 : σ_3 23 = o5 G (23) (nI (lo)) := (hf_2 23 (by decide)).trans hv2
  have hc_7 : σ_3 24 = q_an G 256 o := (hf_2 24 (by decide)).trans hv3
  have hc_8 : σ_3 224 = q_rn G 2 2 (fun j => some (243 + 18 * j)) := (hf_2 224 (by decide)).trans hv4
  have hc_9 : σ_3 225 = q_bn G 2 kp := (hf_2 225 (by decide)).trans hv5
  have hc_10 : σ_3 280 = q_an G 265 g := (hf_2 280 (by decide)).trans hv7
  have hc_11 : σ_3 281 = q_an G 265 wk := (hf_2 281 (by decide)).trans hv8
  have hc_12 : σ_3 282 = q_an G 265 as := (hf_2 282 (by decide)).trans hv9
  have hc_13 : σ_3 283 = q_an G 530 sh := (hf_2 283 (by decide)).trans hv10
  have hc_14 : σ_3 284 = q_an G 2120 a := (hf_2 284 (by decide)).trans hv11
  have hc_15 : σ_3 285 = q_bn G 1681 fb := (hf_2 285 (by decide)).trans hv12
  have hc_16 : σ_3 286 = q_an G 1681 nv := (hf_2 286 (by decide)).trans hv13
  have hc_17 : σ_3 287 = q_an G 1681 ns := (hf_2 287 (by decide)).trans hv14
  have hc_18 : σ_3 288 = q_an G 2000 mk := (hf_2 288 (by decide)).trans hv15
  have hc_19 : σ_3 289 = q_an G 6724 va := (hf_2 289 (by decide)).trans hv16
  have hc_20 : σ_3 290 = q_an G 6724 sp := (hf_2 290 (by decide)).trans hv17
  have hc_21 : σ_3 291 = q_an G 80 lp := (hf_2 291 (by decide)).trans hv18
  have hc_22 : σ_3 292 = q_an G 600 f := (hf_2 292 (by decide)).trans hv19
  have hc_23 : σ_3 293 = q_an G 300 ou := (hf_2 293 (by decide)).trans hv20
  have hc_24 : σ_3 294 = q_ln G 1 oL := (hf_2 294 (by decide)).trans hv21
  have hc_25 : σ_3 295 = q_dn G 1 oD := (hf_2 295 (by decide)).trans hv22
  refine A_icmp_eq (tgt := 3062) hg dL_law_363 (by decide) (fun _ => ?_) (fun z9 => absurd hF22.symm z9)
  refine A_eq (ls2 := [some (.ref bS), some (.ref (q_h G + 0)), some (.ref (q_h G + 279)), some (.ref (q_h G + 294)), some (.ref (q_h G + 295)), some (.int (nI (i))), none, none, none]) (st2 := []) (pc2 := 0) rfl rfl ?_
  refine A_wide (kc2 := kc + 8) (ks2 := ks + 48) (by omega) (by omega) ?_
  exact hnxt _ (iv_mk il z2 z3 f lo o g nx m ps kp sn (upd F 7 (nI (0))) wk as sh a fb nv ns mk va sp lp mc z ss ou oL oD hc_4 hc_5 hc_6 hc_7 hc_8 hc_9 hc_1 hc_10 hc_11 hc_12 hc_13 hc_14 hc_15 hc_16 hc_17 hc_18 hc_19 hc_20 hc_21 hc_22 hc_23 hc_24 hc_25 (x_lj_e (fun i _ _ => (hf_2 i (by omega))) hL) (x_gm_e (fun i _ _ => (hf_2 i (by omega))) hG) (x_mx_e (fun i _ _ => (hf_2 i (by omega))) hM) (x_hi_e (fun i _ _ => (hf_2 i (by omega))) hHi) (x_oj_e (fun i _ _ => (hf_2 i (by omega))) hO) (x_pj_e (fun i _ _ => (hf_2 i (by omega))) hT) (iv_hn (fun i _ _ => (hf_2 i (by omega))) hH) (iv_Sn (fun i _ _ => (hf_2 i (by omega))) hSn) (iv_Kp (fun i _ _ => (hf_2 i (by omega))) hKp) (by omega) hfb (by omega) hou hgd hps hk1 hkss hss hsn hF5 hF6 hF12 hF16 hF21 hF22 hF23 hF33 (by omega) hmk hTI hlo)
set_option maxRecDepth 100000 in
set_option maxHeartbeats 4000000 in
theorem law_c4 (G : GL) (K : KC) (Q : State → Prop) (hh : List (Nat × Nat × Nat × Nat)) (hg : Gd G K RL code 9 ret room_1 hh) (bS L : Nat) (xs : Nat → Int32) (hX : q_scr G K bS L xs) (i kc ks J : Nat) (hi : i + 5 < L) (hL31 : L < 2 ^ 31) (hkc : kc + 8 ≤ 601024) (hks : ks + 48 ≤ 7293034) (σ : Nat → va_E) (hI : iv G σ J) (hJ : J < 512) (hfd : q_fdn) (hdd : q_ddn) (hf2 : q_f2n) (hds : q_dcs) (hnxt : ∀ σ9 : Nat → va_E, iv G σ9 (J + 1) → AJ G K Q (kc + 8) (ks + 48) false 296 3062 [some (.ref bS), some (.ref (q_h G + 0)), some (.ref (q_h G + 279)), some (.ref (q_h G + 294)), some (.ref (q_h G + 295)), some (.int (nI (i))), none, none, none] [] σ9) : AJ G K Q kc ks false 296 368 [some (.ref bS), some (.ref (q_h G + 0)), some (.ref (q_h G + 279)), some (.ref (q_h G + 294)), some (.ref (q_h G + 295)), some (.int (nI (i))), none, none, none] [] σ := by
  refine iv_el hI ?_
  intro il z2 z3 f lo o g nx m ps kp sn F wk as sh a fb nv ns mk va sp lp mc z ss ou oL oD
  intro hv0 hv1 hv2 hv3 hv4 hv5 hv6 hv7 hv8 hv9 hv10 hv11 hv12 hv13 hv14 hv15 hv16 hv17 hv18 hv19 hv20 hv21 hv22
  intro hL hG hM hHi hO hT hH hSn hKp
  intro hil hfb hlo2 hou hgd hps hk1 hkss hss hsn hF5 hF6 hF12 hF16 hF21 hF22 hF23 hF33 hmc hmk hTI hlo
  have hfK : ∀ a b : Nat, a ≤ 8 → b ≤ 48 → kc + a ≤ room_1.cells ∧ ks + b ≤ room_1.slots := fun a b h1 h2 => ⟨by show kc + a ≤ 601024; omega, by show ks + b ≤ 7293034; omega⟩
  have hg9 := iv_g hG
  obtain ⟨hnx8, hm8, hc78⟩ := iv_hi hHi
  have hbb := iv_byte (m := il) hfb
  have hg90 := hg9.1
  have hg96 := hg9.2.2.2.2.1
  have hnp8 := s_np_le hg9
  refine A_aload_n hg dL_law_368 rfl rfl ?_
  refine A_eV (kc2 := kc + 0) (ks2 := ks + 0) (As := []) (rest := []) hg lk_RL_160 in_X10_errorOffset se_X10_errorOffset rfl dL_law_369 ⟨by decide, by decide⟩ rfl rfl (hfK 0 0 (by decide) (by decide)) hv0 (by omega) rfl rfl (Nat.le_of_ble_eq_true rfl) (c_X10_errorOffset G false 296 σ (nI (il)) z2 z3 hv0 (by omega)) ?_
  refine A_aload_n hg dL_law_372 rfl rfl ?_
  refine A_hV (kc2 := kc + 0) (ks2 := ks + 0) (As := []) (rest := [.int (z3)]) hg lk_RL_163 in_X11_errorOffset se_X11_errorOffset rfl dL_law_373 ⟨by decide, by decide⟩ rfl rfl (hfK 0 0 (by decide) (by decide)) hv6 (by omega) rfl rfl (Nat.le_of_ble_eq_true rfl) (c_X11_errorOffset G false 296 σ F hv6 (by omega)) ?_
  rintro _ σ_3 ⟨rfl, hc_1, hf_2⟩
  refine (?_ : AJ G K Q (kc + 0) (ks + 0) false 296 376 [some (.ref bS), some (.ref (q_h G + 0)), some (.ref (q_h G + 279)), some (.ref (q_h G + 294)), some (.ref (q_h G + 295)), some (.int (nI (i))), none, none, none] [.int (F 23), .int (z3)] σ_3)
  have hc_1 : σ_3 279 = o11 G (upd F 7 (nI (0))) := hc_1
  have hc_4 : σ_3 0 = o10 G (nI (il)) (z2) (z3) := (hf_2 0 (by decide)).trans hv0
  have hc_5 : σ_3 1 = q_an G 600 f := (hf_2 1 (by decide)).trans hv1
  have hc_6 : σ_3 23 = o5 G (23) (nI (lo)) := (hf_2 23 (by decide)).trans hv2
  have hc_7 : σ_3 24 = q_an G 256 o := (hf_2 24 (by decide)).trans hv3
  have hc_8 : σ_3 224 = q_rn G 2 2 (fun j => some (243 + 18 * j)) := (hf_2 224 (by decide)).trans hv4
  have hc_9 : σ_3 225 = q_bn G 2 kp := (hf_2 225 (by decide)).trans hv5
  have hc_10 : σ_3 280 = q_an G 265 g := (hf_2 280 (by decide)).trans hv7
  have hc_11 : σ_3 281 = q_an G 265 wk := (hf_2 281 (by decide)).trans hv8
  have hc_12 : σ_3 282 = q_an G 265 as := (hf_2 282 (by decide)).trans hv9
  have hc_13 : σ_3 283 = q_an G 530 sh := (hf_2 283 (by decide)).trans hv10
  have hc_14 : σ_3 284 = q_an G 2120 a := (hf_2 284 (by decide)).trans hv11
  have hc_15 : σ_3 285 = q_bn G 1681 fb := (hf_2 285 (by decide)).trans hv12
  have hc_16 : σ_3 286 = q_an G 1681 nv := (hf_2 286 (by decide)).trans hv13
  have hc_17 : σ_3 287 = q_an G 1681 ns := (hf_2 287 (by decide)).trans hv14
  have hc_18 : σ_3 288 = q_an G 2000 mk := (hf_2 288 (by decide)).trans hv15
  have hc_19 : σ_3 289 = q_an G 6724 va := (hf_2 289 (by decide)).trans hv16
  have hc_20 : σ_3 290 = q_an G 6724 sp := (hf_2 290 (by decide)).trans hv17
  have hc_21 : σ_3 291 = q_an G 80 lp := (hf_2 291 (by decide)).trans hv18
  have hc_22 : σ_3 292 = q_an G 600 f := (hf_2 292 (by decide)).trans hv19
  have hc_23 : σ_3 293 = q_an G 300 ou := (hf_2 293 (by decide)).trans hv20
  have hc_24 : σ_3 294 = q_ln G 1 oL := (hf_2 294 (by decide)).trans hv21
  have hc_25 : σ_3 295 = q_dn G 1 oD := (hf_2 295 (by decide)).trans hv22
  refine A_icmp_eq (tgt := 3062) hg dL_law_376 (by decide) (fun _ => ?_) (fun z9 => absurd hF23.symm z9)
  refine A_eq (ls2 := [some (.ref bS), some (.ref (q_h G + 0)), some (.ref (q_h G + 279)), some (.ref (q_h G + 294)), some (.ref (q_h G + 295)), some (.int (nI (i))), none, none, none]) (st2 := []) (pc2 := 0) rfl rfl ?_
  refine A_wide (kc2 := kc + 8) (ks2 := ks + 48) (by omega) (by omega) ?_
  exact hnxt _ (iv_mk il z2 z3 f lo o g nx m ps kp sn (upd F 7 (nI (0))) wk as sh a fb nv ns mk va sp lp mc z ss ou oL oD hc_4 hc_5 hc_6 hc_7 hc_8 hc_9 hc_1 hc_10 hc_11 hc_12 hc_13 hc_14 hc_15 hc_16 hc_17 hc_18 hc_19 hc_20 hc_21 hc_22 hc_23 hc_24 hc_25 (x_lj_e (fun i _ _ => (hf_2 i (by omega))) hL) (x_gm_e (fun i _ _ => (hf_2 i (by omega))) hG) (x_mx_e (fun i _ _ => (hf_2 i (by omega))) hM) (x_hi_e (fun i _ _ => (hf_2 i (by omega))) hHi) (x_oj_e (fun i _ _ => (hf_2 i (by omega))) hO) (x_pj_e (fun i _ _ => (hf_2 i (by omega))) hT) (iv_hn (fun i _ _ => (hf_2 i (by omega))) hH) (iv_Sn (fun i _ _ => (hf_2 i (by omega))) hSn) (iv_Kp (fun i _ _ => (hf_2 i (by omega))) hKp) (by omega) hfb (by omega) hou hgd hps hk1 hkss hss hsn hF5 hF6 hF12 hF16 hF21 hF22 hF23 hF33 (by omega) hmk hTI hlo)
set_option maxRecDepth 100000 in
set_option maxHeartbeats 4000000 in
theorem law_c5 (G : GL) (K : KC) (Q : State → Prop) (hh : List (Nat × Nat × Nat × Nat)) (hg : Gd G K RL code 9 ret room_1 hh) (bS L : Nat) (xs : Nat → Int32) (hX : q_scr G K bS L xs) (i kc ks J : Nat) (hi : i + 5 < L) (hL31 : L < 2 ^ 31) (hkc : kc + 8 ≤ 601024) (hks : ks + 48 ≤ 7293034) (σ : Nat → va_E) (hI : iv G σ J) (hJ : J < 512) (hfd : q_fdn) (hdd : q_ddn) (hf2 : q_f2n) (hds : q_dcs) (hnxt : ∀ σ9 : Nat → va_E, iv G σ9 (J + 1) → AJ G K Q (kc + 8) (ks + 48) false 296 3062 [some (.ref bS), some (.ref (q_h G + 0)), some (.ref (q_h G + 279)), some (.ref (q_h G + 294)), some (.ref (q_h G + 295)), some (.int (nI (i))), none, none, none] [] σ9) : AJ G K Q kc ks false 296 381 [some (.ref bS), some (.ref (q_h G + 0)), some (.ref (q_h G + 279)), some (.ref (q_h G + 294)), some (.ref (q_h G + 295)), some (.int (nI (i))), none, none, none] [] σ := by
  refine iv_el hI ?_
  intro il z2 z3 f lo o g nx m ps kp sn F wk as sh a fb nv ns mk va sp lp mc z ss ou oL oD
  intro hv0 hv1 hv2 hv3 hv4 hv5 hv6 hv7 hv8 hv9 hv10 hv11 hv12 hv13 hv14 hv15 hv16 hv17 hv18 hv19 hv20 hv21 hv22
  intro hL hG hM hHi hO hT hH hSn hKp
  intro hil hfb hlo2 hou hgd hps hk1 hkss hss hsn hF5 hF6 hF12 hF16 hF21 hF22 hF23 hF33 hmc hmk hTI hlo
  have hfK : ∀ a b : Nat, a ≤ 8 → b ≤ 48 → kc + a ≤ room_1.cells ∧ ks + b ≤ room_1.slots := fun a b h1 h2 => ⟨by show kc + a ≤ 601024; omega, by show ks + b ≤ 7293034; omega⟩
  have hg9 := iv_g hG
  obtain ⟨hnx8, hm8, hc78⟩ := iv_hi hHi
  have hbb := iv_byte (m := il) hfb
  have hg90 := hg9.1
  have hg96 := hg9.2.2.2.2.1
  have hnp8 := s_np_le hg9
  refine A_aload_n hg dL_law_381 rfl rfl ?_
  refine A_aload_n hg dL_law_382 rfl rfl ?_
  refine A_iload hg dL_law_383 rfl ?_
  refine A_iconst (v := (nI (1))) hg dL_law_385 (by decide) ?_
  refine A_iaddN hg dL_law_386 ?_
  refine A_sld hg hX (i + 1) (by omega) dL_law_387 ?_
  refine A_aload_n hg dL_law_388 rfl rfl ?_
  refine A_callSH (As := [.ref (q_h G + 0), .int (xs (i + 1)), .ref (q_h G + 294)]) (rest := []) hg lkH_164 stH_L_count dL_law_389 ⟨by decide, by decide⟩ (hfK 1 6 (by decide) (by decide)) rfl rfl (Nat.le_of_ble_eq_true rfl) (c_L_count G 296 σ (nI (il)) z2 z3 g nx m (xs (i + 1)) oL hv0 hc78 hv21 (by omega) hG hM (by omega)) ?_
  rintro _ σ_1 (⟨x1C, rfl, Chxe, Chxl, ChM2, hc_2, hf_3⟩ | ⟨rfl, Chxx, he_4⟩)
  · skip
    refine (?_ : AJ G K Q (kc + 1) (ks + 6) false 296 392 [some (.ref bS), some (.ref (q_h G + 0)), some (.ref (q_h G + 279)), some (.ref (q_h G + 294)), some (.ref (q_h G + 295)), some (.int (nI (i))), none, none, none] [.int (nI (0))] σ_1)
    have hc_5 : σ_1 0 = o10 G (nI (il)) (z2) (z3) := (hf_3 0 (by decide)).trans hv0
    have hc_6 : σ_1 1 = q_an G 600 f := (hf_3 1 (by decide)).trans hv1
    have hc_7 : σ_1 23 = o5 G (23) (nI (lo)) := (hf_3 23 (by decide)).trans hv2
    have hc_8 : σ_1 24 = q_an G 256 o := (hf_3 24 (by decide)).trans hv3
    have hc_9 : σ_1 224 = q_rn G 2 2 (fun j => some (243 + 18 * j)) := (hf_3 224 (by decide)).trans hv4
    have hc_10 : σ_1 225 = q_bn G 2 kp := (hf_3 225 (by decide)).trans hv5
    have hc_11 : σ_1 279 = o11 G F := (hf_3 279 (by decide)).trans hv6
    have hc_12 : σ_1 280 = q_an G 265 g := (hf_3 280 (by decide)).trans hv7
    have hc_13 : σ_1 281 = q_an G 265 wk := (hf_3 281 (by decide)).trans hv8
    have hc_14 : σ_1 282 = q_an G 265 as := (hf_3 282 (by decide)).trans hv9
    have hc_15 : σ_1 283 = q_an G 530 sh := (hf_3 283 (by decide)).trans hv10
    have hc_16 : σ_1 284 = q_an G 2120 a := (hf_3 284 (by decide)).trans hv11
    have hc_17 : σ_1 285 = q_bn G 1681 fb := (hf_3 285 (by decide)).trans hv12
    have hc_18 : σ_1 286 = q_an G 1681 nv := (hf_3 286 (by decide)).trans hv13
    have hc_19 : σ_1 287 = q_an G 1681 ns := (hf_3 287 (by decide)).trans hv14
    have hc_20 : σ_1 288 = q_an G 2000 mk := (hf_3 288 (by decide)).trans hv15
    have hc_21 : σ_1 289 = q_an G 6724 va := (hf_3 289 (by decide)).trans hv16
    have hc_22 : σ_1 290 = q_an G 6724 sp := (hf_3 290 (by decide)).trans hv17
    have hc_23 : σ_1 291 = q_an G 80 lp := (hf_3 291 (by decide)).trans hv18
    have hc_24 : σ_1 292 = q_an G 600 f := (hf_3 292 (by decide)).trans hv19
    have hc_25 : σ_1 293 = q_an G 300 ou := (hf_3 293 (by decide)).trans hv20
    have hc_26 : σ_1 295 = q_dn G 1 oD := (hf_3 295 (by decide)).trans hv22
    refine A_istore hg dL_law_392 (by decide) (q_c1d rfl) ?_
    refine A_eq (ls2 := [some (.ref bS), some (.ref (q_h G + 0)), some (.ref (q_h G + 279)), some (.ref (q_h G + 294)), some (.ref (q_h G + 295)), some (.int (nI (i))), some (.int (nI (0))), none, none]) (st2 := []) (pc2 := 0) rfl rfl ?_
    refine A_aload_n hg dL_law_394 rfl rfl ?_
    refine A_aload_n hg dL_law_395 rfl rfl ?_
    refine A_iload hg dL_law_396 rfl ?_
    refine A_iconst (v := (nI (1))) hg dL_law_398 (by decide) ?_
    refine A_iaddN hg dL_law_399 ?_
    refine A_sld hg hX (i + 1) (by omega) dL_law_400 ?_
    refine A_hV (kc2 := kc + 1) (ks2 := ks + 6) (As := [.int (xs (i + 1))]) (rest := []) hg lk_RL_169 in_X11_count se_X11_count rfl dL_law_401 ⟨by decide, by decide⟩ rfl rfl (hfK 1 6 (by decide) (by decide)) hc_11 (by omega) rfl rfl (Nat.le_of_ble_eq_true rfl) (c_X11_count G false 296 σ_1 F g fb nv ns mk va sp lp mc z m (xs (i + 1)) hc_11 hc_12 hc_17 hc_18 hc_19 hc_20 hc_21 hc_22 hc_23 (by omega) hg9 (by omega) hF12 hF16 hmk hTI hlo hF5 (by omega)) ?_
    rintro _ σ_45 (⟨fqM, nvqM, nsqM, mkqM, vaqM, spqM, loqM, mcqM, zqM, q1M, q2M, q3M, rfl, Mhnw, MhTI, Mhmc, Mhmk, Mhlo, hc_27, hc_28, hc_29, hc_30, hc_31, hc_32, hc_33, hc_34, hf_35⟩ | ⟨x1M, fqM, nvqM, nsqM, mkqM, vaqM, spqM, loqM, mcqM, zqM, q1M, q2M, q3M, rfl, Mhxe, Mhxl, MhTI, Mhmc, Mhmk, Mhlo, hc_36, hc_37, hc_38, hc_39, hc_40, hc_41, hc_42, hc_43, hf_44⟩)
    · skip
      refine (?_ : AJ G K Q (kc + 1) (ks + 6) false 296 404 [some (.ref bS), some (.ref (q_h G + 0)), some (.ref (q_h G + 279)), some (.ref (q_h G + 294)), some (.ref (q_h G + 295)), some (.int (nI (i))), some (.int (nI (0))), none, none] [.int (nI (0))] σ_45)
      have hc_27 : σ_45 279 = o11 G (upd (upd (upd (upd (upd (upd F 7 (nI (1))) 12 (nI (mcqM))) 16 (nI (zqM))) 17 (q1M)) 18 (q2M)) 19 (q3M)) := hc_27
      have hc_46 : σ_45 0 = o10 G (nI (il)) (z2) (z3) := (hf_35 0 (by decide)).trans hc_5
      have hc_47 : σ_45 1 = q_an G 600 f := (hf_35 1 (by decide)).trans hc_6
      have hc_48 : σ_45 23 = o5 G (23) (nI (lo)) := (hf_35 23 (by decide)).trans hc_7
      have hc_49 : σ_45 24 = q_an G 256 o := (hf_35 24 (by decide)).trans hc_8
      have hc_50 : σ_45 224 = q_rn G 2 2 (fun j => some (243 + 18 * j)) := (hf_35 224 (by decide)).trans hc_9
      have hc_51 : σ_45 225 = q_bn G 2 kp := (hf_35 225 (by decide)).trans hc_10
      have hc_52 : σ_45 280 = q_an G 265 g := (hf_35 280 (by decide)).trans hc_12
      have hc_53 : σ_45 281 = q_an G 265 wk := (hf_35 281 (by decide)).trans hc_13
      have hc_54 : σ_45 282 = q_an G 265 as := (hf_35 282 (by decide)).trans hc_14
      have hc_55 : σ_45 283 = q_an G 530 sh := (hf_35 283 (by decide)).trans hc_15
      have hc_56 : σ_45 284 = q_an G 2120 a := (hf_35 284 (by decide)).trans hc_16
      have hc_57 : σ_45 292 = q_an G 600 f := (hf_35 292 (by decide)).trans hc_24
      have hc_58 : σ_45 293 = q_an G 300 ou := (hf_35 293 (by decide)).trans hc_25
      have hc_59 : σ_45 295 = q_dn G 1 oD := (hf_35 295 (by decide)).trans hc_26
      have hc_60 : σ_45 294 = q_ln G 1 (va_up oL 0 ((nI (s_countA g m x1C)).toInt64)) := (hf_35 294 (by decide)).trans hc_2
      exact (Mhnw x1C (by omega) (by omega) Chxe).elim
    · skip
      refine (?_ : AJ G K Q (kc + 1) (ks + 6) false 296 404 [some (.ref bS), some (.ref (q_h G + 0)), some (.ref (q_h G + 279)), some (.ref (q_h G + 294)), some (.ref (q_h G + 295)), some (.int (nI (i))), some (.int (nI (0))), none, none] [.int (nI (s_countA g m x1M))] σ_45)
      have hc_36 : σ_45 279 = o11 G (upd (upd (upd (upd (upd (upd F 7 (nI (0))) 12 (nI (mcqM))) 16 (nI (zqM))) 17 (q1M)) 18 (q2M)) 19 (q3M)) := hc_36
      have hc_61 : σ_45 0 = o10 G (nI (il)) (z2) (z3) := (hf_44 0 (by decide)).trans hc_5
      have hc_62 : σ_45 1 = q_an G 600 f := (hf_44 1 (by decide)).trans hc_6
      have hc_63 : σ_45 23 = o5 G (23) (nI (lo)) := (hf_44 23 (by decide)).trans hc_7
      have hc_64 : σ_45 24 = q_an G 256 o := (hf_44 24 (by decide)).trans hc_8
      have hc_65 : σ_45 224 = q_rn G 2 2 (fun j => some (243 + 18 * j)) := (hf_44 224 (by decide)).trans hc_9
      have hc_66 : σ_45 225 = q_bn G 2 kp := (hf_44 225 (by decide)).trans hc_10
      have hc_67 : σ_45 280 = q_an G 265 g := (hf_44 280 (by decide)).trans hc_12
      have hc_68 : σ_45 281 = q_an G 265 wk := (hf_44 281 (by decide)).trans hc_13
      have hc_69 : σ_45 282 = q_an G 265 as := (hf_44 282 (by decide)).trans hc_14
      have hc_70 : σ_45 283 = q_an G 530 sh := (hf_44 283 (by decide)).trans hc_15
      have hc_71 : σ_45 284 = q_an G 2120 a := (hf_44 284 (by decide)).trans hc_16
      have hc_72 : σ_45 292 = q_an G 600 f := (hf_44 292 (by decide)).trans hc_24
      have hc_73 : σ_45 293 = q_an G 300 ou := (hf_44 293 (by decide)).trans hc_25
      have hc_74 : σ_45 295 = q_dn G 1 oD := (hf_44 295 (by decide)).trans hc_26
      have hc_75 : σ_45 294 = q_ln G 1 (va_up oL 0 ((nI (s_countA g m x1C)).toInt64)) := (hf_44 294 (by decide)).trans hc_2
      have e_x : x1C = x1M := q_nI_inj (by omega) (by omega) (Chxe.symm.trans Mhxe)
      subst e_x
      refine A_istore hg dL_law_404 (by decide) (q_c1d rfl) ?_
      refine A_eq (ls2 := [some (.ref bS), some (.ref (q_h G + 0)), some (.ref (q_h G + 279)), some (.ref (q_h G + 294)), some (.ref (q_h G + 295)), some (.int (nI (i))), some (.int (nI (0))), some (.int (nI (s_countA g m x1C))), none]) (st2 := []) (pc2 := 0) rfl rfl ?_
      refine A_aload_n hg dL_law_406 rfl rfl ?_
      refine A_eV (kc2 := kc + 1) (ks2 := ks + 6) (As := []) (rest := []) hg lk_RL_170 in_X11_thrown se_X11_thrown rfl dL_law_407 ⟨by decide, by decide⟩ rfl rfl (hfK 1 6 (by decide) (by decide)) hc_36 (by omega) rfl rfl (Nat.le_of_ble_eq_true rfl) (c_X11_thrown G false 296 σ_45 (upd (upd (upd (upd (upd (upd F 7 (nI (0))) 12 (nI (mcqM))) 16 (nI (zqM))) 17 (q1M)) 18 (q2M)) 19 (q3M)) hc_36 (by omega)) ?_
      refine A_top (w := .int (nI (0))) (congrArg Value.int rfl) ?_
      refine A_iload hg dL_law_410 rfl ?_
      refine A_icmp_eqN (tgt := 417) hg dL_law_412 (by decide) (by decide) (by decide) (fun c412 => ?_) (fun c412 => False.elim (by omega))
      refine A_iload hg dL_law_417 rfl ?_
      refine A_if_neN (tgt := 434) hg dL_law_419 (by decide) (by decide) (fun c419 => absurd (by decide) c419) (fun c419 => ?_)
      refine A_aload_n hg dL_law_422 rfl rfl ?_
      refine A_iconst (v := (nI (0))) hg dL_law_423 (by decide) ?_
      refine A_lald (j := 0) hg dL_law_424 hc_75 (by omega) (by decide) (by decide) ?_
      refine A_top (w := .long ((nI (s_countA g m x1C)).toInt64)) (congrArg Value.long iv_up0) ?_
      refine A_iload hg dL_law_425 rfl ?_
      refine A_i2l (v := (nI (s_countA g m x1C)).toInt64) hg dL_law_427 rfl ?_
      refine A_lcmp hg dL_law_428 ?_
      refine A_top (w := .int (nI 0)) (congrArg Value.int (lc_self _)) ?_
      refine A_if_eqN (tgt := 434) hg dL_law_429 (by decide) (by decide) (fun c429 => ?_) (fun c429 => absurd (by decide) c429)
      refine A_goto (tgt := 3062) hg dL_law_434 (by decide) ?_
      refine A_drop 6 ?_
      refine A_drop 7 ?_
      refine A_eq (ls2 := [some (.ref bS), some (.ref (q_h G + 0)), some (.ref (q_h G + 279)), some (.ref (q_h G + 294)), some (.ref (q_h G + 295)), some (.int (nI (i))), none, none, none]) (st2 := []) (pc2 := 0) rfl rfl ?_
      refine A_wide (kc2 := kc + 8) (ks2 := ks + 48) (by omega) (by omega) ?_
      exact hnxt _ (iv_mk il z2 z3 f lo o g nx m ps kp sn (upd (upd (upd (upd (upd (upd F 7 (nI (0))) 12 (nI (mcqM))) 16 (nI (zqM))) 17 (q1M)) 18 (q2M)) 19 (q3M)) wk as sh a fqM nvqM nsqM mkqM vaqM spqM loqM mcqM zqM ss ou (va_up oL 0 ((nI (s_countA g m x1C)).toInt64)) oD hc_61 hc_62 hc_63 hc_64 hc_65 hc_66 hc_36 hc_67 hc_68 hc_69 hc_70 hc_71 hc_37 hc_38 hc_39 hc_40 hc_41 hc_42 hc_43 hc_72 hc_73 hc_75 hc_74 (x_lj_e (fun i _ _ => ((hf_44 i (by omega)).trans (hf_3 i (by omega)))) hL) (x_gm_e (fun i _ _ => ((hf_44 i (by omega)).trans (hf_3 i (by omega)))) hG) (x_mx_e (fun i _ _ => (hf_44 i (by omega))) ChM2) (x_hi_e (fun i _ _ => ((hf_44 i (by omega)).trans (hf_3 i (by omega)))) hHi) (x_oj_e (fun i _ _ => ((hf_44 i (by omega)).trans (hf_3 i (by omega)))) hO) (x_pj_e (fun i _ _ => ((hf_44 i (by omega)).trans (hf_3 i (by omega)))) hT) (iv_hn (fun i _ _ => ((hf_44 i (by omega)).trans (hf_3 i (by omega)))) hH) (iv_Sn (fun i _ _ => ((hf_44 i (by omega)).trans (hf_3 i (by omega)))) hSn) (iv_Kp (fun i _ _ => ((hf_44 i (by omega)).trans (hf_3 i (by omega)))) hKp) (by omega) hfb (by omega) hou hgd hps hk1 hkss hss hsn hF5 hF6 rfl rfl hF21 hF22 hF23 hF33 (by omega) Mhmk MhTI Mhlo)
  · skip
    rw [he_4]
    refine (?_ : AJ G K Q (kc + 1) (ks + 6) false 296 392 [some (.ref bS), some (.ref (q_h G + 0)), some (.ref (q_h G + 279)), some (.ref (q_h G + 294)), some (.ref (q_h G + 295)), some (.int (nI (i))), none, none, none] [.int (nI (1))] σ)
    refine A_istore hg dL_law_392 (by decide) (q_c1d rfl) ?_
    refine A_eq (ls2 := [some (.ref bS), some (.ref (q_h G + 0)), some (.ref (q_h G + 279)), some (.ref (q_h G + 294)), some (.ref (q_h G + 295)), some (.int (nI (i))), some (.int (nI (1))), none, none]) (st2 := []) (pc2 := 0) rfl rfl ?_
    refine A_aload_n hg dL_law_394 rfl rfl ?_
    refine A_aload_n hg dL_law_395 rfl rfl ?_
    refine A_iload hg dL_law_396 rfl ?_
    refine A_iconst (v := (nI (1))) hg dL_law_398 (by decide) ?_
    refine A_iaddN hg dL_law_399 ?_
    refine A_sld hg hX (i + 1) (by omega) dL_law_400 ?_
    refine A_hV (kc2 := kc + 1) (ks2 := ks + 6) (As := [.int (xs (i + 1))]) (rest := []) hg lk_RL_169 in_X11_count se_X11_count rfl dL_law_401 ⟨by decide, by decide⟩ rfl rfl (hfK 1 6 (by decide) (by decide)) hv6 (by omega) rfl rfl (Nat.le_of_ble_eq_true rfl) (c_X11_count G false 296 σ F g fb nv ns mk va sp lp mc z m (xs (i + 1)) hv6 hv7 hv12 hv13 hv14 hv15 hv16 hv17 hv18 (by omega) hg9 (by omega) hF12 hF16 hmk hTI hlo hF5 (by omega)) ?_
    rintro _ σ_94 (⟨fqM, nvqM, nsqM, mkqM, vaqM, spqM, loqM, mcqM, zqM, q1M, q2M, q3M, rfl, Mhnw, MhTI, Mhmc, Mhmk, Mhlo, hc_76, hc_77, hc_78, hc_79, hc_80, hc_81, hc_82, hc_83, hf_84⟩ | ⟨x1M, fqM, nvqM, nsqM, mkqM, vaqM, spqM, loqM, mcqM, zqM, q1M, q2M, q3M, rfl, Mhxe, Mhxl, MhTI, Mhmc, Mhmk, Mhlo, hc_85, hc_86, hc_87, hc_88, hc_89, hc_90, hc_91, hc_92, hf_93⟩)
    · skip
      refine (?_ : AJ G K Q (kc + 1) (ks + 6) false 296 404 [some (.ref bS), some (.ref (q_h G + 0)), some (.ref (q_h G + 279)), some (.ref (q_h G + 294)), some (.ref (q_h G + 295)), some (.int (nI (i))), some (.int (nI (1))), none, none] [.int (nI (0))] σ_94)
      have hc_76 : σ_94 279 = o11 G (upd (upd (upd (upd (upd (upd F 7 (nI (1))) 12 (nI (mcqM))) 16 (nI (zqM))) 17 (q1M)) 18 (q2M)) 19 (q3M)) := hc_76
      have hc_95 : σ_94 0 = o10 G (nI (il)) (z2) (z3) := (hf_84 0 (by decide)).trans hv0
      have hc_96 : σ_94 1 = q_an G 600 f := (hf_84 1 (by decide)).trans hv1
      have hc_97 : σ_94 23 = o5 G (23) (nI (lo)) := (hf_84 23 (by decide)).trans hv2
      have hc_98 : σ_94 24 = q_an G 256 o := (hf_84 24 (by decide)).trans hv3
      have hc_99 : σ_94 224 = q_rn G 2 2 (fun j => some (243 + 18 * j)) := (hf_84 224 (by decide)).trans hv4
      have hc_100 : σ_94 225 = q_bn G 2 kp := (hf_84 225 (by decide)).trans hv5
      have hc_101 : σ_94 280 = q_an G 265 g := (hf_84 280 (by decide)).trans hv7
      have hc_102 : σ_94 281 = q_an G 265 wk := (hf_84 281 (by decide)).trans hv8
      have hc_103 : σ_94 282 = q_an G 265 as := (hf_84 282 (by decide)).trans hv9
      have hc_104 : σ_94 283 = q_an G 530 sh := (hf_84 283 (by decide)).trans hv10
      have hc_105 : σ_94 284 = q_an G 2120 a := (hf_84 284 (by decide)).trans hv11
      have hc_106 : σ_94 292 = q_an G 600 f := (hf_84 292 (by decide)).trans hv19
      have hc_107 : σ_94 293 = q_an G 300 ou := (hf_84 293 (by decide)).trans hv20
      have hc_108 : σ_94 294 = q_ln G 1 oL := (hf_84 294 (by decide)).trans hv21
      have hc_109 : σ_94 295 = q_dn G 1 oD := (hf_84 295 (by decide)).trans hv22
      refine A_istore hg dL_law_404 (by decide) (q_c1d rfl) ?_
      refine A_eq (ls2 := [some (.ref bS), some (.ref (q_h G + 0)), some (.ref (q_h G + 279)), some (.ref (q_h G + 294)), some (.ref (q_h G + 295)), some (.int (nI (i))), some (.int (nI (1))), some (.int (nI (0))), none]) (st2 := []) (pc2 := 0) rfl rfl ?_
      refine A_aload_n hg dL_law_406 rfl rfl ?_
      refine A_eV (kc2 := kc + 1) (ks2 := ks + 6) (As := []) (rest := []) hg lk_RL_170 in_X11_thrown se_X11_thrown rfl dL_law_407 ⟨by decide, by decide⟩ rfl rfl (hfK 1 6 (by decide) (by decide)) hc_76 (by omega) rfl rfl (Nat.le_of_ble_eq_true rfl) (c_X11_thrown G false 296 σ_94 (upd (upd (upd (upd (upd (upd F 7 (nI (1))) 12 (nI (mcqM))) 16 (nI (zqM))) 17 (q1M)) 18 (q2M)) 19 (q3M)) hc_76 (by omega)) ?_
      refine A_top (w := .int (nI (1))) (congrArg Value.int rfl) ?_
      refine A_iload hg dL_law_410 rfl ?_
      refine A_icmp_eqN (tgt := 417) hg dL_law_412 (by decide) (by decide) (by decide) (fun c412 => ?_) (fun c412 => False.elim (by omega))
      refine A_iload hg dL_law_417 rfl ?_
      refine A_if_neN (tgt := 434) hg dL_law_419 (by decide) (by decide) (fun c419 => ?_) (fun c419 => absurd c419 (by decide))
      refine A_goto (tgt := 3062) hg dL_law_434 (by decide) ?_
      refine A_drop 6 ?_
      refine A_drop 7 ?_
      refine A_eq (ls2 := [some (.ref bS), some (.ref (q_h G + 0)), some (.ref (q_h G + 279)), some (.ref (q_h G + 294)), some (.ref (q_h G + 295)), some (.int (nI (i))), none, none, none]) (st2 := []) (pc2 := 0) rfl rfl ?_
      refine A_wide (kc2 := kc + 8) (ks2 := ks + 48) (by omega) (by omega) ?_
      exact hnxt _ (iv_mk il z2 z3 f lo o g nx m ps kp sn (upd (upd (upd (upd (upd (upd F 7 (nI (1))) 12 (nI (mcqM))) 16 (nI (zqM))) 17 (q1M)) 18 (q2M)) 19 (q3M)) wk as sh a fqM nvqM nsqM mkqM vaqM spqM loqM mcqM zqM ss ou oL oD hc_95 hc_96 hc_97 hc_98 hc_99 hc_100 hc_76 hc_101 hc_102 hc_103 hc_104 hc_105 hc_77 hc_78 hc_79 hc_80 hc_81 hc_82 hc_83 hc_106 hc_107 hc_108 hc_109 (x_lj_e (fun i _ _ => (hf_84 i (by omega))) hL) (x_gm_e (fun i _ _ => (hf_84 i (by omega))) hG) (x_mx_e (fun i _ _ => (hf_84 i (by omega))) hM) (x_hi_e (fun i _ _ => (hf_84 i (by omega))) hHi) (x_oj_e (fun i _ _ => (hf_84 i (by omega))) hO) (x_pj_e (fun i _ _ => (hf_84 i (by omega))) hT) (iv_hn (fun i _ _ => (hf_84 i (by omega))) hH) (iv_Sn (fun i _ _ => (hf_84 i (by omega))) hSn) (iv_Kp (fun i _ _ => (hf_84 i (by omega))) hKp) (by omega) hfb (by omega) hou hgd hps hk1 hkss hss hsn hF5 hF6 rfl rfl hF21 hF22 hF23 hF33 (by omega) Mhmk MhTI Mhlo)
    · skip
      refine (?_ : AJ G K Q (kc + 1) (ks + 6) false 296 404 [some (.ref bS), some (.ref (q_h G + 0)), some (.ref (q_h G + 279)), some (.ref (q_h G + 294)), some (.ref (q_h G + 295)), some (.int (nI (i))), some (.int (nI (1))), none, none] [.int (nI (s_countA g m x1M))] σ_94)
      have hc_85 : σ_94 279 = o11 G (upd (upd (upd (upd (upd (upd F 7 (nI (0))) 12 (nI (mcqM))) 16 (nI (zqM))) 17 (q1M)) 18 (q2M)) 19 (q3M)) := hc_85
      have hc_110 : σ_94 0 = o10 G (nI (il)) (z2) (z3) := (hf_93 0 (by decide)).trans hv0
      have hc_111 : σ_94 1 = q_an G 600 f := (hf_93 1 (by decide)).trans hv1
      have hc_112 : σ_94 23 = o5 G (23) (nI (lo)) := (hf_93 23 (by decide)).trans hv2
      have hc_113 : σ_94 24 = q_an G 256 o := (hf_93 24 (by decide)).trans hv3
      have hc_114 : σ_94 224 = q_rn G 2 2 (fun j => some (243 + 18 * j)) := (hf_93 224 (by decide)).trans hv4
      have hc_115 : σ_94 225 = q_bn G 2 kp := (hf_93 225 (by decide)).trans hv5
      have hc_116 : σ_94 280 = q_an G 265 g := (hf_93 280 (by decide)).trans hv7
      have hc_117 : σ_94 281 = q_an G 265 wk := (hf_93 281 (by decide)).trans hv8
      have hc_118 : σ_94 282 = q_an G 265 as := (hf_93 282 (by decide)).trans hv9
      have hc_119 : σ_94 283 = q_an G 530 sh := (hf_93 283 (by decide)).trans hv10
      have hc_120 : σ_94 284 = q_an G 2120 a := (hf_93 284 (by decide)).trans hv11
      have hc_121 : σ_94 292 = q_an G 600 f := (hf_93 292 (by decide)).trans hv19
      have hc_122 : σ_94 293 = q_an G 300 ou := (hf_93 293 (by decide)).trans hv20
      have hc_123 : σ_94 294 = q_ln G 1 oL := (hf_93 294 (by decide)).trans hv21
      have hc_124 : σ_94 295 = q_dn G 1 oD := (hf_93 295 (by decide)).trans hv22
      exact (Chxx x1M (by omega) (by omega) Mhxe).elim
end
