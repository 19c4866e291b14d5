section
set_option maxRecDepth 100000 in
set_option maxHeartbeats 4000000 in
theorem c_X10_again (G : GL) (ex : Bool) (n : Nat) (σ : Nat → va_E) (z1 : Int32) (z2 : Int32) (z3 : Int32) (g : Nat → Nat) (nx : Nat) (m : Nat) (ps : Nat → Nat → Nat) (p : Int32) (hc0 : σ 0 = o10 G (z1) (z2) (z3)) (hn9 : 279 ≤ n) (hG : x_gm G σ 25 g) (hM : x_mx G σ) (hHi : x_hi G σ nx m ps) : CtX G yX10_again cX10_again 2 (some .int) ⟨7, 1, 6, 140⟩ [.ref (q_h G + 0), .int (p)] ex n σ (fun v9 σ2 => ∃ (p1 : Nat), v9 = some (.int (nI (s_tot (s_again g p1)))) ∧ (p = nI p1) ∧ (p1 ≤ 1) ∧ (x_gm G σ2 25 (s_again g p1)) ∧ (x_hi G σ2 ((nx + 1) % 8) (min (m + 1) 8) (x_psh m ps g)) ∧ (x_mx G σ2) ∧ (∀ i : Nat, i < 25 ∨ 223 < i → σ2 i = σ i)) (fun E σ2 => σ2 = σ ∧ ((E = "java/lang/IndexOutOfBoundsException" ∧ (∀ j : Nat, 0 ≤ j → j ≤ 1 → p = nI j → False)))) := by
  refine q_enter [some (.ref (q_h G + 0)), some (.int (p))] (by decide) (Nat.le_of_ble_eq_true rfl) rfl ?_
  intro K hg
  obtain ⟨Q, hQ⟩ : ∃ Q, Q = q_Q G K ex n 1 6 (fun v9 n' σ' => n' = n ∧ (fun v9 σ2 => ∃ (p1 : Nat), v9 = some (.int (nI (s_tot (s_again g p1)))) ∧ (p = nI p1) ∧ (p1 ≤ 1) ∧ (x_gm G σ2 25 (s_again g p1)) ∧ (x_hi G σ2 ((nx + 1) % 8) (min (m + 1) 8) (x_psh m ps g)) ∧ (x_mx G σ2) ∧ (∀ i : Nat, i < 25 ∨ 223 < i → σ2 i = σ i)) v9 σ') (fun E σ2 => σ2 = σ ∧ ((E = "java/lang/IndexOutOfBoundsException" ∧ (∀ j : Nat, 0 ≤ j → j ≤ 1 → p = nI j → False)))) := ⟨_, rfl⟩
  refine (?_ : AJ G K (q_Q G K ex n 1 6 _ _) 0 0 ex n 0 _ _ σ)
  rw [← hQ]
  have hG0 := hG
  obtain ⟨kd, fi, se, tf, ts, ac, tu, nm, on, sl, mo, nb, bm, ⟨hg_1, hg_2, hg_3, hg_4, hg_5, hg_6, hg_7, hg_8, hg_9, hg_10, hg_11, hg_12⟩, hgr⟩ := hG
  obtain ⟨hgw, hxp, htp, hrl, hac, htu⟩ := hgr
  have hrs := x_rl_rs hrl
  have hg0 := hgw.1
  have hg1 := hgw.2.1
  have hg2 := hgw.2.2.1
  have hg3 := hgw.2.2.2.1
  have hg6 := hgw.2.2.2.2.1
  have hnp : s_np g = g 1 + g 2 := rfl
  have hgr0 : x_gr g kd fi se tf ts ac tu nm on sl mo nb bm := ⟨hgw, hxp, htp, hrl, hac, htu⟩
  have hHi0 := hHi
  obtain ⟨hnx, hm8, hc78, hc79, hjs, hps⟩ := hHi
  obtain ⟨h0, h1, h2, h3, h4, flA, n0A, gvA, gsA, lmA, vsA, nmA, onA, slA, moA, nbA, bmA, skA, s2A, vaA, spA, rfA, hm_13, hm_14, hm_15, hm_16, hm_17, hm_18, hm_19, hm_20, hm_21, hm_22, hm_23, hTI⟩ := hM
  refine A_iload_n hg dX10_again_0 rfl rfl ?_
  refine A_pSX (kc2 := 1) (ks2 := 6) (As := [.int (p)]) (rest := []) hg lk_RX10_176 st_X10_needPlayer dX10_again_1 ⟨by decide, by decide⟩ rfl rfl ⟨by decide, by decide⟩ rfl rfl (Nat.le_of_ble_eq_true rfl) (c_X10_needPlayer G ex n σ p) (fun E σx hx => by rw [hQ]; exact A_out hg (by decide) (by decide) (by obtain ⟨hs, hE, hx⟩ := hx; exact ⟨hs, ⟨hE, hx⟩⟩)) ?_
  rintro _ ⟨p1, rfl, hpe, hpl9⟩
  refine (?_ : AJ G K Q 1 6 ex n 4 [some (.ref (q_h G + 0)), some (.int (p))] [] σ)
  subst hpe
  refine A_aload_n hg dX10_again_4 rfl rfl ?_
  refine A_getf (v := .ref (q_h G + 78)) hg fl_RX10_54 dX10_again_5 hc0 (by omega) rfl ?_
  refine A_aload_n hg dX10_again_8 rfl rfl ?_
  refine A_getf (v := .ref (q_h G + 25)) hg fl_RX10_40 dX10_again_9 hc0 (by omega) rfl ?_
  refine A_vV (kc2 := 1) (ks2 := 6) (As := [.ref (q_h G + 25)]) (rest := []) hg lk_RX10_389 in_X2_push se_X2_push rfl dX10_again_12 ⟨by decide, by decide⟩ rfl rfl ⟨by decide, by decide⟩ hc78 (by omega) rfl rfl (Nat.le_of_ble_eq_true rfl) (c_X2_push G ex n σ nx m 25 g hc78 hc79 (by omega) (by omega) (by omega) rfl (hjs nx hnx) hG0) ?_
  rintro σ_26 ⟨hG9, hc_24, hf_25⟩
  have hc_27 : σ_26 0 = o10 G (z1) (z2) (z3) := (hf_25 _ (by omega)).trans hc0
  have hc_28 : σ_26 25 = o0 G (25) (nI (g 0)) (nI (g 3)) (nI (g 4)) (nI (g 5)) (nI (g 6)) := (hf_25 _ (by omega)).trans hg_1
  have hc_29 : σ_26 26 = q_rn G 3 4 (fun j => some (25 + 10 + 2 * j)) := (hf_25 _ (by omega)).trans hg_2
  have hc_30 : σ_26 27 = o6 G (27) (nI (g 1)) (nI (g 2)) := (hf_25 _ (by omega)).trans hg_3
  have hc_31 : σ_26 (27 + 1) = q_an G 8 kd := (hf_25 _ (by omega)).trans hg_4
  have hc_32 : σ_26 (27 + 2) = q_an G 8 fi := (hf_25 _ (by omega)).trans hg_5
  have hc_33 : σ_26 (27 + 3) = q_an G 8 se := (hf_25 _ (by omega)).trans hg_6
  have hc_34 : σ_26 (27 + 4) = q_an G 8 tf := (hf_25 _ (by omega)).trans hg_7
  have hc_35 : σ_26 (27 + 5) = q_an G 8 ts := (hf_25 _ (by omega)).trans hg_8
  have hc_36 : σ_26 (25 + 8) = q_an G 10 ac := (hf_25 _ (by omega)).trans hg_9
  have hc_37 : σ_26 (25 + 9) = q_an G 100 tu := (hf_25 _ (by omega)).trans hg_10
  have hc_38 : ∀ j9 : Nat, j9 < 4 → σ_26 (25 + 10 + 2 * j9) = o7 G (25 + 10 + 2 * j9) (lN (nm j9)) (lN (on j9)) (nI (sl j9)) (nI (mo j9)) (nI (nb j9)) := fun j9 hj0 => (hf_25 _ (by omega)).trans (hg_11 j9 (by omega))
  have hc_39 : ∀ j9 : Nat, j9 < 4 → σ_26 (25 + 10 + 2 * j9 + 1) = q_an G 5 (bm j9) := fun j9 hj0 => (hf_25 _ (by omega)).trans (hg_12 j9 (by omega))
  have hc_40 : σ_26 79 = q_rn G 2 8 (fun j => some (80 + 18 * j)) := (hf_25 _ (by omega)).trans hc79
  have hc_41 : σ_26 43 = o4 G (43)  := (hf_25 _ (by omega)).trans hm_13
  have hc_42 : σ_26 44 = q_rn G 4 4 (fun j => some (46 + 8 * j)) := (hf_25 _ (by omega)).trans hm_14
  have hc_43 : σ_26 45 = o1 G (h0) (h1) (h2) (h3) (h4) := (hf_25 _ (by omega)).trans hm_15
  have hc_44 : ∀ j9 : Nat, j9 < 4 → σ_26 (46 + 8 * j9) = o8 G (46 + 8 * j9) (nI (flA j9)) (nI (n0A j9)) (nI (gvA j9)) (nI (gsA j9)) (nI (lmA j9)) (nI (vsA j9)) := fun j9 hj0 => (hf_25 _ (by omega)).trans (hm_16 j9 (by omega))
  have hc_45 : ∀ j9 : Nat, j9 < 4 → σ_26 (46 + 8 * j9 + 1) = o7 G (46 + 8 * j9 + 1) (lN (nmA j9)) (lN (onA j9)) (nI (slA j9)) (nI (moA j9)) (nI (nbA j9)) := fun j9 hj0 => (hf_25 _ (by omega)).trans (hm_17 j9 (by omega))
  have hc_46 : ∀ j9 : Nat, j9 < 4 → σ_26 (46 + 8 * j9 + 2) = q_an G 5 (bmA j9) := fun j9 hj0 => (hf_25 _ (by omega)).trans (hm_18 j9 (by omega))
  have hc_47 : ∀ j9 : Nat, j9 < 4 → σ_26 (46 + 8 * j9 + 3) = q_an G 1681 (skA j9) := fun j9 hj0 => (hf_25 _ (by omega)).trans (hm_19 j9 (by omega))
  have hc_48 : ∀ j9 : Nat, j9 < 4 → σ_26 (46 + 8 * j9 + 4) = q_an G 1681 (s2A j9) := fun j9 hj0 => (hf_25 _ (by omega)).trans (hm_20 j9 (by omega))
  have hc_49 : ∀ j9 : Nat, j9 < 4 → σ_26 (46 + 8 * j9 + 5) = q_an G 1681 (vaA j9) := fun j9 hj0 => (hf_25 _ (by omega)).trans (hm_21 j9 (by omega))
  have hc_50 : ∀ j9 : Nat, j9 < 4 → σ_26 (46 + 8 * j9 + 6) = q_an G 1681 (spA j9) := fun j9 hj0 => (hf_25 _ (by omega)).trans (hm_22 j9 (by omega))
  have hc_51 : ∀ j9 : Nat, j9 < 4 → σ_26 (46 + 8 * j9 + 7) = q_an G 1681 (rfA j9) := fun j9 hj0 => (hf_25 _ (by omega)).trans (hm_23 j9 (by omega))
  have hHiP := x_hi_push hHi0 hG9 hc_24 (fun i a b => hf_25 i (by omega))
  refine A_aload_n hg dX10_again_15 rfl rfl ?_
  refine A_getf (v := .ref (q_h G + 25)) hg fl_RX10_40 dX10_again_16 hc_27 (by omega) rfl ?_
  refine A_getf (v := .ref (q_h G + 27)) hg fl_RX10_118 dX10_again_19 hc_28 (by omega) rfl ?_
  refine A_vV (kc2 := 1) (ks2 := 6) (As := []) (rest := []) hg lk_RX10_405 in_X6_standAsTold se_X6_standAsTold rfl dX10_again_22 ⟨by decide, by decide⟩ rfl rfl ⟨by decide, by decide⟩ hc_30 (by omega) rfl rfl (Nat.le_of_ble_eq_true rfl) (c_X6_standAsTold G ex n σ_26 27 (g 1) (g 2) kd fi se tf ts hc_30 hc_31 hc_32 hc_33 hc_34 hc_35 (by omega)) ?_
  rintro σ_55 ⟨hc_52, hc_53, hf_54⟩
  have hc_56 : σ_55 0 = o10 G (z1) (z2) (z3) := (hf_54 _ (by omega)).trans hc_27
  have hc_57 : σ_55 25 = o0 G (25) (nI (g 0)) (nI (g 3)) (nI (g 4)) (nI (g 5)) (nI (g 6)) := (hf_54 _ (by omega)).trans hc_28
  have hc_58 : σ_55 26 = q_rn G 3 4 (fun j => some (25 + 10 + 2 * j)) := (hf_54 _ (by omega)).trans hc_29
  have hc_59 : σ_55 27 = o6 G (27) (nI (g 1)) (nI (g 2)) := (hf_54 _ (by omega)).trans hc_30
  have hc_60 : σ_55 (27 + 1) = q_an G 8 kd := (hf_54 _ (by omega)).trans hc_31
  have hc_61 : σ_55 (27 + 4) = q_an G 8 tf := (hf_54 _ (by omega)).trans hc_34
  have hc_62 : σ_55 (27 + 5) = q_an G 8 ts := (hf_54 _ (by omega)).trans hc_35
  have hc_63 : σ_55 (25 + 8) = q_an G 10 ac := (hf_54 _ (by omega)).trans hc_36
  have hc_64 : σ_55 (25 + 9) = q_an G 100 tu := (hf_54 _ (by omega)).trans hc_37
  have hc_65 : ∀ j9 : Nat, j9 < 4 → σ_55 (25 + 10 + 2 * j9) = o7 G (25 + 10 + 2 * j9) (lN (nm j9)) (lN (on j9)) (nI (sl j9)) (nI (mo j9)) (nI (nb j9)) := fun j9 hj0 => (hf_54 _ (by omega)).trans (hc_38 j9 (by omega))
  have hc_66 : ∀ j9 : Nat, j9 < 4 → σ_55 (25 + 10 + 2 * j9 + 1) = q_an G 5 (bm j9) := fun j9 hj0 => (hf_54 _ (by omega)).trans (hc_39 j9 (by omega))
  have hc_67 : σ_55 79 = q_rn G 2 8 (fun j => some (80 + 18 * j)) := (hf_54 _ (by omega)).trans hc_40
  have hc_68 : σ_55 43 = o4 G (43)  := (hf_54 _ (by omega)).trans hc_41
  have hc_69 : σ_55 44 = q_rn G 4 4 (fun j => some (46 + 8 * j)) := (hf_54 _ (by omega)).trans hc_42
  have hc_70 : σ_55 45 = o1 G (h0) (h1) (h2) (h3) (h4) := (hf_54 _ (by omega)).trans hc_43
  have hc_71 : ∀ j9 : Nat, j9 < 4 → σ_55 (46 + 8 * j9) = o8 G (46 + 8 * j9) (nI (flA j9)) (nI (n0A j9)) (nI (gvA j9)) (nI (gsA j9)) (nI (lmA j9)) (nI (vsA j9)) := fun j9 hj0 => (hf_54 _ (by omega)).trans (hc_44 j9 (by omega))
  have hc_72 : ∀ j9 : Nat, j9 < 4 → σ_55 (46 + 8 * j9 + 1) = o7 G (46 + 8 * j9 + 1) (lN (nmA j9)) (lN (onA j9)) (nI (slA j9)) (nI (moA j9)) (nI (nbA j9)) := fun j9 hj0 => (hf_54 _ (by omega)).trans (hc_45 j9 (by omega))
  have hc_73 : ∀ j9 : Nat, j9 < 4 → σ_55 (46 + 8 * j9 + 2) = q_an G 5 (bmA j9) := fun j9 hj0 => (hf_54 _ (by omega)).trans (hc_46 j9 (by omega))
  have hc_74 : ∀ j9 : Nat, j9 < 4 → σ_55 (46 + 8 * j9 + 3) = q_an G 1681 (skA j9) := fun j9 hj0 => (hf_54 _ (by omega)).trans (hc_47 j9 (by omega))
  have hc_75 : ∀ j9 : Nat, j9 < 4 → σ_55 (46 + 8 * j9 + 4) = q_an G 1681 (s2A j9) := fun j9 hj0 => (hf_54 _ (by omega)).trans (hc_48 j9 (by omega))
  have hc_76 : ∀ j9 : Nat, j9 < 4 → σ_55 (46 + 8 * j9 + 5) = q_an G 1681 (vaA j9) := fun j9 hj0 => (hf_54 _ (by omega)).trans (hc_49 j9 (by omega))
  have hc_77 : ∀ j9 : Nat, j9 < 4 → σ_55 (46 + 8 * j9 + 6) = q_an G 1681 (spA j9) := fun j9 hj0 => (hf_54 _ (by omega)).trans (hc_50 j9 (by omega))
  have hc_78 : ∀ j9 : Nat, j9 < 4 → σ_55 (46 + 8 * j9 + 7) = q_an G 1681 (rfA j9) := fun j9 hj0 => (hf_54 _ (by omega)).trans (hc_51 j9 (by omega))
  have hc_79 : σ_55 78 = o2 G (78) (nI ((nx + 1) % 8)) (nI (min (m + 1) 8)) := (hf_54 _ (by omega)).trans hc_24
  refine A_aload_n hg dX10_again_25 rfl rfl ?_
  refine A_getf (v := .ref (q_h G + 25)) hg fl_RX10_40 dX10_again_26 hc_56 (by omega) rfl ?_
  refine A_iload_n hg dX10_again_29 rfl rfl ?_
  refine A_putf hg fl_RX10_134 dX10_again_30 hc_57 (by omega) (Nat.le_of_ble_eq_true rfl) rfl rfl rfl (fun σ_80 hc_81 hf_82 => ?_)
  have hc_81 : σ_80 25 = o0 G (25) (nI (g 0)) (nI (p1)) (nI (g 4)) (nI (g 5)) (nI (g 6)) := hc_81
  have hc_83 : σ_80 0 = o10 G (z1) (z2) (z3) := (hf_82 _ (by omega)).trans hc_56
  have hc_84 : σ_80 26 = q_rn G 3 4 (fun j => some (25 + 10 + 2 * j)) := (hf_82 _ (by omega)).trans hc_58
  have hc_85 : σ_80 27 = o6 G (27) (nI (g 1)) (nI (g 2)) := (hf_82 _ (by omega)).trans hc_59
  have hc_86 : σ_80 (27 + 1) = q_an G 8 kd := (hf_82 _ (by omega)).trans hc_60
  have hc_87 : σ_80 (27 + 4) = q_an G 8 tf := (hf_82 _ (by omega)).trans hc_61
  have hc_88 : σ_80 (27 + 5) = q_an G 8 ts := (hf_82 _ (by omega)).trans hc_62
  have hc_89 : σ_80 (25 + 8) = q_an G 10 ac := (hf_82 _ (by omega)).trans hc_63
  have hc_90 : σ_80 (25 + 9) = q_an G 100 tu := (hf_82 _ (by omega)).trans hc_64
  have hc_91 : ∀ j9 : Nat, j9 < 4 → σ_80 (25 + 10 + 2 * j9) = o7 G (25 + 10 + 2 * j9) (lN (nm j9)) (lN (on j9)) (nI (sl j9)) (nI (mo j9)) (nI (nb j9)) := fun j9 hj0 => (hf_82 _ (by omega)).trans (hc_65 j9 (by omega))
  have hc_92 : ∀ j9 : Nat, j9 < 4 → σ_80 (25 + 10 + 2 * j9 + 1) = q_an G 5 (bm j9) := fun j9 hj0 => (hf_82 _ (by omega)).trans (hc_66 j9 (by omega))
  have hc_93 : σ_80 79 = q_rn G 2 8 (fun j => some (80 + 18 * j)) := (hf_82 _ (by omega)).trans hc_67
  have hc_94 : σ_80 43 = o4 G (43)  := (hf_82 _ (by omega)).trans hc_68
  have hc_95 : σ_80 44 = q_rn G 4 4 (fun j => some (46 + 8 * j)) := (hf_82 _ (by omega)).trans hc_69
  have hc_96 : σ_80 45 = o1 G (h0) (h1) (h2) (h3) (h4) := (hf_82 _ (by omega)).trans hc_70
  have hc_97 : ∀ j9 : Nat, j9 < 4 → σ_80 (46 + 8 * j9) = o8 G (46 + 8 * j9) (nI (flA j9)) (nI (n0A j9)) (nI (gvA j9)) (nI (gsA j9)) (nI (lmA j9)) (nI (vsA j9)) := fun j9 hj0 => (hf_82 _ (by omega)).trans (hc_71 j9 (by omega))
  have hc_98 : ∀ j9 : Nat, j9 < 4 → σ_80 (46 + 8 * j9 + 1) = o7 G (46 + 8 * j9 + 1) (lN (nmA j9)) (lN (onA j9)) (nI (slA j9)) (nI (moA j9)) (nI (nbA j9)) := fun j9 hj0 => (hf_82 _ (by omega)).trans (hc_72 j9 (by omega))
  have hc_99 : ∀ j9 : Nat, j9 < 4 → σ_80 (46 + 8 * j9 + 2) = q_an G 5 (bmA j9) := fun j9 hj0 => (hf_82 _ (by omega)).trans (hc_73 j9 (by omega))
  have hc_100 : ∀ j9 : Nat, j9 < 4 → σ_80 (46 + 8 * j9 + 3) = q_an G 1681 (skA j9) := fun j9 hj0 => (hf_82 _ (by omega)).trans (hc_74 j9 (by omega))
  have hc_101 : ∀ j9 : Nat, j9 < 4 → σ_80 (46 + 8 * j9 + 4) = q_an G 1681 (s2A j9) := fun j9 hj0 => (hf_82 _ (by omega)).trans (hc_75 j9 (by omega))
  have hc_102 : ∀ j9 : Nat, j9 < 4 → σ_80 (46 + 8 * j9 + 5) = q_an G 1681 (vaA j9) := fun j9 hj0 => (hf_82 _ (by omega)).trans (hc_76 j9 (by omega))
  have hc_103 : ∀ j9 : Nat, j9 < 4 → σ_80 (46 + 8 * j9 + 6) = q_an G 1681 (spA j9) := fun j9 hj0 => (hf_82 _ (by omega)).trans (hc_77 j9 (by omega))
  have hc_104 : ∀ j9 : Nat, j9 < 4 → σ_80 (46 + 8 * j9 + 7) = q_an G 1681 (rfA j9) := fun j9 hj0 => (hf_82 _ (by omega)).trans (hc_78 j9 (by omega))
  have hc_105 : σ_80 78 = o2 G (78) (nI ((nx + 1) % 8)) (nI (min (m + 1) 8)) := (hf_82 _ (by omega)).trans hc_79
  have hc_106 : σ_80 (27 + 2) = q_an G 8 tf := (hf_82 _ (by omega)).trans hc_52
  have hc_107 : σ_80 (27 + 3) = q_an G 8 ts := (hf_82 _ (by omega)).trans hc_53
  refine A_aload_n hg dX10_again_33 rfl rfl ?_
  refine A_getf (v := .ref (q_h G + 25)) hg fl_RX10_40 dX10_again_34 hc_83 (by omega) rfl ?_
  refine A_iconst (v := (nI (0))) hg dX10_again_37 (by decide) ?_
  refine A_putf hg fl_RX10_137 dX10_again_38 hc_81 (by omega) (Nat.le_of_ble_eq_true rfl) rfl rfl rfl (fun σ_108 hc_109 hf_110 => ?_)
  have hc_109 : σ_108 25 = o0 G (25) (nI (g 0)) (nI (p1)) (nI (0)) (nI (g 5)) (nI (g 6)) := hc_109
  have hc_111 : σ_108 0 = o10 G (z1) (z2) (z3) := (hf_110 _ (by omega)).trans hc_83
  have hc_112 : σ_108 26 = q_rn G 3 4 (fun j => some (25 + 10 + 2 * j)) := (hf_110 _ (by omega)).trans hc_84
  have hc_113 : σ_108 27 = o6 G (27) (nI (g 1)) (nI (g 2)) := (hf_110 _ (by omega)).trans hc_85
  have hc_114 : σ_108 (27 + 1) = q_an G 8 kd := (hf_110 _ (by omega)).trans hc_86
  have hc_115 : σ_108 (27 + 4) = q_an G 8 tf := (hf_110 _ (by omega)).trans hc_87
  have hc_116 : σ_108 (27 + 5) = q_an G 8 ts := (hf_110 _ (by omega)).trans hc_88
  have hc_117 : σ_108 (25 + 8) = q_an G 10 ac := (hf_110 _ (by omega)).trans hc_89
  have hc_118 : σ_108 (25 + 9) = q_an G 100 tu := (hf_110 _ (by omega)).trans hc_90
  have hc_119 : ∀ j9 : Nat, j9 < 4 → σ_108 (25 + 10 + 2 * j9) = o7 G (25 + 10 + 2 * j9) (lN (nm j9)) (lN (on j9)) (nI (sl j9)) (nI (mo j9)) (nI (nb j9)) := fun j9 hj0 => (hf_110 _ (by omega)).trans (hc_91 j9 (by omega))
  have hc_120 : ∀ j9 : Nat, j9 < 4 → σ_108 (25 + 10 + 2 * j9 + 1) = q_an G 5 (bm j9) := fun j9 hj0 => (hf_110 _ (by omega)).trans (hc_92 j9 (by omega))
  have hc_121 : σ_108 79 = q_rn G 2 8 (fun j => some (80 + 18 * j)) := (hf_110 _ (by omega)).trans hc_93
  have hc_122 : σ_108 43 = o4 G (43)  := (hf_110 _ (by omega)).trans hc_94
  have hc_123 : σ_108 44 = q_rn G 4 4 (fun j => some (46 + 8 * j)) := (hf_110 _ (by omega)).trans hc_95
  have hc_124 : σ_108 45 = o1 G (h0) (h1) (h2) (h3) (h4) := (hf_110 _ (by omega)).trans hc_96
  have hc_125 : ∀ j9 : Nat, j9 < 4 → σ_108 (46 + 8 * j9) = o8 G (46 + 8 * j9) (nI (flA j9)) (nI (n0A j9)) (nI (gvA j9)) (nI (gsA j9)) (nI (lmA j9)) (nI (vsA j9)) := fun j9 hj0 => (hf_110 _ (by omega)).trans (hc_97 j9 (by omega))
  have hc_126 : ∀ j9 : Nat, j9 < 4 → σ_108 (46 + 8 * j9 + 1) = o7 G (46 + 8 * j9 + 1) (lN (nmA j9)) (lN (onA j9)) (nI (slA j9)) (nI (moA j9)) (nI (nbA j9)) := fun j9 hj0 => (hf_110 _ (by omega)).trans (hc_98 j9 (by omega))
  have hc_127 : ∀ j9 : Nat, j9 < 4 → σ_108 (46 + 8 * j9 + 2) = q_an G 5 (bmA j9) := fun j9 hj0 => (hf_110 _ (by omega)).trans (hc_99 j9 (by omega))
  have hc_128 : ∀ j9 : Nat, j9 < 4 → σ_108 (46 + 8 * j9 + 3) = q_an G 1681 (skA j9) := fun j9 hj0 => (hf_110 _ (by omega)).trans (hc_100 j9 (by omega))
  have hc_129 : ∀ j9 : Nat, j9 < 4 → σ_108 (46 + 8 * j9 + 4) = q_an G 1681 (s2A j9) := fun j9 hj0 => (hf_110 _ (by omega)).trans (hc_101 j9 (by omega))
  have hc_130 : ∀ j9 : Nat, j9 < 4 → σ_108 (46 + 8 * j9 + 5) = q_an G 1681 (vaA j9) := fun j9 hj0 => (hf_110 _ (by omega)).trans (hc_102 j9 (by omega))
  have hc_131 : ∀ j9 : Nat, j9 < 4 → σ_108 (46 + 8 * j9 + 6) = q_an G 1681 (spA j9) := fun j9 hj0 => (hf_110 _ (by omega)).trans (hc_103 j9 (by omega))
  have hc_132 : ∀ j9 : Nat, j9 < 4 → σ_108 (46 + 8 * j9 + 7) = q_an G 1681 (rfA j9) := fun j9 hj0 => (hf_110 _ (by omega)).trans (hc_104 j9 (by omega))
  have hc_133 : σ_108 78 = o2 G (78) (nI ((nx + 1) % 8)) (nI (min (m + 1) 8)) := (hf_110 _ (by omega)).trans hc_105
  have hc_134 : σ_108 (27 + 2) = q_an G 8 tf := (hf_110 _ (by omega)).trans hc_106
  have hc_135 : σ_108 (27 + 3) = q_an G 8 ts := (hf_110 _ (by omega)).trans hc_107
  refine A_aload_n hg dX10_again_41 rfl rfl ?_
  refine A_getf (v := .ref (q_h G + 25)) hg fl_RX10_40 dX10_again_42 hc_111 (by omega) rfl ?_
  refine A_dup hg dX10_again_45 rfl ?_
  refine A_getf (v := .int (nI (g 5))) hg fl_RX10_158 dX10_again_46 hc_109 (by omega) rfl ?_
  refine A_iconst (v := (nI (1))) hg dX10_again_49 (by decide) ?_
  refine A_iaddN hg dX10_again_50 ?_
  refine A_putf hg fl_RX10_158 dX10_again_51 hc_109 (by omega) (Nat.le_of_ble_eq_true rfl) rfl rfl rfl (fun σ_136 hc_137 hf_138 => ?_)
  have hc_137 : σ_136 25 = o0 G (25) (nI (g 0)) (nI (p1)) (nI (0)) (nI ((g 5) + 1)) (nI (g 6)) := hc_137
  have hc_139 : σ_136 0 = o10 G (z1) (z2) (z3) := (hf_138 _ (by omega)).trans hc_111
  have hc_140 : σ_136 26 = q_rn G 3 4 (fun j => some (25 + 10 + 2 * j)) := (hf_138 _ (by omega)).trans hc_112
  have hc_141 : σ_136 27 = o6 G (27) (nI (g 1)) (nI (g 2)) := (hf_138 _ (by omega)).trans hc_113
  have hc_142 : σ_136 (27 + 1) = q_an G 8 kd := (hf_138 _ (by omega)).trans hc_114
  have hc_143 : σ_136 (27 + 4) = q_an G 8 tf := (hf_138 _ (by omega)).trans hc_115
  have hc_144 : σ_136 (27 + 5) = q_an G 8 ts := (hf_138 _ (by omega)).trans hc_116
  have hc_145 : σ_136 (25 + 8) = q_an G 10 ac := (hf_138 _ (by omega)).trans hc_117
  have hc_146 : σ_136 (25 + 9) = q_an G 100 tu := (hf_138 _ (by omega)).trans hc_118
  have hc_147 : ∀ j9 : Nat, j9 < 4 → σ_136 (25 + 10 + 2 * j9) = o7 G (25 + 10 + 2 * j9) (lN (nm j9)) (lN (on j9)) (nI (sl j9)) (nI (mo j9)) (nI (nb j9)) := fun j9 hj0 => (hf_138 _ (by omega)).trans (hc_119 j9 (by omega))
  have hc_148 : ∀ j9 : Nat, j9 < 4 → σ_136 (25 + 10 + 2 * j9 + 1) = q_an G 5 (bm j9) := fun j9 hj0 => (hf_138 _ (by omega)).trans (hc_120 j9 (by omega))
  have hc_149 : σ_136 79 = q_rn G 2 8 (fun j => some (80 + 18 * j)) := (hf_138 _ (by omega)).trans hc_121
  have hc_150 : σ_136 43 = o4 G (43)  := (hf_138 _ (by omega)).trans hc_122
  have hc_151 : σ_136 44 = q_rn G 4 4 (fun j => some (46 + 8 * j)) := (hf_138 _ (by omega)).trans hc_123
  have hc_152 : σ_136 45 = o1 G (h0) (h1) (h2) (h3) (h4) := (hf_138 _ (by omega)).trans hc_124
  have hc_153 : ∀ j9 : Nat, j9 < 4 → σ_136 (46 + 8 * j9) = o8 G (46 + 8 * j9) (nI (flA j9)) (nI (n0A j9)) (nI (gvA j9)) (nI (gsA j9)) (nI (lmA j9)) (nI (vsA j9)) := fun j9 hj0 => (hf_138 _ (by omega)).trans (hc_125 j9 (by omega))
  have hc_154 : ∀ j9 : Nat, j9 < 4 → σ_136 (46 + 8 * j9 + 1) = o7 G (46 + 8 * j9 + 1) (lN (nmA j9)) (lN (onA j9)) (nI (slA j9)) (nI (moA j9)) (nI (nbA j9)) := fun j9 hj0 => (hf_138 _ (by omega)).trans (hc_126 j9 (by omega))
  have hc_155 : ∀ j9 : Nat, j9 < 4 → σ_136 (46 + 8 * j9 + 2) = q_an G 5 (bmA j9) := fun j9 hj0 => (hf_138 _ (by omega)).trans (hc_127 j9 (by omega))
  have hc_156 : ∀ j9 : Nat, j9 < 4 → σ_136 (46 + 8 * j9 + 3) = q_an G 1681 (skA j9) := fun j9 hj0 => (hf_138 _ (by omega)).trans (hc_128 j9 (by omega))
  have hc_157 : ∀ j9 : Nat, j9 < 4 → σ_136 (46 + 8 * j9 + 4) = q_an G 1681 (s2A j9) := fun j9 hj0 => (hf_138 _ (by omega)).trans (hc_129 j9 (by omega))
  have hc_158 : ∀ j9 : Nat, j9 < 4 → σ_136 (46 + 8 * j9 + 5) = q_an G 1681 (vaA j9) := fun j9 hj0 => (hf_138 _ (by omega)).trans (hc_130 j9 (by omega))
  have hc_159 : ∀ j9 : Nat, j9 < 4 → σ_136 (46 + 8 * j9 + 6) = q_an G 1681 (spA j9) := fun j9 hj0 => (hf_138 _ (by omega)).trans (hc_131 j9 (by omega))
  have hc_160 : ∀ j9 : Nat, j9 < 4 → σ_136 (46 + 8 * j9 + 7) = q_an G 1681 (rfA j9) := fun j9 hj0 => (hf_138 _ (by omega)).trans (hc_132 j9 (by omega))
  have hc_161 : σ_136 78 = o2 G (78) (nI ((nx + 1) % 8)) (nI (min (m + 1) 8)) := (hf_138 _ (by omega)).trans hc_133
  have hc_162 : σ_136 (27 + 2) = q_an G 8 tf := (hf_138 _ (by omega)).trans hc_134
  have hc_163 : σ_136 (27 + 3) = q_an G 8 ts := (hf_138 _ (by omega)).trans hc_135
  have hgrN := x_gr_again hpl9 hgr0
  have hcN : x_gc G σ_136 25 (g 0) p1 0 (g 5 + 1) (g 6) (g 1) (g 2) kd tf ts tf ts ac tu nm on sl mo nb bm := ⟨hc_137, hc_140, hc_141, hc_142, hc_162, hc_163, hc_143, hc_144, hc_145, hc_146, hc_147, hc_148⟩
  obtain ⟨ha3, ha4, ha5⟩ := x_ag_3 g p1
  have hg1n := hgw.2.1
  have hg2n := hgw.2.2.1
  have hGn : x_gm G σ_136 25 (s_again g p1) := ⟨kd, tf, ts, tf, ts, ac, tu, nm, on, sl, mo, nb, bm, by rw [ha3, ha4, ha5, x_ag_lo (j := 0) (by omega) (by omega) hg1n hg2n, x_ag_lo (j := 1) (by omega) (by omega) hg1n hg2n, x_ag_lo (j := 2) (by omega) (by omega) hg1n hg2n, x_ag_lo (j := 6) (by omega) (by omega) hg1n hg2n]; exact hcN, hgrN⟩
  have hGn0 := hGn
  obtain ⟨kdN, fiN, seN, tfN, tsN, acN, tuN, nmN, onN, slN, moN, nbN, bmN, ⟨hg_164, hg_165, hg_166, hg_167, hg_168, hg_169, hg_170, hg_171, hg_172, hg_173, hg_174, hg_175⟩, hgrN⟩ := hGn
  obtain ⟨hgwN, hxpN, htpN, hrlN, hacN, htuN⟩ := hgrN
  have hrsN := x_rl_rs hrlN
  have hg0N := hgwN.1
  have hg1N := hgwN.2.1
  have hg2N := hgwN.2.2.1
  have hg3N := hgwN.2.2.2.1
  have hg6N := hgwN.2.2.2.2.1
  have hnpN : s_np (s_again g p1) = (s_again g p1) 1 + (s_again g p1) 2 := rfl
  have hc_176 : ∀ j9 : Nat, j9 < (s_again g p1) 0 → σ_136 (25 + 10 + 2 * j9) = o7 G (25 + 10 + 2 * j9) (lN (nmN j9)) (lN (onN j9)) (nI (s_rule (s_again g p1) j9 18)) (nI (s_rule (s_again g p1) j9 19)) (nI (s_rule (s_again g p1) j9 20)) := fun j9 hj => (hg_174 j9 (by omega)).trans (by rw [(hrlN j9 hj).2.2.2.1, (hrlN j9 hj).2.2.2.2.1, (hrlN j9 hj).2.2.2.2.2.1])
  have hc_177 : ∀ j9 : Nat, j9 < (s_again g p1) 0 → σ_136 (25 + 10 + 2 * j9 + 1) = q_an G 5 (bmN j9) := fun j9 hj => hg_175 j9 (by omega)
  refine A_aload_n hg dX10_again_54 rfl rfl ?_
  refine A_hV (kc2 := 1) (ks2 := 6) (As := []) (rest := []) hg lk_RX10_140 in_X10_fittedMix se_X10_fittedMix rfl dX10_again_55 ⟨by decide, by decide⟩ rfl rfl ⟨by decide, by decide⟩ hc_139 (by omega) rfl rfl (Nat.le_of_ble_eq_true rfl) (c_X10_fittedMix G ex n σ_136 z1 z2 z3 (s_again g p1) kdN fiN seN nmN onN bmN flA n0A gvA gsA lmA vsA nmA onA slA moA nbA bmA skA s2A vaA spA rfA hc_139 hc_150 hc_151 hg_164 hg_165 hg_166 hg_167 hg_168 hg_169 hc_176 hc_177 hc_153 hc_154 hc_155 hc_156 hc_157 hc_158 hc_159 hc_160 (by omega) hgwN hxpN hrsN hTI) ?_
  rintro _ σ_204 ⟨flB_178, n0B_179, gvB_180, gsB_181, lmB_182, vsB_183, nmB_184, onB_185, slB_186, moB_187, nbB_188, bmB_189, skB_190, s2B_191, vaB_192, spB_193, rfB_194, rfl, hTI2, hTF2, hc_195, hc_196, hc_197, hc_198, hc_199, hc_200, hc_201, hc_202, hf_203⟩
  refine (?_ : AJ G K Q 1 6 ex n 58 [some (.ref (q_h G + 0)), some (.int (nI (p1)))] [.ref (q_h G + 43)] σ_204)
  have hc_205 : σ_204 0 = o10 G (z1) (z2) (z3) := (hf_203 _ (by omega)).trans hc_139
  have hc_206 : σ_204 79 = q_rn G 2 8 (fun j => some (80 + 18 * j)) := (hf_203 _ (by omega)).trans hc_149
  have hc_207 : σ_204 43 = o4 G (43)  := (hf_203 _ (by omega)).trans hc_150
  have hc_208 : σ_204 44 = q_rn G 4 4 (fun j => some (46 + 8 * j)) := (hf_203 _ (by omega)).trans hc_151
  have hc_209 : σ_204 45 = o1 G (h0) (h1) (h2) (h3) (h4) := (hf_203 _ (by omega)).trans hc_152
  have hc_210 : σ_204 78 = o2 G (78) (nI ((nx + 1) % 8)) (nI (min (m + 1) 8)) := (hf_203 _ (by omega)).trans hc_161
  have hc_211 : σ_204 25 = o0 G (25) (nI ((s_again g p1) 0)) (nI ((s_again g p1) 3)) (nI ((s_again g p1) 4)) (nI ((s_again g p1) 5)) (nI ((s_again g p1) 6)) := (hf_203 _ (by omega)).trans hg_164
  have hc_212 : σ_204 26 = q_rn G 3 4 (fun j => some (25 + 10 + 2 * j)) := (hf_203 _ (by omega)).trans hg_165
  have hc_213 : σ_204 27 = o6 G (27) (nI ((s_again g p1) 1)) (nI ((s_again g p1) 2)) := (hf_203 _ (by omega)).trans hg_166
  have hc_214 : σ_204 (27 + 1) = q_an G 8 kdN := (hf_203 _ (by omega)).trans hg_167
  have hc_215 : σ_204 (27 + 2) = q_an G 8 fiN := (hf_203 _ (by omega)).trans hg_168
  have hc_216 : σ_204 (27 + 3) = q_an G 8 seN := (hf_203 _ (by omega)).trans hg_169
  have hc_217 : σ_204 (27 + 4) = q_an G 8 tfN := (hf_203 _ (by omega)).trans hg_170
  have hc_218 : σ_204 (27 + 5) = q_an G 8 tsN := (hf_203 _ (by omega)).trans hg_171
  have hc_219 : σ_204 (25 + 8) = q_an G 10 acN := (hf_203 _ (by omega)).trans hg_172
  have hc_220 : σ_204 (25 + 9) = q_an G 100 tuN := (hf_203 _ (by omega)).trans hg_173
  have hc_221 : ∀ j9 : Nat, j9 < (s_again g p1) 0 → σ_204 (25 + 10 + 2 * j9) = o7 G (25 + 10 + 2 * j9) (lN (nmN j9)) (lN (onN j9)) (nI (s_rule (s_again g p1) j9 18)) (nI (s_rule (s_again g p1) j9 19)) (nI (s_rule (s_again g p1) j9 20)) := fun j9 hj0 => (hf_203 _ (by omega)).trans (hc_176 j9 (by omega))
  have hc_222 : ∀ j9 : Nat, j9 < (s_again g p1) 0 → σ_204 (25 + 10 + 2 * j9 + 1) = q_an G 5 (bmN j9) := fun j9 hj0 => (hf_203 _ (by omega)).trans (hc_177 j9 (by omega))
  refine A_aload_n hg dX10_again_58 rfl rfl ?_
  refine A_getf (v := .ref (q_h G + 25)) hg fl_RX10_40 dX10_again_59 hc_205 (by omega) rfl ?_
  refine A_getf (v := .ref (q_h G + 27)) hg fl_RX10_118 dX10_again_62 hc_211 (by omega) rfl ?_
  refine A_eV (kc2 := 1) (ks2 := 6) (As := [.ref (q_h G + 27)]) (rest := []) hg lk_RX10_144 in_X4_totalOf se_X4_totalOf rfl dX10_again_65 ⟨by decide, by decide⟩ rfl rfl ⟨by decide, by decide⟩ hc_207 (by omega) rfl rfl (Nat.le_of_ble_eq_true rfl) (c_X4_totalOf G ex n σ_204 27 (s_again g p1) kdN fiN seN flB_178 n0B_179 gvB_180 gsB_181 lmB_182 vsB_183 nmB_184 onB_185 slB_186 moB_187 nbB_188 bmB_189 skB_190 s2B_191 vaB_192 spB_193 rfB_194 hc_207 hc_208 hc_213 hc_214 hc_215 hc_216 hc_195 hc_196 hc_197 hc_198 hc_199 hc_200 hc_201 hc_202 (by omega) (Or.inl rfl) hgwN hxpN hTF2) ?_
  rw [hQ]
  exact A_ireturn hg (by decide) (by decide) rfl dX10_again_68 ⟨rfl, ⟨p1, rfl, rfl, hpl9, (x_gm_e (fun i _ _ => (hf_203 i (by omega))) hGn0), (x_hi_e (fun i _ _ => ((hf_203 i (by omega)).trans ((hf_138 i (by omega)).trans ((hf_110 i (by omega)).trans ((hf_82 i (by omega)).trans (hf_54 i (by omega))))))) hHiP), ⟨(h0), (h1), (h2), (h3), (h4), flB_178, n0B_179, gvB_180, gsB_181, lmB_182, vsB_183, nmB_184, onB_185, slB_186, moB_187, nbB_188, bmB_189, skB_190, s2B_191, vaB_192, spB_193, rfB_194, hc_207, hc_208, hc_209, hc_195, hc_196, hc_197, hc_198, hc_199, hc_200, hc_201, hc_202, hTI2⟩, (fun i hi => ((hf_203 i (by omega)).trans ((hf_138 i (by omega)).trans ((hf_110 i (by omega)).trans ((hf_82 i (by omega)).trans ((hf_54 i (by omega)).trans (hf_25 i (by omega))))))))⟩⟩
end
