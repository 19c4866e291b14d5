section
set_option maxRecDepth 100000 in
set_option maxHeartbeats 4000000 in
theorem c_X10_setSlack (G : GL) (ex : Bool) (n : Nat) (σ : Nat → va_E) (z1 : Int32) (z2 : Int32) (z3 : Int32) (g : Nat → Nat) (nx : Nat) (m : Nat) (ps : Nat → Nat → Nat) (r : Int32) (x : Int32) (hc0 : σ 0 = o10 G (z1) (z2) (z3)) (hn9 : 279 ≤ n) (hG : x_gm G σ 25 g) (hHi : x_hi G σ nx m ps) : CtX G yX10_setSlack cX10_setSlack 5 (some .int) ⟨7, 2, 12, 112⟩ [.ref (q_h G + 0), .int (r), .int (x)] ex n σ (fun v9 σ2 => ∃ (r1 : Nat), ∃ (x1 : Nat), v9 = some (.int (nI (s_rule g r1 18))) ∧ (r = nI r1) ∧ (r1 < g 0) ∧ (x = nI x1) ∧ (0 ≤ x1) ∧ (x1 ≤ 5) ∧ (x_gm G σ2 25 (s_rset g r1 18 x1)) ∧ (x_hi G σ2 ((nx + 1) % 8) (min (m + 1) 8) (x_psh m ps g)) ∧ (∀ i : Nat, i < 25 ∨ (42 < i ∧ i < 78) ∨ 223 < i → σ2 i = σ i)) (fun E σ2 => σ2 = σ ∧ ((E = "java/lang/IndexOutOfBoundsException" ∧ (∀ j : Nat, j < g 0 → r = nI j → False)) ∨ (E = "java/lang/IllegalArgumentException" ∧ (∃ r1 : Nat, r = nI r1 ∧ r1 < g 0 ∧ ∀ j : Nat, 0 ≤ j → j ≤ 5 → x = nI j → False)))) := by
  refine q_enter [some (.ref (q_h G + 0)), some (.int (r)), some (.int (x)), none, none] (by decide) (Nat.le_of_ble_eq_true rfl) rfl ?_
  intro K hg
  obtain ⟨Q, hQ⟩ : ∃ Q, Q = q_Q G K ex n 2 12 (fun v9 n' σ' => n' = n ∧ (fun v9 σ2 => ∃ (r1 : Nat), ∃ (x1 : Nat), v9 = some (.int (nI (s_rule g r1 18))) ∧ (r = nI r1) ∧ (r1 < g 0) ∧ (x = nI x1) ∧ (0 ≤ x1) ∧ (x1 ≤ 5) ∧ (x_gm G σ2 25 (s_rset g r1 18 x1)) ∧ (x_hi G σ2 ((nx + 1) % 8) (min (m + 1) 8) (x_psh m ps g)) ∧ (∀ i : Nat, i < 25 ∨ (42 < i ∧ i < 78) ∨ 223 < i → σ2 i = σ i)) v9 σ') (fun E σ2 => σ2 = σ ∧ ((E = "java/lang/IndexOutOfBoundsException" ∧ (∀ j : Nat, j < g 0 → r = nI j → False)) ∨ (E = "java/lang/IllegalArgumentException" ∧ (∃ r1 : Nat, r = nI r1 ∧ r1 < g 0 ∧ ∀ j : Nat, 0 ≤ j → j ≤ 5 → x = nI j → False)))) := ⟨_, rfl⟩
  refine (?_ : AJ G K (q_Q G K ex n 2 12 _ _) 0 0 ex n 0 _ _ σ)
  rw [← hQ]
  have hG0 := hG
  obtain ⟨kd, fi, se, tf, ts, ac, tu, nm, on, sl, mo, nb, bm, ⟨hg_1, hg_2, hg_3, hg_4, hg_5, hg_6, hg_7, hg_8, hg_9, hg_10, hg_11, hg_12⟩, hgr⟩ := hG
  obtain ⟨hgw, hxp, htp, hrl, hac, htu⟩ := hgr
  have hrs := x_rl_rs hrl
  have hg0 := hgw.1
  have hg1 := hgw.2.1
  have hg2 := hgw.2.2.1
  have hg3 := hgw.2.2.2.1
  have hg6 := hgw.2.2.2.2.1
  have hnp : s_np g = g 1 + g 2 := rfl
  have hgr0 : x_gr g kd fi se tf ts ac tu nm on sl mo nb bm := ⟨hgw, hxp, htp, hrl, hac, htu⟩
  have hHi0 := hHi
  obtain ⟨hnx, hm8, hc78, hc79, hjs, hps⟩ := hHi
  refine A_aload_n hg dX10_setSlack_0 rfl rfl ?_
  refine A_iload_n hg dX10_setSlack_1 rfl rfl ?_
  refine A_pVX (kc2 := 1) (ks2 := 6) (As := [.int (r)]) (rest := []) hg lk_RX10_195 in_X10_needRule se_X10_needRule rfl dX10_setSlack_2 ⟨by decide, by decide⟩ rfl rfl ⟨by decide, by decide⟩ hc0 (by omega) rfl rfl (Nat.le_of_ble_eq_true rfl) (c_X10_needRule G ex n σ z1 z2 z3 (g 0) (g 3) (g 4) (g 5) (g 6) r hc0 hg_1 (by omega) (by omega)) (fun E σx hx => by rw [hQ]; exact A_out hg (by decide) (by decide) (by obtain ⟨hs, hE, hx⟩ := hx; exact ⟨hs, Or.inl (⟨hE, hx⟩)⟩)) ?_
  rintro _ ⟨r1, rfl, hre, hrl9⟩
  refine (?_ : AJ G K Q 1 6 ex n 5 [some (.ref (q_h G + 0)), some (.int (r)), some (.int (x)), none, none] [] σ)
  subst hre
  have hu := hgw.2.2.2.2.2.1 r1 hrl9
  have hrr := hrl r1 hrl9
  have hon := hrr.2.1
  refine A_iload_n hg dX10_setSlack_5 rfl rfl ?_
  refine A_iconst (v := (nI (0))) hg dX10_setSlack_6 (by decide) ?_
  refine A_iconst (v := (nI (5))) hg dX10_setSlack_7 (by decide) ?_
  refine A_pSX (kc2 := 2) (ks2 := 12) (As := [.int (x), .int (nI (0)), .int (nI (5))]) (rest := []) hg lk_RX10_179 st_X10_needRange dX10_setSlack_8 ⟨by decide, by decide⟩ rfl rfl ⟨by decide, by decide⟩ rfl rfl (Nat.le_of_ble_eq_true rfl) (c_X10_needRange G ex n σ x 0 5 (by omega) (by omega)) (fun E σx hx => by rw [hQ]; exact A_out hg (by decide) (by decide) (by obtain ⟨hs, hE, hx⟩ := hx; exact ⟨hs, Or.inr ((⟨hE, r1, rfl, hrl9, hx⟩))⟩)) ?_
  rintro _ ⟨x1, rfl, hxe, hx0, hxl9⟩
  refine (?_ : AJ G K Q 2 12 ex n 11 [some (.ref (q_h G + 0)), some (.int (nI (r1))), some (.int (x)), none, none] [] σ)
  subst hxe
  refine A_aload_n hg dX10_setSlack_11 rfl rfl ?_
  refine A_getf (v := .ref (q_h G + 78)) hg fl_RX10_54 dX10_setSlack_12 hc0 (by omega) rfl ?_
  refine A_aload_n hg dX10_setSlack_15 rfl rfl ?_
  refine A_getf (v := .ref (q_h G + 25)) hg fl_RX10_40 dX10_setSlack_16 hc0 (by omega) rfl ?_
  refine A_vV (kc2 := 2) (ks2 := 12) (As := [.ref (q_h G + 25)]) (rest := []) hg lk_RX10_389 in_X2_push se_X2_push rfl dX10_setSlack_19 ⟨by decide, by decide⟩ rfl rfl ⟨by decide, by decide⟩ hc78 (by omega) rfl rfl (Nat.le_of_ble_eq_true rfl) (c_X2_push G ex n σ nx m 25 g hc78 hc79 (by omega) (by omega) (by omega) rfl (hjs nx hnx) hG0) ?_
  rintro σ_15 ⟨hG9, hc_13, hf_14⟩
  have hc_16 : σ_15 0 = o10 G (z1) (z2) (z3) := (hf_14 _ (by omega)).trans hc0
  have hc_17 : σ_15 25 = o0 G (25) (nI (g 0)) (nI (g 3)) (nI (g 4)) (nI (g 5)) (nI (g 6)) := (hf_14 _ (by omega)).trans hg_1
  have hc_18 : σ_15 26 = q_rn G 3 4 (fun j => some (25 + 10 + 2 * j)) := (hf_14 _ (by omega)).trans hg_2
  have hc_19 : σ_15 27 = o6 G (27) (nI (g 1)) (nI (g 2)) := (hf_14 _ (by omega)).trans hg_3
  have hc_20 : σ_15 (27 + 1) = q_an G 8 kd := (hf_14 _ (by omega)).trans hg_4
  have hc_21 : σ_15 (27 + 2) = q_an G 8 fi := (hf_14 _ (by omega)).trans hg_5
  have hc_22 : σ_15 (27 + 3) = q_an G 8 se := (hf_14 _ (by omega)).trans hg_6
  have hc_23 : σ_15 (27 + 4) = q_an G 8 tf := (hf_14 _ (by omega)).trans hg_7
  have hc_24 : σ_15 (27 + 5) = q_an G 8 ts := (hf_14 _ (by omega)).trans hg_8
  have hc_25 : σ_15 (25 + 8) = q_an G 10 ac := (hf_14 _ (by omega)).trans hg_9
  have hc_26 : σ_15 (25 + 9) = q_an G 100 tu := (hf_14 _ (by omega)).trans hg_10
  have hc_27 : ∀ j9 : Nat, j9 < 4 → σ_15 (25 + 10 + 2 * j9) = o7 G (25 + 10 + 2 * j9) (lN (nm j9)) (lN (on j9)) (nI (sl j9)) (nI (mo j9)) (nI (nb j9)) := fun j9 hj0 => (hf_14 _ (by omega)).trans (hg_11 j9 (by omega))
  have hc_28 : ∀ j9 : Nat, j9 < 4 → σ_15 (25 + 10 + 2 * j9 + 1) = q_an G 5 (bm j9) := fun j9 hj0 => (hf_14 _ (by omega)).trans (hg_12 j9 (by omega))
  have hc_29 : σ_15 79 = q_rn G 2 8 (fun j => some (80 + 18 * j)) := (hf_14 _ (by omega)).trans hc79
  have hHiP := x_hi_push hHi0 hG9 hc_13 (fun i a b => hf_14 i (by omega))
  refine A_aload_n hg dX10_setSlack_22 rfl rfl ?_
  refine A_getf (v := .ref (q_h G + 25)) hg fl_RX10_40 dX10_setSlack_23 hc_16 (by omega) rfl ?_
  refine A_iload_n hg dX10_setSlack_26 rfl rfl ?_
  refine A_eV (kc2 := 2) (ks2 := 12) (As := [.int (nI (r1))]) (rest := []) hg lk_RX10_198 in_X0_ruleAt se_X0_ruleAt rfl dX10_setSlack_27 ⟨by decide, by decide⟩ rfl rfl ⟨by decide, by decide⟩ hc_17 (by omega) rfl rfl (Nat.le_of_ble_eq_true rfl) (c_X0_ruleAt G ex n σ_15 25 (g 0) (g 3) (g 4) (g 5) (g 6) r1 hc_17 hc_18 (by omega) (by omega)) ?_
  refine A_astore_n hg dX10_setSlack_30 rfl (by decide) (q_c1d rfl) ?_
  refine A_eq (ls2 := [some (.ref (q_h G + 0)), some (.int (nI (r1))), some (.int (nI (x1))), some (.ref (q_h G + (25 + 10 + 2 * r1))), none]) (st2 := []) (pc2 := 0) rfl rfl ?_
  refine A_aload_n hg dX10_setSlack_31 rfl rfl ?_
  refine A_getf (v := .int (nI (sl r1))) hg fl_RX10_202 dX10_setSlack_32 (hc_27 r1 (by omega)) (by omega) rfl ?_
  refine A_istore hg dX10_setSlack_35 (by decide) (q_c1d rfl) ?_
  refine A_eq (ls2 := [some (.ref (q_h G + 0)), some (.int (nI (r1))), some (.int (nI (x1))), some (.ref (q_h G + (25 + 10 + 2 * r1))), some (.int (nI (sl r1)))]) (st2 := []) (pc2 := 0) rfl rfl ?_
  refine A_aload_n hg dX10_setSlack_37 rfl rfl ?_
  refine A_iload_n hg dX10_setSlack_38 rfl rfl ?_
  refine A_putf hg fl_RX10_202 dX10_setSlack_39 (hc_27 r1 (by omega)) (by omega) (Nat.le_of_ble_eq_true rfl) rfl rfl rfl (fun σ_30 hc_31 hf_32 => ?_)
  have hc_31 : σ_30 (25 + 10 + 2 * r1) = o7 G (25 + 10 + 2 * r1) (lN (nm r1)) (lN (on r1)) (nI (x1)) (nI (mo r1)) (nI (nb r1)) := hc_31
  have hc_33 : σ_30 0 = o10 G (z1) (z2) (z3) := (hf_32 _ (by omega)).trans hc_16
  have hc_34 : σ_30 25 = o0 G (25) (nI (g 0)) (nI (g 3)) (nI (g 4)) (nI (g 5)) (nI (g 6)) := (hf_32 _ (by omega)).trans hc_17
  have hc_35 : σ_30 26 = q_rn G 3 4 (fun j => some (25 + 10 + 2 * j)) := (hf_32 _ (by omega)).trans hc_18
  have hc_36 : σ_30 27 = o6 G (27) (nI (g 1)) (nI (g 2)) := (hf_32 _ (by omega)).trans hc_19
  have hc_37 : σ_30 (27 + 1) = q_an G 8 kd := (hf_32 _ (by omega)).trans hc_20
  have hc_38 : σ_30 (27 + 2) = q_an G 8 fi := (hf_32 _ (by omega)).trans hc_21
  have hc_39 : σ_30 (27 + 3) = q_an G 8 se := (hf_32 _ (by omega)).trans hc_22
  have hc_40 : σ_30 (27 + 4) = q_an G 8 tf := (hf_32 _ (by omega)).trans hc_23
  have hc_41 : σ_30 (27 + 5) = q_an G 8 ts := (hf_32 _ (by omega)).trans hc_24
  have hc_42 : σ_30 (25 + 8) = q_an G 10 ac := (hf_32 _ (by omega)).trans hc_25
  have hc_43 : σ_30 (25 + 9) = q_an G 100 tu := (hf_32 _ (by omega)).trans hc_26
  have hc_44 : ∀ j9 : Nat, j9 < 4 → j9 ≠ r1 → σ_30 (25 + 10 + 2 * j9) = o7 G (25 + 10 + 2 * j9) (lN (nm j9)) (lN (on j9)) (nI (sl j9)) (nI (mo j9)) (nI (nb j9)) := fun j9 hj0 hj1 => (hf_32 _ (by omega)).trans (hc_27 j9 (by omega))
  have hc_45 : ∀ j9 : Nat, j9 < 4 → σ_30 (25 + 10 + 2 * j9 + 1) = q_an G 5 (bm j9) := fun j9 hj0 => (hf_32 _ (by omega)).trans (hc_28 j9 (by omega))
  have hc_46 : σ_30 79 = q_rn G 2 8 (fun j => some (80 + 18 * j)) := (hf_32 _ (by omega)).trans hc_29
  have hc_47 : σ_30 78 = o2 G (78) (nI ((nx + 1) % 8)) (nI (min (m + 1) 8)) := (hf_32 _ (by omega)).trans hc_13
  have hc_48 : ∀ j9 : Nat, j9 < 4 → σ_30 (25 + 10 + 2 * j9) = o7 G (25 + 10 + 2 * j9) (lN (nm j9)) (lN (on j9)) (nI (va_up sl r1 x1 j9)) (nI (mo j9)) (nI (nb j9)) := by
    intro j9 hj0
    by_cases ej : j9 = r1
    · rw [ej]; exact hc_31.trans (by rw [va_up_at])
    · exact (hc_44 j9 (by omega) ej).trans (by rw [va_up_off ej])
  refine A_iload hg dX10_setSlack_42 rfl ?_
  have hrx : x_rr (s_rule (s_rset g r1 18 x1) r1) (nm r1) (on r1) (va_up sl r1 x1 r1) (mo r1) (nb r1) (bm r1) := by
    have h9 := x_rr_18 (w := s_rule (s_rset g r1 18 x1) r1) (fun j h1 h2 => by rw [s_rset_at, if_neg h2]) hu hrr
    rw [s_rset_at, if_pos rfl] at h9
    rw [va_up_at]; exact h9
  rw [hQ]
  exact A_ireturn hg (by decide) (by decide) rfl dX10_setSlack_44 ⟨rfl, ⟨r1, x1, (by rw [hrr.2.2.2.1]), rfl, hrl9, rfl, hx0, hxl9, (x_gm_row hrl9 (fun j hj => va_up_off (by omega)) (s_rwf_18 hu hxl9) (fun q hq => ⟨rfl, rfl, va_up_off hq, rfl, rfl, rfl⟩) hrx hgr0 ⟨hc_34, hc_35, hc_36, hc_37, hc_38, hc_39, hc_40, hc_41, hc_42, hc_43, hc_48, hc_45⟩), (x_hi_e (fun i _ _ => (hf_32 i (by omega))) hHiP), (fun i hi => ((hf_32 i (by omega)).trans (hf_14 i (by omega))))⟩⟩
set_option maxRecDepth 100000 in
set_option maxHeartbeats 4000000 in
theorem c_X10_setMost (G : GL) (ex : Bool) (n : Nat) (σ : Nat → va_E) (z1 : Int32) (z2 : Int32) (z3 : Int32) (g : Nat → Nat) (nx : Nat) (m : Nat) (ps : Nat → Nat → Nat) (r : Int32) (x : Int32) (hc0 : σ 0 = o10 G (z1) (z2) (z3)) (hn9 : 279 ≤ n) (hG : x_gm G σ 25 g) (hHi : x_hi G σ nx m ps) : CtX G yX10_setMost cX10_setMost 5 (some .int) ⟨7, 2, 12, 112⟩ [.ref (q_h G + 0), .int (r), .int (x)] ex n σ (fun v9 σ2 => ∃ (r1 : Nat), ∃ (x1 : Nat), v9 = some (.int (nI (s_rule g r1 19))) ∧ (r = nI r1) ∧ (r1 < g 0) ∧ (x = nI x1) ∧ (1 ≤ x1) ∧ (x1 ≤ 40) ∧ (x_gm G σ2 25 (s_rset g r1 19 x1)) ∧ (x_hi G σ2 ((nx + 1) % 8) (min (m + 1) 8) (x_psh m ps g)) ∧ (∀ i : Nat, i < 25 ∨ (42 < i ∧ i < 78) ∨ 223 < i → σ2 i = σ i)) (fun E σ2 => σ2 = σ ∧ ((E = "java/lang/IndexOutOfBoundsException" ∧ (∀ j : Nat, j < g 0 → r = nI j → False)) ∨ (E = "java/lang/IllegalArgumentException" ∧ (∃ r1 : Nat, r = nI r1 ∧ r1 < g 0 ∧ ∀ j : Nat, 1 ≤ j → j ≤ 40 → x = nI j → False)))) := by
  refine q_enter [some (.ref (q_h G + 0)), some (.int (r)), some (.int (x)), none, none] (by decide) (Nat.le_of_ble_eq_true rfl) rfl ?_
  intro K hg
  obtain ⟨Q, hQ⟩ : ∃ Q, Q = q_Q G K ex n 2 12 (fun v9 n' σ' => n' = n ∧ (fun v9 σ2 => ∃ (r1 : Nat), ∃ (x1 : Nat), v9 = some (.int (nI (s_rule g r1 19))) ∧ (r = nI r1) ∧ (r1 < g 0) ∧ (x = nI x1) ∧ (1 ≤ x1) ∧ (x1 ≤ 40) ∧ (x_gm G σ2 25 (s_rset g r1 19 x1)) ∧ (x_hi G σ2 ((nx + 1) % 8) (min (m + 1) 8) (x_psh m ps g)) ∧ (∀ i : Nat, i < 25 ∨ (42 < i ∧ i < 78) ∨ 223 < i → σ2 i = σ i)) v9 σ') (fun E σ2 => σ2 = σ ∧ ((E = "java/lang/IndexOutOfBoundsException" ∧ (∀ j : Nat, j < g 0 → r = nI j → False)) ∨ (E = "java/lang/IllegalArgumentException" ∧ (∃ r1 : Nat, r = nI r1 ∧ r1 < g 0 ∧ ∀ j : Nat, 1 ≤ j → j ≤ 40 → x = nI j → False)))) := ⟨_, rfl⟩
  refine (?_ : AJ G K (q_Q G K ex n 2 12 _ _) 0 0 ex n 0 _ _ σ)
  rw [← hQ]
  have hG0 := hG
  obtain ⟨kd, fi, se, tf, ts, ac, tu, nm, on, sl, mo, nb, bm, ⟨hg_1, hg_2, hg_3, hg_4, hg_5, hg_6, hg_7, hg_8, hg_9, hg_10, hg_11, hg_12⟩, hgr⟩ := hG
  obtain ⟨hgw, hxp, htp, hrl, hac, htu⟩ := hgr
  have hrs := x_rl_rs hrl
  have hg0 := hgw.1
  have hg1 := hgw.2.1
  have hg2 := hgw.2.2.1
  have hg3 := hgw.2.2.2.1
  have hg6 := hgw.2.2.2.2.1
  have hnp : s_np g = g 1 + g 2 := rfl
  have hgr0 : x_gr g kd fi se tf ts ac tu nm on sl mo nb bm := ⟨hgw, hxp, htp, hrl, hac, htu⟩
  have hHi0 := hHi
  obtain ⟨hnx, hm8, hc78, hc79, hjs, hps⟩ := hHi
  refine A_aload_n hg dX10_setMost_0 rfl rfl ?_
  refine A_iload_n hg dX10_setMost_1 rfl rfl ?_
  refine A_pVX (kc2 := 1) (ks2 := 6) (As := [.int (r)]) (rest := []) hg lk_RX10_195 in_X10_needRule se_X10_needRule rfl dX10_setMost_2 ⟨by decide, by decide⟩ rfl rfl ⟨by decide, by decide⟩ hc0 (by omega) rfl rfl (Nat.le_of_ble_eq_true rfl) (c_X10_needRule G ex n σ z1 z2 z3 (g 0) (g 3) (g 4) (g 5) (g 6) r hc0 hg_1 (by omega) (by omega)) (fun E σx hx => by rw [hQ]; exact A_out hg (by decide) (by decide) (by obtain ⟨hs, hE, hx⟩ := hx; exact ⟨hs, Or.inl (⟨hE, hx⟩)⟩)) ?_
  rintro _ ⟨r1, rfl, hre, hrl9⟩
  refine (?_ : AJ G K Q 1 6 ex n 5 [some (.ref (q_h G + 0)), some (.int (r)), some (.int (x)), none, none] [] σ)
  subst hre
  have hu := hgw.2.2.2.2.2.1 r1 hrl9
  have hrr := hrl r1 hrl9
  have hon := hrr.2.1
  refine A_iload_n hg dX10_setMost_5 rfl rfl ?_
  refine A_iconst (v := (nI (1))) hg dX10_setMost_6 (by decide) ?_
  refine A_bipush (v := (nI (40))) hg dX10_setMost_7 (by decide) ?_
  refine A_pSX (kc2 := 2) (ks2 := 12) (As := [.int (x), .int (nI (1)), .int (nI (40))]) (rest := []) hg lk_RX10_179 st_X10_needRange dX10_setMost_9 ⟨by decide, by decide⟩ rfl rfl ⟨by decide, by decide⟩ rfl rfl (Nat.le_of_ble_eq_true rfl) (c_X10_needRange G ex n σ x 1 40 (by omega) (by omega)) (fun E σx hx => by rw [hQ]; exact A_out hg (by decide) (by decide) (by obtain ⟨hs, hE, hx⟩ := hx; exact ⟨hs, Or.inr ((⟨hE, r1, rfl, hrl9, hx⟩))⟩)) ?_
  rintro _ ⟨x1, rfl, hxe, hx0, hxl9⟩
  refine (?_ : AJ G K Q 2 12 ex n 12 [some (.ref (q_h G + 0)), some (.int (nI (r1))), some (.int (x)), none, none] [] σ)
  subst hxe
  refine A_aload_n hg dX10_setMost_12 rfl rfl ?_
  refine A_getf (v := .ref (q_h G + 78)) hg fl_RX10_54 dX10_setMost_13 hc0 (by omega) rfl ?_
  refine A_aload_n hg dX10_setMost_16 rfl rfl ?_
  refine A_getf (v := .ref (q_h G + 25)) hg fl_RX10_40 dX10_setMost_17 hc0 (by omega) rfl ?_
  refine A_vV (kc2 := 2) (ks2 := 12) (As := [.ref (q_h G + 25)]) (rest := []) hg lk_RX10_389 in_X2_push se_X2_push rfl dX10_setMost_20 ⟨by decide, by decide⟩ rfl rfl ⟨by decide, by decide⟩ hc78 (by omega) rfl rfl (Nat.le_of_ble_eq_true rfl) (c_X2_push G ex n σ nx m 25 g hc78 hc79 (by omega) (by omega) (by omega) rfl (hjs nx hnx) hG0) ?_
  rintro σ_15 ⟨hG9, hc_13, hf_14⟩
  have hc_16 : σ_15 0 = o10 G (z1) (z2) (z3) := (hf_14 _ (by omega)).trans hc0
  have hc_17 : σ_15 25 = o0 G (25) (nI (g 0)) (nI (g 3)) (nI (g 4)) (nI (g 5)) (nI (g 6)) := (hf_14 _ (by omega)).trans hg_1
  have hc_18 : σ_15 26 = q_rn G 3 4 (fun j => some (25 + 10 + 2 * j)) := (hf_14 _ (by omega)).trans hg_2
  have hc_19 : σ_15 27 = o6 G (27) (nI (g 1)) (nI (g 2)) := (hf_14 _ (by omega)).trans hg_3
  have hc_20 : σ_15 (27 + 1) = q_an G 8 kd := (hf_14 _ (by omega)).trans hg_4
  have hc_21 : σ_15 (27 + 2) = q_an G 8 fi := (hf_14 _ (by omega)).trans hg_5
  have hc_22 : σ_15 (27 + 3) = q_an G 8 se := (hf_14 _ (by omega)).trans hg_6
  have hc_23 : σ_15 (27 + 4) = q_an G 8 tf := (hf_14 _ (by omega)).trans hg_7
  have hc_24 : σ_15 (27 + 5) = q_an G 8 ts := (hf_14 _ (by omega)).trans hg_8
  have hc_25 : σ_15 (25 + 8) = q_an G 10 ac := (hf_14 _ (by omega)).trans hg_9
  have hc_26 : σ_15 (25 + 9) = q_an G 100 tu := (hf_14 _ (by omega)).trans hg_10
  have hc_27 : ∀ j9 : Nat, j9 < 4 → σ_15 (25 + 10 + 2 * j9) = o7 G (25 + 10 + 2 * j9) (lN (nm j9)) (lN (on j9)) (nI (sl j9)) (nI (mo j9)) (nI (nb j9)) := fun j9 hj0 => (hf_14 _ (by omega)).trans (hg_11 j9 (by omega))
  have hc_28 : ∀ j9 : Nat, j9 < 4 → σ_15 (25 + 10 + 2 * j9 + 1) = q_an G 5 (bm j9) := fun j9 hj0 => (hf_14 _ (by omega)).trans (hg_12 j9 (by omega))
  have hc_29 : σ_15 79 = q_rn G 2 8 (fun j => some (80 + 18 * j)) := (hf_14 _ (by omega)).trans hc79
  have hHiP := x_hi_push hHi0 hG9 hc_13 (fun i a b => hf_14 i (by omega))
  refine A_aload_n hg dX10_setMost_23 rfl rfl ?_
  refine A_getf (v := .ref (q_h G + 25)) hg fl_RX10_40 dX10_setMost_24 hc_16 (by omega) rfl ?_
  refine A_iload_n hg dX10_setMost_27 rfl rfl ?_
  refine A_eV (kc2 := 2) (ks2 := 12) (As := [.int (nI (r1))]) (rest := []) hg lk_RX10_198 in_X0_ruleAt se_X0_ruleAt rfl dX10_setMost_28 ⟨by decide, by decide⟩ rfl rfl ⟨by decide, by decide⟩ hc_17 (by omega) rfl rfl (Nat.le_of_ble_eq_true rfl) (c_X0_ruleAt G ex n σ_15 25 (g 0) (g 3) (g 4) (g 5) (g 6) r1 hc_17 hc_18 (by omega) (by omega)) ?_
  refine A_astore_n hg dX10_setMost_31 rfl (by decide) (q_c1d rfl) ?_
  refine A_eq (ls2 := [some (.ref (q_h G + 0)), some (.int (nI (r1))), some (.int (nI (x1))), some (.ref (q_h G + (25 + 10 + 2 * r1))), none]) (st2 := []) (pc2 := 0) rfl rfl ?_
  refine A_aload_n hg dX10_setMost_32 rfl rfl ?_
  refine A_getf (v := .int (nI (mo r1))) hg fl_RX10_205 dX10_setMost_33 (hc_27 r1 (by omega)) (by omega) rfl ?_
  refine A_istore hg dX10_setMost_36 (by decide) (q_c1d rfl) ?_
  refine A_eq (ls2 := [some (.ref (q_h G + 0)), some (.int (nI (r1))), some (.int (nI (x1))), some (.ref (q_h G + (25 + 10 + 2 * r1))), some (.int (nI (mo r1)))]) (st2 := []) (pc2 := 0) rfl rfl ?_
  refine A_aload_n hg dX10_setMost_38 rfl rfl ?_
  refine A_iload_n hg dX10_setMost_39 rfl rfl ?_
  refine A_putf hg fl_RX10_205 dX10_setMost_40 (hc_27 r1 (by omega)) (by omega) (Nat.le_of_ble_eq_true rfl) rfl rfl rfl (fun σ_30 hc_31 hf_32 => ?_)
  have hc_31 : σ_30 (25 + 10 + 2 * r1) = o7 G (25 + 10 + 2 * r1) (lN (nm r1)) (lN (on r1)) (nI (sl r1)) (nI (x1)) (nI (nb r1)) := hc_31
  have hc_33 : σ_30 0 = o10 G (z1) (z2) (z3) := (hf_32 _ (by omega)).trans hc_16
  have hc_34 : σ_30 25 = o0 G (25) (nI (g 0)) (nI (g 3)) (nI (g 4)) (nI (g 5)) (nI (g 6)) := (hf_32 _ (by omega)).trans hc_17
  have hc_35 : σ_30 26 = q_rn G 3 4 (fun j => some (25 + 10 + 2 * j)) := (hf_32 _ (by omega)).trans hc_18
  have hc_36 : σ_30 27 = o6 G (27) (nI (g 1)) (nI (g 2)) := (hf_32 _ (by omega)).trans hc_19
  have hc_37 : σ_30 (27 + 1) = q_an G 8 kd := (hf_32 _ (by omega)).trans hc_20
  have hc_38 : σ_30 (27 + 2) = q_an G 8 fi := (hf_32 _ (by omega)).trans hc_21
  have hc_39 : σ_30 (27 + 3) = q_an G 8 se := (hf_32 _ (by omega)).trans hc_22
  have hc_40 : σ_30 (27 + 4) = q_an G 8 tf := (hf_32 _ (by omega)).trans hc_23
  have hc_41 : σ_30 (27 + 5) = q_an G 8 ts := (hf_32 _ (by omega)).trans hc_24
  have hc_42 : σ_30 (25 + 8) = q_an G 10 ac := (hf_32 _ (by omega)).trans hc_25
  have hc_43 : σ_30 (25 + 9) = q_an G 100 tu := (hf_32 _ (by omega)).trans hc_26
  have hc_44 : ∀ j9 : Nat, j9 < 4 → j9 ≠ r1 → σ_30 (25 + 10 + 2 * j9) = o7 G (25 + 10 + 2 * j9) (lN (nm j9)) (lN (on j9)) (nI (sl j9)) (nI (mo j9)) (nI (nb j9)) := fun j9 hj0 hj1 => (hf_32 _ (by omega)).trans (hc_27 j9 (by omega))
  have hc_45 : ∀ j9 : Nat, j9 < 4 → σ_30 (25 + 10 + 2 * j9 + 1) = q_an G 5 (bm j9) := fun j9 hj0 => (hf_32 _ (by omega)).trans (hc_28 j9 (by omega))
  have hc_46 : σ_30 79 = q_rn G 2 8 (fun j => some (80 + 18 * j)) := (hf_32 _ (by omega)).trans hc_29
  have hc_47 : σ_30 78 = o2 G (78) (nI ((nx + 1) % 8)) (nI (min (m + 1) 8)) := (hf_32 _ (by omega)).trans hc_13
  have hc_48 : ∀ j9 : Nat, j9 < 4 → σ_30 (25 + 10 + 2 * j9) = o7 G (25 + 10 + 2 * j9) (lN (nm j9)) (lN (on j9)) (nI (sl j9)) (nI (va_up mo r1 x1 j9)) (nI (nb j9)) := by
    intro j9 hj0
    by_cases ej : j9 = r1
    · rw [ej]; exact hc_31.trans (by rw [va_up_at])
    · exact (hc_44 j9 (by omega) ej).trans (by rw [va_up_off ej])
  refine A_iload hg dX10_setMost_43 rfl ?_
  have hrx : x_rr (s_rule (s_rset g r1 19 x1) r1) (nm r1) (on r1) (sl r1) (va_up mo r1 x1 r1) (nb r1) (bm r1) := by
    have h9 := x_rr_19 (w := s_rule (s_rset g r1 19 x1) r1) (fun j h1 h2 => by rw [s_rset_at, if_neg h2]) hu hrr
    rw [s_rset_at, if_pos rfl] at h9
    rw [va_up_at]; exact h9
  rw [hQ]
  exact A_ireturn hg (by decide) (by decide) rfl dX10_setMost_45 ⟨rfl, ⟨r1, x1, (by rw [hrr.2.2.2.2.1]), rfl, hrl9, rfl, hx0, hxl9, (x_gm_row hrl9 (fun j hj => va_up_off (by omega)) (s_rwf_19 hu hxl9) (fun q hq => ⟨rfl, rfl, rfl, va_up_off hq, rfl, rfl⟩) hrx hgr0 ⟨hc_34, hc_35, hc_36, hc_37, hc_38, hc_39, hc_40, hc_41, hc_42, hc_43, hc_48, hc_45⟩), (x_hi_e (fun i _ _ => (hf_32 i (by omega))) hHiP), (fun i hi => ((hf_32 i (by omega)).trans (hf_14 i (by omega))))⟩⟩
end
