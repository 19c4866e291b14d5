section
set_option maxRecDepth 100000 in
set_option maxHeartbeats 4000000 in
theorem c_X3_readBoard (G : GL) (ex : Bool) (n : Nat) (σ : Nat → va_E) (f : Nat → Nat) (m : Nat) (t : Nat) (nu : Int32) (ft : Nat) (g : Nat → Nat) (pl : Nat) (tn : Nat) (gm : Nat) (tk : Nat) (nm : Nat → Nat) (on : Nat → Nat) (sl : Nat → Nat) (mo : Nat → Nat) (nb : Nat → Nat) (bm : Nat → Nat → Nat) (kd : Nat → Nat) (fi : Nat → Nat) (se : Nat → Nat) (tf : Nat → Nat) (ts : Nat → Nat) (hc0 : σ 2 = o3 G (2) (nI (ft)) (nI (0)) (q_d (0))) (hc1 : σ 3 = o9 G (1) (nI (m)) (nI (x_kd f m t)) (nI (t)) (nI (tk_be f m t)) (nu)) (hc2 : σ 1 = q_an G 600 f) (hc3 : σ 5 = o0 G (5) (nI (g 0)) (nI (pl)) (nI (tn)) (nI (gm)) (nI (tk))) (hc4 : σ 6 = q_rn G 3 4 (fun j => some (5 + 10 + 2 * j))) (hc5 : ∀ j9 : Nat, j9 < 4 → σ (5 + 10 + 2 * j9) = o7 G (5 + 10 + 2 * j9) (lN (nm j9)) (lN (on j9)) (nI (sl j9)) (nI (mo j9)) (nI (nb j9))) (hc6 : σ 7 = o6 G (7) (nI (g 1)) (nI (g 2))) (hc7 : σ (7 + 1) = q_an G 8 kd) (hc8 : σ (7 + 2) = q_an G 8 fi) (hc9 : σ (7 + 3) = q_an G 8 se) (hc10 : σ (7 + 4) = q_an G 8 tf) (hc11 : σ (7 + 5) = q_an G 8 ts) (hn9 : 279 ≤ n) (hm6 : m ≤ 600) (hbb : ∀ k : Nat, s_byte f m k ≤ 256) (ht9 : t ≤ m) (hnu : tk_kd f m t = 2 → nu = nI (tk_vl f m t)) (hinv : rd_inv g) (hrl : x_rl g (g 0) nm on sl mo nb bm) (hxp : x_p g kd fi se) (htp : x_tp g tf ts) : Ct G yX3_readBoard cX3_readBoard 4 (some .boolean) ⟨3, 0, 0, 67⟩ [.ref (q_h G + 2)] ex n σ (fun v9 σ2 => (∃ (c : Nat), ∃ (o : Nat), ∃ (kd2 : Int32), ∃ (st2 : Int32), ∃ (be2 : Int32), ∃ (nu2 : Int32), ∃ (bE : Nat), ∃ (skE : Nat), ∃ (kdE : Nat → Nat), ∃ (fiE : Nat → Nat), ∃ (seE : Nat → Nat), ∃ (tfE : Nat → Nat), ∃ (tsE : Nat → Nat), v9 = some (.int (nI (0))) ∧ (rd_d f m g t = .inl (c, o)) ∧ (¬ c = 0) ∧ σ2 2 = o3 G (2) (nI (ft)) (nI (c)) (nI (o)) ∧ σ2 3 = o9 G (1) (nI (m)) (kd2) (st2) (be2) (nu2) ∧ σ2 7 = o6 G (7) (nI (bE)) (nI (skE)) ∧ σ2 8 = q_an G 8 kdE ∧ σ2 9 = q_an G 8 fiE ∧ σ2 10 = q_an G 8 seE ∧ σ2 11 = q_an G 8 tfE ∧ σ2 12 = q_an G 8 tsE ∧ (∀ i : Nat, i ≠ 2 ∧ i ≠ 3 ∧ (i < 7 ∨ 12 < i) → σ2 i = σ i)) ∨ (∃ (g' : Nat → Nat), ∃ (t2 : Nat), ∃ (nu2 : Int32), ∃ (kdE : Nat → Nat), ∃ (fiE : Nat → Nat), ∃ (seE : Nat → Nat), ∃ (tfE : Nat → Nat), ∃ (tsE : Nat → Nat), v9 = some (.int (nI (1))) ∧ (rd_d f m g t = .inr (g', t2)) ∧ (x_p g' kdE fiE seE) ∧ (x_tp g' tfE tsE) ∧ (t2 ≤ m) ∧ (tk_kd f m t2 = 2 → nu2 = nI (tk_vl f m t2)) ∧ σ2 2 = o3 G (2) (nI (ft)) (nI (0)) (q_d (0)) ∧ σ2 3 = o9 G (1) (nI (m)) (nI (x_kd f m t2)) (nI (t2)) (nI (tk_be f m t2)) (nu2) ∧ σ2 7 = o6 G (7) (nI (g' 1)) (nI (g' 2)) ∧ σ2 8 = q_an G 8 kdE ∧ σ2 9 = q_an G 8 fiE ∧ σ2 10 = q_an G 8 seE ∧ σ2 11 = q_an G 8 tfE ∧ σ2 12 = q_an G 8 tsE ∧ (∀ i : Nat, i ≠ 2 ∧ i ≠ 3 ∧ (i < 7 ∨ 12 < i) → σ2 i = σ i))) := by
  refine q_enter [some (.ref (q_h G + 2)), none, none, none] (by decide) (Nat.le_of_ble_eq_true rfl) rfl ?_
  intro K hg
  obtain ⟨Q, hQ⟩ : ∃ Q, Q = q_Q G K ex n 0 0 (fun v9 n' σ' => n' = n ∧ (fun v9 σ2 => (∃ (c : Nat), ∃ (o : Nat), ∃ (kd2 : Int32), ∃ (st2 : Int32), ∃ (be2 : Int32), ∃ (nu2 : Int32), ∃ (bE : Nat), ∃ (skE : Nat), ∃ (kdE : Nat → Nat), ∃ (fiE : Nat → Nat), ∃ (seE : Nat → Nat), ∃ (tfE : Nat → Nat), ∃ (tsE : Nat → Nat), v9 = some (.int (nI (0))) ∧ (rd_d f m g t = .inl (c, o)) ∧ (¬ c = 0) ∧ σ2 2 = o3 G (2) (nI (ft)) (nI (c)) (nI (o)) ∧ σ2 3 = o9 G (1) (nI (m)) (kd2) (st2) (be2) (nu2) ∧ σ2 7 = o6 G (7) (nI (bE)) (nI (skE)) ∧ σ2 8 = q_an G 8 kdE ∧ σ2 9 = q_an G 8 fiE ∧ σ2 10 = q_an G 8 seE ∧ σ2 11 = q_an G 8 tfE ∧ σ2 12 = q_an G 8 tsE ∧ (∀ i : Nat, i ≠ 2 ∧ i ≠ 3 ∧ (i < 7 ∨ 12 < i) → σ2 i = σ i)) ∨ (∃ (g' : Nat → Nat), ∃ (t2 : Nat), ∃ (nu2 : Int32), ∃ (kdE : Nat → Nat), ∃ (fiE : Nat → Nat), ∃ (seE : Nat → Nat), ∃ (tfE : Nat → Nat), ∃ (tsE : Nat → Nat), v9 = some (.int (nI (1))) ∧ (rd_d f m g t = .inr (g', t2)) ∧ (x_p g' kdE fiE seE) ∧ (x_tp g' tfE tsE) ∧ (t2 ≤ m) ∧ (tk_kd f m t2 = 2 → nu2 = nI (tk_vl f m t2)) ∧ σ2 2 = o3 G (2) (nI (ft)) (nI (0)) (q_d (0)) ∧ σ2 3 = o9 G (1) (nI (m)) (nI (x_kd f m t2)) (nI (t2)) (nI (tk_be f m t2)) (nu2) ∧ σ2 7 = o6 G (7) (nI (g' 1)) (nI (g' 2)) ∧ σ2 8 = q_an G 8 kdE ∧ σ2 9 = q_an G 8 fiE ∧ σ2 10 = q_an G 8 seE ∧ σ2 11 = q_an G 8 tfE ∧ σ2 12 = q_an G 8 tsE ∧ (∀ i : Nat, i ≠ 2 ∧ i ≠ 3 ∧ (i < 7 ∨ 12 < i) → σ2 i = σ i))) v9 σ') q_noX := ⟨_, rfl⟩
  refine (?_ : AJ G K (q_Q G K ex n 0 0 _ _) 0 0 ex n 0 _ _ σ)
  rw [← hQ]
  have hbe := tk_be_le (f := f) ht9
  have hbg := tk_be_ge (f := f) (m := m) (t := t)
  have hkl := x_kd_lt f m t
  have hg0 := hinv.1.1
  have hg1 := hinv.1.2.1
  have hg2 := hinv.1.2.2.1
  have hnmb : ∀ r : Nat, r < g 0 → x_nmr (s_rule g r) (nm r) := fun r hr => (hrl r hr).1
  refine A_aload_n hg dX3_readBoard_0 rfl rfl ?_
  refine A_getf (v := .ref (q_h G + 5)) hg fl_RX3_21 dX3_readBoard_1 hc0 (by omega) rfl ?_
  refine A_getf (v := .ref (q_h G + 7)) hg fl_RX3_161 dX3_readBoard_4 hc3 (by omega) rfl ?_
  refine A_getf (v := .int (nI (g 1))) hg fl_RX3_165 dX3_readBoard_7 hc6 (by omega) rfl ?_
  refine A_iconst (v := (nI (4))) hg dX3_readBoard_10 (by decide) ?_
  refine A_icmp_ltN (tgt := 20) hg dX3_readBoard_11 (by omega) (by decide) (by decide) (fun c11 => ?_) (fun c11 => ?_)
  · skip
    refine A_aload_n hg dX3_readBoard_20 rfl rfl ?_
    refine A_getf (v := .ref (q_h G + 3)) hg fl_RX3_12 dX3_readBoard_21 hc0 (by omega) rfl ?_
    refine A_vV (kc2 := 0) (ks2 := 0) (As := []) (rest := []) hg lk_RX3_84 in_X9_advance se_X9_advance rfl dX3_readBoard_24 ⟨by decide, by decide⟩ rfl rfl ⟨by decide, by decide⟩ hc1 (by omega) rfl rfl (Nat.le_of_ble_eq_true rfl) (c_X9_advance G ex n σ f m (nI (x_kd f m t)) (nI (t)) (tk_be f m t) nu hc1 hc2 (by omega) hm6 hbb (by omega)) ?_
    rintro σ_3 ⟨t2, nu3, ht2, hnu2, hc_1, hf_2⟩
    have hc_4 : σ_3 2 = o3 G (2) (nI (ft)) (nI (0)) (q_d (0)) := (hf_2 _ (by omega)).trans hc0
    have hc_5 : σ_3 1 = q_an G 600 f := (hf_2 _ (by omega)).trans hc2
    have hc_6 : σ_3 5 = o0 G (5) (nI (g 0)) (nI (pl)) (nI (tn)) (nI (gm)) (nI (tk)) := (hf_2 _ (by omega)).trans hc3
    have hc_7 : σ_3 6 = q_rn G 3 4 (fun j => some (5 + 10 + 2 * j)) := (hf_2 _ (by omega)).trans hc4
    have hc_8 : ∀ j9 : Nat, j9 < 4 → σ_3 (5 + 10 + 2 * j9) = o7 G (5 + 10 + 2 * j9) (lN (nm j9)) (lN (on j9)) (nI (sl j9)) (nI (mo j9)) (nI (nb j9)) := fun j9 hj0 => (hf_2 _ (by omega)).trans (hc5 j9 (by omega))
    have hc_9 : σ_3 7 = o6 G (7) (nI (g 1)) (nI (g 2)) := (hf_2 _ (by omega)).trans hc6
    have hc_10 : σ_3 (7 + 1) = q_an G 8 kd := (hf_2 _ (by omega)).trans hc7
    have hc_11 : σ_3 (7 + 2) = q_an G 8 fi := (hf_2 _ (by omega)).trans hc8
    have hc_12 : σ_3 (7 + 3) = q_an G 8 se := (hf_2 _ (by omega)).trans hc9
    have hc_13 : σ_3 (7 + 4) = q_an G 8 tf := (hf_2 _ (by omega)).trans hc10
    have hc_14 : σ_3 (7 + 5) = q_an G 8 ts := (hf_2 _ (by omega)).trans hc11
    have htm2 : t2 ≤ m := by rw [ht2]; exact tk_nx_le ht9
    have hbe2 := tk_be_le (f := f) htm2
    refine A_aload_n hg dX3_readBoard_27 rfl rfl ?_
    refine A_getf (v := .ref (q_h G + 3)) hg fl_RX3_12 dX3_readBoard_28 hc_4 (by omega) rfl ?_
    refine A_eV (kc2 := 0) (ks2 := 0) (As := []) (rest := []) hg lk_RX3_87 in_X9_isName se_X9_isName rfl dX3_readBoard_31 ⟨by decide, by decide⟩ rfl rfl ⟨by decide, by decide⟩ hc_1 (by omega) rfl rfl (Nat.le_of_ble_eq_true rfl) (c_X9_isName G ex n σ_3 f m t2 nu3 hc_1 hc_5 (by omega) hm6 hbb htm2) ?_
    refine A_if_neB (tgt := 43) hg dX3_readBoard_34 (by decide) (fun c34 => ?_) (fun c34 => ?_)
    · skip
      refine A_aload_n hg dX3_readBoard_43 rfl rfl ?_
      refine A_getf (v := .ref (q_h G + 5)) hg fl_RX3_21 dX3_readBoard_44 hc_4 (by omega) rfl ?_
      refine A_aload_n hg dX3_readBoard_47 rfl rfl ?_
      refine A_getf (v := .ref (q_h G + 3)) hg fl_RX3_12 dX3_readBoard_48 hc_4 (by omega) rfl ?_
      refine A_eV (kc2 := 0) (ks2 := 0) (As := []) (rest := [.ref (q_h G + 5)]) hg lk_RX3_90 in_X9_name se_X9_name rfl dX3_readBoard_51 ⟨by decide, by decide⟩ rfl rfl ⟨by decide, by decide⟩ hc_1 (by omega) rfl rfl (Nat.le_of_ble_eq_true rfl) (c_X9_name G ex n σ_3 f m t2 nu3 hc_1 hc_5 (by omega) hm6 hbb htm2 c34) ?_
      refine A_hV (kc2 := 0) (ks2 := 0) (As := [.long (lN (x_tn f m t2))]) (rest := []) hg lk_RX3_94 in_X0_ruleNamed se_X0_ruleNamed rfl dX3_readBoard_54 ⟨by decide, by decide⟩ rfl rfl ⟨by decide, by decide⟩ hc_6 (by omega) rfl rfl (Nat.le_of_ble_eq_true rfl) (c_X0_ruleNamed G ex n σ_3 5 (g 0) pl tn gm tk nm on sl mo nb (x_tn f m t2) hc_6 hc_7 hc_8 (by omega) (fun j hj => x_nmr_lt (hnmb j hj)) (x_nmr_lt (x_tn_r c34)) (by omega)) ?_
      rintro _ σ_17 (⟨r9, rfl, hr9, hnr9, hno9, he_15⟩ | ⟨rfl, hno9, he_16⟩)
      · skip
        rw [he_15]
        refine (?_ : AJ G K Q 0 0 ex n 57 [some (.ref (q_h G + 2)), none, none, none] [.int (nI (r9))] σ_3)
        refine A_istore_n hg dX3_readBoard_57 rfl (by decide) (q_c1d rfl) ?_
        refine A_eq (ls2 := [some (.ref (q_h G + 2)), some (.int (nI (r9))), none, none]) (st2 := []) (pc2 := 0) rfl rfl ?_
        refine A_iload_n hg dX3_readBoard_58 rfl rfl ?_
        refine A_iconst (v := (q_d (0))) hg dX3_readBoard_59 (by decide) ?_
        refine A_icmp_ne (tgt := 69) hg dX3_readBoard_60 (by decide) (fun c60 => ?_) (fun c60 => absurd c60 (q_nM (by omega)))
        have hni := x_nmi_t c34 hnmb hr9 hnr9 hno9
        refine A_aload_n hg dX3_readBoard_69 rfl rfl ?_
        refine A_getf (v := .ref (q_h G + 3)) hg fl_RX3_12 dX3_readBoard_70 hc_4 (by omega) rfl ?_
        refine A_vV (kc2 := 0) (ks2 := 0) (As := []) (rest := []) hg lk_RX3_84 in_X9_advance se_X9_advance rfl dX3_readBoard_73 ⟨by decide, by decide⟩ rfl rfl ⟨by decide, by decide⟩ hc_1 (by omega) rfl rfl (Nat.le_of_ble_eq_true rfl) (c_X9_advance G ex n σ_3 f m (nI (x_kd f m t2)) (nI (t2)) (tk_be f m t2) nu3 hc_1 hc_5 (by omega) hm6 hbb (by omega)) ?_
        rintro σ_20 ⟨t3, nu4, ht3, hnu3, hc_18, hf_19⟩
        have hc_21 : σ_20 2 = o3 G (2) (nI (ft)) (nI (0)) (q_d (0)) := (hf_19 _ (by omega)).trans hc_4
        have hc_22 : σ_20 1 = q_an G 600 f := (hf_19 _ (by omega)).trans hc_5
        have hc_23 : σ_20 5 = o0 G (5) (nI (g 0)) (nI (pl)) (nI (tn)) (nI (gm)) (nI (tk)) := (hf_19 _ (by omega)).trans hc_6
        have hc_24 : σ_20 6 = q_rn G 3 4 (fun j => some (5 + 10 + 2 * j)) := (hf_19 _ (by omega)).trans hc_7
        have hc_25 : ∀ j9 : Nat, j9 < 4 → σ_20 (5 + 10 + 2 * j9) = o7 G (5 + 10 + 2 * j9) (lN (nm j9)) (lN (on j9)) (nI (sl j9)) (nI (mo j9)) (nI (nb j9)) := fun j9 hj0 => (hf_19 _ (by omega)).trans (hc_8 j9 (by omega))
        have hc_26 : σ_20 7 = o6 G (7) (nI (g 1)) (nI (g 2)) := (hf_19 _ (by omega)).trans hc_9
        have hc_27 : σ_20 (7 + 1) = q_an G 8 kd := (hf_19 _ (by omega)).trans hc_10
        have hc_28 : σ_20 (7 + 2) = q_an G 8 fi := (hf_19 _ (by omega)).trans hc_11
        have hc_29 : σ_20 (7 + 3) = q_an G 8 se := (hf_19 _ (by omega)).trans hc_12
        have hc_30 : σ_20 (7 + 4) = q_an G 8 tf := (hf_19 _ (by omega)).trans hc_13
        have hc_31 : σ_20 (7 + 5) = q_an G 8 ts := (hf_19 _ (by omega)).trans hc_14
        have htm3 : t3 ≤ m := by rw [ht3]; exact tk_nx_le htm2
        refine A_aload_n hg dX3_readBoard_76 rfl rfl ?_
        refine A_iconst (v := (nI (0))) hg dX3_readBoard_77 (by decide) ?_
        refine A_bipush (v := (nI (40))) hg dX3_readBoard_78 (by decide) ?_
        refine A_hV (kc2 := 0) (ks2 := 0) (As := [.int (nI (0)), .int (nI (40))]) (rest := []) hg lk_RX3_139 in_X3_readNumber se_X3_readNumber rfl dX3_readBoard_80 ⟨by decide, by decide⟩ rfl rfl ⟨by decide, by decide⟩ hc_21 (by omega) rfl rfl (Nat.le_of_ble_eq_true rfl) (c_X3_readNumber G ex n σ_20 f m t3 nu4 ft 0 40 hc_21 hc_18 hc_22 (by omega) hm6 hbb htm3 hnu3 (by omega) (by omega)) ?_
        rintro _ σ_36 (⟨rfl, hncA, hc_32, hf_33⟩ | ⟨tA, nuA, rfl, hncA, htA, htmA, hnuA, hc_34, hf_35⟩)
        · skip
          refine (?_ : AJ G K Q 0 0 ex n 83 [some (.ref (q_h G + 2)), some (.int (nI (r9))), none, none] [.int (nI (0))] σ_36)
          have hc_37 : σ_36 1 = q_an G 600 f := (hf_33 _ (by omega)).trans hc_22
          have hc_38 : σ_36 5 = o0 G (5) (nI (g 0)) (nI (pl)) (nI (tn)) (nI (gm)) (nI (tk)) := (hf_33 _ (by omega)).trans hc_23
          have hc_39 : σ_36 6 = q_rn G 3 4 (fun j => some (5 + 10 + 2 * j)) := (hf_33 _ (by omega)).trans hc_24
          have hc_40 : ∀ j9 : Nat, j9 < 4 → σ_36 (5 + 10 + 2 * j9) = o7 G (5 + 10 + 2 * j9) (lN (nm j9)) (lN (on j9)) (nI (sl j9)) (nI (mo j9)) (nI (nb j9)) := fun j9 hj0 => (hf_33 _ (by omega)).trans (hc_25 j9 (by omega))
          have hc_41 : σ_36 7 = o6 G (7) (nI (g 1)) (nI (g 2)) := (hf_33 _ (by omega)).trans hc_26
          have hc_42 : σ_36 (7 + 1) = q_an G 8 kd := (hf_33 _ (by omega)).trans hc_27
          have hc_43 : σ_36 (7 + 2) = q_an G 8 fi := (hf_33 _ (by omega)).trans hc_28
          have hc_44 : σ_36 (7 + 3) = q_an G 8 se := (hf_33 _ (by omega)).trans hc_29
          have hc_45 : σ_36 (7 + 4) = q_an G 8 tf := (hf_33 _ (by omega)).trans hc_30
          have hc_46 : σ_36 (7 + 5) = q_an G 8 ts := (hf_33 _ (by omega)).trans hc_31
          have hc_47 : σ_36 3 = o9 G (1) (nI (m)) (nI (x_kd f m t3)) (nI (t3)) (nI (tk_be f m t3)) (nu4) := (hf_33 _ (by omega)).trans hc_18
          refine A_istore_n hg dX3_readBoard_83 rfl (by decide) (q_c1d rfl) ?_
          refine A_eq (ls2 := [some (.ref (q_h G + 2)), some (.int (nI (r9))), some (.int (nI (0))), none]) (st2 := []) (pc2 := 0) rfl rfl ?_
          refine A_aload_n hg dX3_readBoard_84 rfl rfl ?_
          refine A_iconst (v := (nI (0))) hg dX3_readBoard_85 (by decide) ?_
          refine A_bipush (v := (nI (40))) hg dX3_readBoard_86 (by decide) ?_
          refine A_eV (kc2 := 0) (ks2 := 0) (As := [.int (nI (0)), .int (nI (40))]) (rest := []) hg lk_RX3_139 in_X3_readNumber se_X3_readNumber rfl dX3_readBoard_88 ⟨by decide, by decide⟩ rfl rfl ⟨by decide, by decide⟩ hc_32 (by omega) rfl rfl (Nat.le_of_ble_eq_true rfl) (c_X3_readNumberE G ex n σ_36 ft (tk_nc f m t3 0 40) (nI (t3)) 0 40 hc_32 (by omega) hncA (by have := tk_nc_lt f m t3 0 40; omega)) ?_
          refine A_istore_n hg dX3_readBoard_91 rfl (by decide) (q_c1d rfl) ?_
          refine A_eq (ls2 := [some (.ref (q_h G + 2)), some (.int (nI (r9))), some (.int (nI (0))), some (.int (nI (0)))]) (st2 := []) (pc2 := 0) rfl rfl ?_
          refine A_aload_n hg dX3_readBoard_92 rfl rfl ?_
          refine A_getf (v := .ref (q_h G + 5)) hg fl_RX3_21 dX3_readBoard_93 hc_32 (by omega) rfl ?_
          refine A_getf (v := .ref (q_h G + 7)) hg fl_RX3_161 dX3_readBoard_96 hc_38 (by omega) rfl ?_
          refine A_iload_n hg dX3_readBoard_99 rfl rfl ?_
          refine A_iload_n hg dX3_readBoard_100 rfl rfl ?_
          refine A_iload_n hg dX3_readBoard_101 rfl rfl ?_
          refine A_vV (kc2 := 0) (ks2 := 0) (As := [.int (nI (r9)), .int (nI (0)), .int (nI (0))]) (rest := []) hg lk_RX3_170 in_X6_addBoard se_X6_addBoard rfl dX3_readBoard_102 ⟨by decide, by decide⟩ rfl rfl ⟨by decide, by decide⟩ hc_41 (by omega) rfl rfl (Nat.le_of_ble_eq_true rfl) (c_X6_addBoard G ex n σ_36 7 (g 1) (g 2) kd fi se tf ts r9 0 0 hc_41 hc_42 hc_43 hc_44 hc_45 hc_46 (by omega) (by omega)) ?_
          rintro σ_55 ⟨hc_48, hc_49, hc_50, hc_51, hc_52, hc_53, hf_54⟩
          have hc_56 : σ_55 1 = q_an G 600 f := (hf_54 _ (by omega)).trans hc_37
          have hc_57 : σ_55 5 = o0 G (5) (nI (g 0)) (nI (pl)) (nI (tn)) (nI (gm)) (nI (tk)) := (hf_54 _ (by omega)).trans hc_38
          have hc_58 : σ_55 6 = q_rn G 3 4 (fun j => some (5 + 10 + 2 * j)) := (hf_54 _ (by omega)).trans hc_39
          have hc_59 : ∀ j9 : Nat, j9 < 4 → σ_55 (5 + 10 + 2 * j9) = o7 G (5 + 10 + 2 * j9) (lN (nm j9)) (lN (on j9)) (nI (sl j9)) (nI (mo j9)) (nI (nb j9)) := fun j9 hj0 => (hf_54 _ (by omega)).trans (hc_40 j9 (by omega))
          have hc_60 : σ_55 3 = o9 G (1) (nI (m)) (nI (x_kd f m t3)) (nI (t3)) (nI (tk_be f m t3)) (nu4) := (hf_54 _ (by omega)).trans hc_47
          have hc_61 : σ_55 2 = o3 G (2) (nI (ft)) (nI (tk_nc f m t3 0 40)) (nI (t3)) := (hf_54 _ (by omega)).trans hc_32
          refine A_aload_n hg dX3_readBoard_105 rfl rfl ?_
          refine A_getf (v := .int (nI (tk_nc f m t3 0 40))) hg fl_RX3_29 dX3_readBoard_106 hc_61 (by omega) rfl ?_
          refine A_if_neN (tgt := 116) hg dX3_readBoard_109 (by first | (have := tk_nc_lt f m t3 0 40; omega) | (have := tk_nc_lt f m tA 0 40; omega)) (by decide) (fun c109 => ?_) (fun c109 => absurd c109 (by assumption))
          refine A_iconst (v := (nI (0))) hg dX3_readBoard_116 (by decide) ?_
          rw [hQ]
          exact A_zreturn hg (by decide) (by decide) rfl rfl dX3_readBoard_117 ⟨rfl, Or.inl (⟨tk_nc f m t3 0 40, t3, (nI (x_kd f m t3)), (nI (t3)), (nI (tk_be f m t3)), (nu4), ((g 1) + 1), (g 2), (va_up kd (g 1) r9), (va_up fi (g 1) 0), (va_up se (g 1) 0), (va_up tf (g 1) 0), (va_up ts (g 1) 0), rfl, ((rd_d_gor (by omega) ht2 c34 hr9 hni ht3).trans (rd_2_1 hncA)), (by first | assumption | omega), hc_61, hc_60, hc_48, hc_49, hc_50, hc_51, hc_52, hc_53, (fun i hi => ((hf_54 i (by omega)).trans ((hf_33 i (by omega)).trans ((hf_19 i (by omega)).trans (hf_2 i (by omega))))))⟩)⟩
        · skip
          refine (?_ : AJ G K Q 0 0 ex n 83 [some (.ref (q_h G + 2)), some (.int (nI (r9))), none, none] [.int (nI (tk_vl f m t3))] σ_36)
          have hc_62 : σ_36 2 = o3 G (2) (nI (ft)) (nI (0)) (q_d (0)) := (hf_35 _ (by omega)).trans hc_21
          have hc_63 : σ_36 1 = q_an G 600 f := (hf_35 _ (by omega)).trans hc_22
          have hc_64 : σ_36 5 = o0 G (5) (nI (g 0)) (nI (pl)) (nI (tn)) (nI (gm)) (nI (tk)) := (hf_35 _ (by omega)).trans hc_23
          have hc_65 : σ_36 6 = q_rn G 3 4 (fun j => some (5 + 10 + 2 * j)) := (hf_35 _ (by omega)).trans hc_24
          have hc_66 : ∀ j9 : Nat, j9 < 4 → σ_36 (5 + 10 + 2 * j9) = o7 G (5 + 10 + 2 * j9) (lN (nm j9)) (lN (on j9)) (nI (sl j9)) (nI (mo j9)) (nI (nb j9)) := fun j9 hj0 => (hf_35 _ (by omega)).trans (hc_25 j9 (by omega))
          have hc_67 : σ_36 7 = o6 G (7) (nI (g 1)) (nI (g 2)) := (hf_35 _ (by omega)).trans hc_26
          have hc_68 : σ_36 (7 + 1) = q_an G 8 kd := (hf_35 _ (by omega)).trans hc_27
          have hc_69 : σ_36 (7 + 2) = q_an G 8 fi := (hf_35 _ (by omega)).trans hc_28
          have hc_70 : σ_36 (7 + 3) = q_an G 8 se := (hf_35 _ (by omega)).trans hc_29
          have hc_71 : σ_36 (7 + 4) = q_an G 8 tf := (hf_35 _ (by omega)).trans hc_30
          have hc_72 : σ_36 (7 + 5) = q_an G 8 ts := (hf_35 _ (by omega)).trans hc_31
          refine A_istore_n hg dX3_readBoard_83 rfl (by decide) (q_c1d rfl) ?_
          refine A_eq (ls2 := [some (.ref (q_h G + 2)), some (.int (nI (r9))), some (.int (nI (tk_vl f m t3))), none]) (st2 := []) (pc2 := 0) rfl rfl ?_
          refine A_aload_n hg dX3_readBoard_84 rfl rfl ?_
          refine A_iconst (v := (nI (0))) hg dX3_readBoard_85 (by decide) ?_
          refine A_bipush (v := (nI (40))) hg dX3_readBoard_86 (by decide) ?_
          refine A_hV (kc2 := 0) (ks2 := 0) (As := [.int (nI (0)), .int (nI (40))]) (rest := []) hg lk_RX3_139 in_X3_readNumber se_X3_readNumber rfl dX3_readBoard_88 ⟨by decide, by decide⟩ rfl rfl ⟨by decide, by decide⟩ hc_62 (by omega) rfl rfl (Nat.le_of_ble_eq_true rfl) (c_X3_readNumber G ex n σ_36 f m tA nuA ft 0 40 hc_62 hc_34 hc_63 (by omega) hm6 hbb htmA hnuA (by omega) (by omega)) ?_
          rintro _ σ_77 (⟨rfl, hncB, hc_73, hf_74⟩ | ⟨tB, nuB, rfl, hncB, htB, htmB, hnuB, hc_75, hf_76⟩)
          · skip
            refine (?_ : AJ G K Q 0 0 ex n 91 [some (.ref (q_h G + 2)), some (.int (nI (r9))), some (.int (nI (tk_vl f m t3))), none] [.int (nI (0))] σ_77)
            have hc_78 : σ_77 1 = q_an G 600 f := (hf_74 _ (by omega)).trans hc_63
            have hc_79 : σ_77 5 = o0 G (5) (nI (g 0)) (nI (pl)) (nI (tn)) (nI (gm)) (nI (tk)) := (hf_74 _ (by omega)).trans hc_64
            have hc_80 : σ_77 6 = q_rn G 3 4 (fun j => some (5 + 10 + 2 * j)) := (hf_74 _ (by omega)).trans hc_65
            have hc_81 : ∀ j9 : Nat, j9 < 4 → σ_77 (5 + 10 + 2 * j9) = o7 G (5 + 10 + 2 * j9) (lN (nm j9)) (lN (on j9)) (nI (sl j9)) (nI (mo j9)) (nI (nb j9)) := fun j9 hj0 => (hf_74 _ (by omega)).trans (hc_66 j9 (by omega))
            have hc_82 : σ_77 7 = o6 G (7) (nI (g 1)) (nI (g 2)) := (hf_74 _ (by omega)).trans hc_67
            have hc_83 : σ_77 (7 + 1) = q_an G 8 kd := (hf_74 _ (by omega)).trans hc_68
            have hc_84 : σ_77 (7 + 2) = q_an G 8 fi := (hf_74 _ (by omega)).trans hc_69
            have hc_85 : σ_77 (7 + 3) = q_an G 8 se := (hf_74 _ (by omega)).trans hc_70
            have hc_86 : σ_77 (7 + 4) = q_an G 8 tf := (hf_74 _ (by omega)).trans hc_71
            have hc_87 : σ_77 (7 + 5) = q_an G 8 ts := (hf_74 _ (by omega)).trans hc_72
            have hc_88 : σ_77 3 = o9 G (1) (nI (m)) (nI (x_kd f m tA)) (nI (tA)) (nI (tk_be f m tA)) (nuA) := (hf_74 _ (by omega)).trans hc_34
            refine A_istore_n hg dX3_readBoard_91 rfl (by decide) (q_c1d rfl) ?_
            refine A_eq (ls2 := [some (.ref (q_h G + 2)), some (.int (nI (r9))), some (.int (nI (tk_vl f m t3))), some (.int (nI (0)))]) (st2 := []) (pc2 := 0) rfl rfl ?_
            refine A_aload_n hg dX3_readBoard_92 rfl rfl ?_
            refine A_getf (v := .ref (q_h G + 5)) hg fl_RX3_21 dX3_readBoard_93 hc_73 (by omega) rfl ?_
            refine A_getf (v := .ref (q_h G + 7)) hg fl_RX3_161 dX3_readBoard_96 hc_79 (by omega) rfl ?_
            refine A_iload_n hg dX3_readBoard_99 rfl rfl ?_
            refine A_iload_n hg dX3_readBoard_100 rfl rfl ?_
            refine A_iload_n hg dX3_readBoard_101 rfl rfl ?_
            refine A_vV (kc2 := 0) (ks2 := 0) (As := [.int (nI (r9)), .int (nI (tk_vl f m t3)), .int (nI (0))]) (rest := []) hg lk_RX3_170 in_X6_addBoard se_X6_addBoard rfl dX3_readBoard_102 ⟨by decide, by decide⟩ rfl rfl ⟨by decide, by decide⟩ hc_82 (by omega) rfl rfl (Nat.le_of_ble_eq_true rfl) (c_X6_addBoard G ex n σ_77 7 (g 1) (g 2) kd fi se tf ts r9 (tk_vl f m t3) 0 hc_82 hc_83 hc_84 hc_85 hc_86 hc_87 (by omega) (by omega)) ?_
            rintro σ_96 ⟨hc_89, hc_90, hc_91, hc_92, hc_93, hc_94, hf_95⟩
            have hc_97 : σ_96 1 = q_an G 600 f := (hf_95 _ (by omega)).trans hc_78
            have hc_98 : σ_96 5 = o0 G (5) (nI (g 0)) (nI (pl)) (nI (tn)) (nI (gm)) (nI (tk)) := (hf_95 _ (by omega)).trans hc_79
            have hc_99 : σ_96 6 = q_rn G 3 4 (fun j => some (5 + 10 + 2 * j)) := (hf_95 _ (by omega)).trans hc_80
            have hc_100 : ∀ j9 : Nat, j9 < 4 → σ_96 (5 + 10 + 2 * j9) = o7 G (5 + 10 + 2 * j9) (lN (nm j9)) (lN (on j9)) (nI (sl j9)) (nI (mo j9)) (nI (nb j9)) := fun j9 hj0 => (hf_95 _ (by omega)).trans (hc_81 j9 (by omega))
            have hc_101 : σ_96 3 = o9 G (1) (nI (m)) (nI (x_kd f m tA)) (nI (tA)) (nI (tk_be f m tA)) (nuA) := (hf_95 _ (by omega)).trans hc_88
            have hc_102 : σ_96 2 = o3 G (2) (nI (ft)) (nI (tk_nc f m tA 0 40)) (nI (tA)) := (hf_95 _ (by omega)).trans hc_73
            refine A_aload_n hg dX3_readBoard_105 rfl rfl ?_
            refine A_getf (v := .int (nI (tk_nc f m tA 0 40))) hg fl_RX3_29 dX3_readBoard_106 hc_102 (by omega) rfl ?_
            refine A_if_neN (tgt := 116) hg dX3_readBoard_109 (by first | (have := tk_nc_lt f m t3 0 40; omega) | (have := tk_nc_lt f m tA 0 40; omega)) (by decide) (fun c109 => ?_) (fun c109 => absurd c109 (by assumption))
            refine A_iconst (v := (nI (0))) hg dX3_readBoard_116 (by decide) ?_
            rw [hQ]
            exact A_zreturn hg (by decide) (by decide) rfl rfl dX3_readBoard_117 ⟨rfl, Or.inl (⟨tk_nc f m tA 0 40, tA, (nI (x_kd f m tA)), (nI (tA)), (nI (tk_be f m tA)), (nuA), ((g 1) + 1), (g 2), (va_up kd (g 1) r9), (va_up fi (g 1) (tk_vl f m t3)), (va_up se (g 1) 0), (va_up tf (g 1) (tk_vl f m t3)), (va_up ts (g 1) 0), rfl, ((rd_d_gor (by omega) ht2 c34 hr9 hni ht3).trans (rd_2_2 hncA htA hncB)), (by first | assumption | omega), hc_102, hc_101, hc_89, hc_90, hc_91, hc_92, hc_93, hc_94, (fun i hi => ((hf_95 i (by omega)).trans ((hf_74 i (by omega)).trans ((hf_35 i (by omega)).trans ((hf_19 i (by omega)).trans (hf_2 i (by omega)))))))⟩)⟩
          · skip
            refine (?_ : AJ G K Q 0 0 ex n 91 [some (.ref (q_h G + 2)), some (.int (nI (r9))), some (.int (nI (tk_vl f m t3))), none] [.int (nI (tk_vl f m tA))] σ_77)
            have hc_103 : σ_77 2 = o3 G (2) (nI (ft)) (nI (0)) (q_d (0)) := (hf_76 _ (by omega)).trans hc_62
            have hc_104 : σ_77 1 = q_an G 600 f := (hf_76 _ (by omega)).trans hc_63
            have hc_105 : σ_77 5 = o0 G (5) (nI (g 0)) (nI (pl)) (nI (tn)) (nI (gm)) (nI (tk)) := (hf_76 _ (by omega)).trans hc_64
            have hc_106 : σ_77 6 = q_rn G 3 4 (fun j => some (5 + 10 + 2 * j)) := (hf_76 _ (by omega)).trans hc_65
            have hc_107 : ∀ j9 : Nat, j9 < 4 → σ_77 (5 + 10 + 2 * j9) = o7 G (5 + 10 + 2 * j9) (lN (nm j9)) (lN (on j9)) (nI (sl j9)) (nI (mo j9)) (nI (nb j9)) := fun j9 hj0 => (hf_76 _ (by omega)).trans (hc_66 j9 (by omega))
            have hc_108 : σ_77 7 = o6 G (7) (nI (g 1)) (nI (g 2)) := (hf_76 _ (by omega)).trans hc_67
            have hc_109 : σ_77 (7 + 1) = q_an G 8 kd := (hf_76 _ (by omega)).trans hc_68
            have hc_110 : σ_77 (7 + 2) = q_an G 8 fi := (hf_76 _ (by omega)).trans hc_69
            have hc_111 : σ_77 (7 + 3) = q_an G 8 se := (hf_76 _ (by omega)).trans hc_70
            have hc_112 : σ_77 (7 + 4) = q_an G 8 tf := (hf_76 _ (by omega)).trans hc_71
            have hc_113 : σ_77 (7 + 5) = q_an G 8 ts := (hf_76 _ (by omega)).trans hc_72
            refine A_istore_n hg dX3_readBoard_91 rfl (by decide) (q_c1d rfl) ?_
            refine A_eq (ls2 := [some (.ref (q_h G + 2)), some (.int (nI (r9))), some (.int (nI (tk_vl f m t3))), some (.int (nI (tk_vl f m tA)))]) (st2 := []) (pc2 := 0) rfl rfl ?_
            refine A_aload_n hg dX3_readBoard_92 rfl rfl ?_
            refine A_getf (v := .ref (q_h G + 5)) hg fl_RX3_21 dX3_readBoard_93 hc_103 (by omega) rfl ?_
            refine A_getf (v := .ref (q_h G + 7)) hg fl_RX3_161 dX3_readBoard_96 hc_105 (by omega) rfl ?_
            refine A_iload_n hg dX3_readBoard_99 rfl rfl ?_
            refine A_iload_n hg dX3_readBoard_100 rfl rfl ?_
            refine A_iload_n hg dX3_readBoard_101 rfl rfl ?_
            refine A_vV (kc2 := 0) (ks2 := 0) (As := [.int (nI (r9)), .int (nI (tk_vl f m t3)), .int (nI (tk_vl f m tA))]) (rest := []) hg lk_RX3_170 in_X6_addBoard se_X6_addBoard rfl dX3_readBoard_102 ⟨by decide, by decide⟩ rfl rfl ⟨by decide, by decide⟩ hc_108 (by omega) rfl rfl (Nat.le_of_ble_eq_true rfl) (c_X6_addBoard G ex n σ_77 7 (g 1) (g 2) kd fi se tf ts r9 (tk_vl f m t3) (tk_vl f m tA) hc_108 hc_109 hc_110 hc_111 hc_112 hc_113 (by omega) (by omega)) ?_
            rintro σ_121 ⟨hc_114, hc_115, hc_116, hc_117, hc_118, hc_119, hf_120⟩
            have hc_122 : σ_121 2 = o3 G (2) (nI (ft)) (nI (0)) (q_d (0)) := (hf_120 _ (by omega)).trans hc_103
            have hc_123 : σ_121 1 = q_an G 600 f := (hf_120 _ (by omega)).trans hc_104
            have hc_124 : σ_121 5 = o0 G (5) (nI (g 0)) (nI (pl)) (nI (tn)) (nI (gm)) (nI (tk)) := (hf_120 _ (by omega)).trans hc_105
            have hc_125 : σ_121 6 = q_rn G 3 4 (fun j => some (5 + 10 + 2 * j)) := (hf_120 _ (by omega)).trans hc_106
            have hc_126 : ∀ j9 : Nat, j9 < 4 → σ_121 (5 + 10 + 2 * j9) = o7 G (5 + 10 + 2 * j9) (lN (nm j9)) (lN (on j9)) (nI (sl j9)) (nI (mo j9)) (nI (nb j9)) := fun j9 hj0 => (hf_120 _ (by omega)).trans (hc_107 j9 (by omega))
            have hc_127 : σ_121 3 = o9 G (1) (nI (m)) (nI (x_kd f m tB)) (nI (tB)) (nI (tk_be f m tB)) (nuB) := (hf_120 _ (by omega)).trans hc_75
            refine A_aload_n hg dX3_readBoard_105 rfl rfl ?_
            refine A_getf (v := .int (nI (0))) hg fl_RX3_29 dX3_readBoard_106 hc_122 (by omega) rfl ?_
            refine A_if_neN (tgt := 116) hg dX3_readBoard_109 (by decide) (by decide) (fun c109 => absurd (by decide) c109) (fun c109 => ?_)
            refine A_iconst (v := (nI (1))) hg dX3_readBoard_112 (by decide) ?_
            refine A_goto (tgt := 117) hg dX3_readBoard_113 (by decide) ?_
            have hvA := tk_nc_v hncA
            have htmL := htmB
            have hnuL := hnuB
            have eg1 : (s_addB g r9 (tk_vl f m t3) (tk_vl f m tA)) 1 = (g 1) + 1 := (by first | exact va_up_at | exact s_addS_lo (by decide) (by decide))
            have eg2 : (s_addB g r9 (tk_vl f m t3) (tk_vl f m tA)) 2 = g 2 := (by first | exact s_addB_lo (by decide) (by decide) | exact va_up_at)
            have hc_128 : σ_121 7 = o6 G (7) (nI ((s_addB g r9 (tk_vl f m t3) (tk_vl f m tA)) 1)) (nI ((s_addB g r9 (tk_vl f m t3) (tk_vl f m tA)) 2)) := hc_114.trans (by rw [eg1, eg2])
            rw [hQ]
            exact A_zreturn hg (by decide) (by decide) rfl rfl dX3_readBoard_117 ⟨rfl, Or.inr ((⟨(s_addB g r9 (tk_vl f m t3) (tk_vl f m tA)), tB, nuB, (va_up kd (g 1) r9), (va_up fi (g 1) (tk_vl f m t3)), (va_up se (g 1) (tk_vl f m tA)), (va_up tf (g 1) (tk_vl f m t3)), (va_up ts (g 1) (tk_vl f m tA)), rfl, ((rd_d_gor (by omega) ht2 c34 hr9 hni ht3).trans (rd_2_ok hncA htA hncB htB)), (x_p_addB c11 hxp), (x_tp_addB c11 htp), htmL, hnuL, hc_122, hc_127, hc_128, hc_115, hc_116, hc_117, hc_118, hc_119, (fun i hi => ((hf_120 i (by omega)).trans ((hf_76 i (by omega)).trans ((hf_35 i (by omega)).trans ((hf_19 i (by omega)).trans (hf_2 i (by omega)))))))⟩))⟩
      · skip
        rw [he_16]
        refine (?_ : AJ G K Q 0 0 ex n 57 [some (.ref (q_h G + 2)), none, none, none] [.int (q_d (0))] σ_3)
        refine A_istore_n hg dX3_readBoard_57 rfl (by decide) (q_c1d rfl) ?_
        refine A_eq (ls2 := [some (.ref (q_h G + 2)), some (.int (q_d (0))), none, none]) (st2 := []) (pc2 := 0) rfl rfl ?_
        refine A_iload_n hg dX3_readBoard_58 rfl rfl ?_
        refine A_iconst (v := (q_d (0))) hg dX3_readBoard_59 (by decide) ?_
        refine A_icmp_neM (tgt := 69) hg dX3_readBoard_60 (by decide) (by decide) (by decide) (fun c60 => absurd rfl c60) (fun c60 => ?_)
        refine A_aload_n hg dX3_readBoard_63 rfl rfl ?_
        refine A_iconst (v := (nI (3))) hg dX3_readBoard_64 (by decide) ?_
        refine A_hV (kc2 := 0) (ks2 := 0) (As := [.int (nI (3))]) (rest := []) hg lk_RX3_71 in_X3_fail se_X3_fail rfl dX3_readBoard_65 ⟨by decide, by decide⟩ rfl rfl ⟨by decide, by decide⟩ hc_4 (by omega) rfl rfl (Nat.le_of_ble_eq_true rfl) (c_X3_fail G ex n σ_3 m t2 (nI (x_kd f m t2)) (nI (tk_be f m t2)) nu3 ft (nI (0)) (q_d (0)) 3 hc_4 hc_1 (by omega)) ?_
        rintro _ σ_131 ⟨rfl, hc_129, hf_130⟩
        refine (?_ : AJ G K Q 0 0 ex n 68 [some (.ref (q_h G + 2)), some (.int (q_d (0))), none, none] [.int (nI (0))] σ_131)
        have hc_132 : σ_131 1 = q_an G 600 f := (hf_130 _ (by omega)).trans hc_5
        have hc_133 : σ_131 5 = o0 G (5) (nI (g 0)) (nI (pl)) (nI (tn)) (nI (gm)) (nI (tk)) := (hf_130 _ (by omega)).trans hc_6
        have hc_134 : σ_131 6 = q_rn G 3 4 (fun j => some (5 + 10 + 2 * j)) := (hf_130 _ (by omega)).trans hc_7
        have hc_135 : ∀ j9 : Nat, j9 < 4 → σ_131 (5 + 10 + 2 * j9) = o7 G (5 + 10 + 2 * j9) (lN (nm j9)) (lN (on j9)) (nI (sl j9)) (nI (mo j9)) (nI (nb j9)) := fun j9 hj0 => (hf_130 _ (by omega)).trans (hc_8 j9 (by omega))
        have hc_136 : σ_131 7 = o6 G (7) (nI (g 1)) (nI (g 2)) := (hf_130 _ (by omega)).trans hc_9
        have hc_137 : σ_131 (7 + 1) = q_an G 8 kd := (hf_130 _ (by omega)).trans hc_10
        have hc_138 : σ_131 (7 + 2) = q_an G 8 fi := (hf_130 _ (by omega)).trans hc_11
        have hc_139 : σ_131 (7 + 3) = q_an G 8 se := (hf_130 _ (by omega)).trans hc_12
        have hc_140 : σ_131 (7 + 4) = q_an G 8 tf := (hf_130 _ (by omega)).trans hc_13
        have hc_141 : σ_131 (7 + 5) = q_an G 8 ts := (hf_130 _ (by omega)).trans hc_14
        have hc_142 : σ_131 3 = o9 G (1) (nI (m)) (nI (x_kd f m t2)) (nI (t2)) (nI (tk_be f m t2)) (nu3) := (hf_130 _ (by omega)).trans hc_1
        rw [hQ]
        exact A_zreturn hg (by decide) (by decide) rfl rfl dX3_readBoard_68 ⟨rfl, Or.inl (⟨3, t2, (nI (x_kd f m t2)), (nI (t2)), (nI (tk_be f m t2)), (nu3), (g 1), (g 2), kd, fi, se, tf, ts, rfl, (rd_d_3 (by omega) ht2 c34 (x_nmi_f c34 hnmb hno9)), (by first | assumption | omega), hc_129, hc_142, hc_136, hc_137, hc_138, hc_139, hc_140, hc_141, (fun i hi => ((hf_130 i (by omega)).trans (hf_2 i (by omega))))⟩)⟩
    · skip
      refine A_aload_n hg dX3_readBoard_37 rfl rfl ?_
      refine A_iconst (v := (nI (1))) hg dX3_readBoard_38 (by decide) ?_
      refine A_hV (kc2 := 0) (ks2 := 0) (As := [.int (nI (1))]) (rest := []) hg lk_RX3_71 in_X3_fail se_X3_fail rfl dX3_readBoard_39 ⟨by decide, by decide⟩ rfl rfl ⟨by decide, by decide⟩ hc_4 (by omega) rfl rfl (Nat.le_of_ble_eq_true rfl) (c_X3_fail G ex n σ_3 m t2 (nI (x_kd f m t2)) (nI (tk_be f m t2)) nu3 ft (nI (0)) (q_d (0)) 1 hc_4 hc_1 (by omega)) ?_
      rintro _ σ_145 ⟨rfl, hc_143, hf_144⟩
      refine (?_ : AJ G K Q 0 0 ex n 42 [some (.ref (q_h G + 2)), none, none, none] [.int (nI (0))] σ_145)
      have hc_146 : σ_145 1 = q_an G 600 f := (hf_144 _ (by omega)).trans hc_5
      have hc_147 : σ_145 5 = o0 G (5) (nI (g 0)) (nI (pl)) (nI (tn)) (nI (gm)) (nI (tk)) := (hf_144 _ (by omega)).trans hc_6
      have hc_148 : σ_145 6 = q_rn G 3 4 (fun j => some (5 + 10 + 2 * j)) := (hf_144 _ (by omega)).trans hc_7
      have hc_149 : ∀ j9 : Nat, j9 < 4 → σ_145 (5 + 10 + 2 * j9) = o7 G (5 + 10 + 2 * j9) (lN (nm j9)) (lN (on j9)) (nI (sl j9)) (nI (mo j9)) (nI (nb j9)) := fun j9 hj0 => (hf_144 _ (by omega)).trans (hc_8 j9 (by omega))
      have hc_150 : σ_145 7 = o6 G (7) (nI (g 1)) (nI (g 2)) := (hf_144 _ (by omega)).trans hc_9
      have hc_151 : σ_145 (7 + 1) = q_an G 8 kd := (hf_144 _ (by omega)).trans hc_10
      have hc_152 : σ_145 (7 + 2) = q_an G 8 fi := (hf_144 _ (by omega)).trans hc_11
      have hc_153 : σ_145 (7 + 3) = q_an G 8 se := (hf_144 _ (by omega)).trans hc_12
      have hc_154 : σ_145 (7 + 4) = q_an G 8 tf := (hf_144 _ (by omega)).trans hc_13
      have hc_155 : σ_145 (7 + 5) = q_an G 8 ts := (hf_144 _ (by omega)).trans hc_14
      have hc_156 : σ_145 3 = o9 G (1) (nI (m)) (nI (x_kd f m t2)) (nI (t2)) (nI (tk_be f m t2)) (nu3) := (hf_144 _ (by omega)).trans hc_1
      rw [hQ]
      exact A_zreturn hg (by decide) (by decide) rfl rfl dX3_readBoard_42 ⟨rfl, Or.inl (⟨1, t2, (nI (x_kd f m t2)), (nI (t2)), (nI (tk_be f m t2)), (nu3), (g 1), (g 2), kd, fi, se, tf, ts, rfl, (rd_d_1 (by omega) ht2 c34), (by first | assumption | omega), hc_143, hc_156, hc_150, hc_151, hc_152, hc_153, hc_154, hc_155, (fun i hi => ((hf_144 i (by omega)).trans (hf_2 i (by omega))))⟩)⟩
  · skip
    refine A_aload_n hg dX3_readBoard_14 rfl rfl ?_
    refine A_iconst (v := (nI (5))) hg dX3_readBoard_15 (by decide) ?_
    refine A_hV (kc2 := 0) (ks2 := 0) (As := [.int (nI (5))]) (rest := []) hg lk_RX3_71 in_X3_fail se_X3_fail rfl dX3_readBoard_16 ⟨by decide, by decide⟩ rfl rfl ⟨by decide, by decide⟩ hc0 (by omega) rfl rfl (Nat.le_of_ble_eq_true rfl) (c_X3_fail G ex n σ m t (nI (x_kd f m t)) (nI (tk_be f m t)) nu ft (nI (0)) (q_d (0)) 5 hc0 hc1 (by omega)) ?_
    rintro _ σ_159 ⟨rfl, hc_157, hf_158⟩
    refine (?_ : AJ G K Q 0 0 ex n 19 [some (.ref (q_h G + 2)), none, none, none] [.int (nI (0))] σ_159)
    have hc_160 : σ_159 3 = o9 G (1) (nI (m)) (nI (x_kd f m t)) (nI (t)) (nI (tk_be f m t)) (nu) := (hf_158 _ (by omega)).trans hc1
    have hc_161 : σ_159 1 = q_an G 600 f := (hf_158 _ (by omega)).trans hc2
    have hc_162 : σ_159 5 = o0 G (5) (nI (g 0)) (nI (pl)) (nI (tn)) (nI (gm)) (nI (tk)) := (hf_158 _ (by omega)).trans hc3
    have hc_163 : σ_159 6 = q_rn G 3 4 (fun j => some (5 + 10 + 2 * j)) := (hf_158 _ (by omega)).trans hc4
    have hc_164 : ∀ j9 : Nat, j9 < 4 → σ_159 (5 + 10 + 2 * j9) = o7 G (5 + 10 + 2 * j9) (lN (nm j9)) (lN (on j9)) (nI (sl j9)) (nI (mo j9)) (nI (nb j9)) := fun j9 hj0 => (hf_158 _ (by omega)).trans (hc5 j9 (by omega))
    have hc_165 : σ_159 7 = o6 G (7) (nI (g 1)) (nI (g 2)) := (hf_158 _ (by omega)).trans hc6
    have hc_166 : σ_159 (7 + 1) = q_an G 8 kd := (hf_158 _ (by omega)).trans hc7
    have hc_167 : σ_159 (7 + 2) = q_an G 8 fi := (hf_158 _ (by omega)).trans hc8
    have hc_168 : σ_159 (7 + 3) = q_an G 8 se := (hf_158 _ (by omega)).trans hc9
    have hc_169 : σ_159 (7 + 4) = q_an G 8 tf := (hf_158 _ (by omega)).trans hc10
    have hc_170 : σ_159 (7 + 5) = q_an G 8 ts := (hf_158 _ (by omega)).trans hc11
    rw [hQ]
    exact A_zreturn hg (by decide) (by decide) rfl rfl dX3_readBoard_19 ⟨rfl, Or.inl (⟨5, t, (nI (x_kd f m t)), (nI (t)), (nI (tk_be f m t)), (nu), (g 1), (g 2), kd, fi, se, tf, ts, rfl, (rd_d_5 (by omega)), (by first | assumption | omega), hc_157, hc_160, hc_165, hc_166, hc_167, hc_168, hc_169, hc_170, (fun i hi => (hf_158 i (by omega)))⟩)⟩
set_option maxRecDepth 100000 in
set_option maxHeartbeats 4000000 in
theorem c_X3_readStick (G : GL) (ex : Bool) (n : Nat) (σ : Nat → va_E) (f : Nat → Nat) (m : Nat) (t : Nat) (nu : Int32) (ft : Nat) (g : Nat → Nat) (pl : Nat) (tn : Nat) (gm : Nat) (tk : Nat) (kd : Nat → Nat) (fi : Nat → Nat) (se : Nat → Nat) (tf : Nat → Nat) (ts : Nat → Nat) (hc0 : σ 2 = o3 G (2) (nI (ft)) (nI (0)) (q_d (0))) (hc1 : σ 3 = o9 G (1) (nI (m)) (nI (x_kd f m t)) (nI (t)) (nI (tk_be f m t)) (nu)) (hc2 : σ 1 = q_an G 600 f) (hc3 : σ 5 = o0 G (5) (nI (g 0)) (nI (pl)) (nI (tn)) (nI (gm)) (nI (tk))) (hc4 : σ 7 = o6 G (7) (nI (g 1)) (nI (g 2))) (hc5 : σ (7 + 1) = q_an G 8 kd) (hc6 : σ (7 + 2) = q_an G 8 fi) (hc7 : σ (7 + 3) = q_an G 8 se) (hc8 : σ (7 + 4) = q_an G 8 tf) (hc9 : σ (7 + 5) = q_an G 8 ts) (hn9 : 279 ≤ n) (hm6 : m ≤ 600) (hbb : ∀ k : Nat, s_byte f m k ≤ 256) (ht9 : t ≤ m) (hnu : tk_kd f m t = 2 → nu = nI (tk_vl f m t)) (hinv : rd_inv g) (hxp : x_p g kd fi se) (htp : x_tp g tf ts) : Ct G yX3_readStick cX3_readStick 3 (some .boolean) ⟨3, 0, 0, 67⟩ [.ref (q_h G + 2)] ex n σ (fun v9 σ2 => (∃ (c : Nat), ∃ (o : Nat), ∃ (kd2 : Int32), ∃ (st2 : Int32), ∃ (be2 : Int32), ∃ (nu2 : Int32), ∃ (bE : Nat), ∃ (skE : Nat), ∃ (kdE : Nat → Nat), ∃ (fiE : Nat → Nat), ∃ (seE : Nat → Nat), ∃ (tfE : Nat → Nat), ∃ (tsE : Nat → Nat), v9 = some (.int (nI (0))) ∧ (rd_s f m g t = .inl (c, o)) ∧ (¬ c = 0) ∧ σ2 2 = o3 G (2) (nI (ft)) (nI (c)) (nI (o)) ∧ σ2 3 = o9 G (1) (nI (m)) (kd2) (st2) (be2) (nu2) ∧ σ2 7 = o6 G (7) (nI (bE)) (nI (skE)) ∧ σ2 8 = q_an G 8 kdE ∧ σ2 9 = q_an G 8 fiE ∧ σ2 10 = q_an G 8 seE ∧ σ2 11 = q_an G 8 tfE ∧ σ2 12 = q_an G 8 tsE ∧ (∀ i : Nat, i ≠ 2 ∧ i ≠ 3 ∧ (i < 7 ∨ 12 < i) → σ2 i = σ i)) ∨ (∃ (g' : Nat → Nat), ∃ (t2 : Nat), ∃ (nu2 : Int32), ∃ (kdE : Nat → Nat), ∃ (fiE : Nat → Nat), ∃ (seE : Nat → Nat), ∃ (tfE : Nat → Nat), ∃ (tsE : Nat → Nat), v9 = some (.int (nI (1))) ∧ (rd_s f m g t = .inr (g', t2)) ∧ (x_p g' kdE fiE seE) ∧ (x_tp g' tfE tsE) ∧ (t2 ≤ m) ∧ (tk_kd f m t2 = 2 → nu2 = nI (tk_vl f m t2)) ∧ σ2 2 = o3 G (2) (nI (ft)) (nI (0)) (q_d (0)) ∧ σ2 3 = o9 G (1) (nI (m)) (nI (x_kd f m t2)) (nI (t2)) (nI (tk_be f m t2)) (nu2) ∧ σ2 7 = o6 G (7) (nI (g' 1)) (nI (g' 2)) ∧ σ2 8 = q_an G 8 kdE ∧ σ2 9 = q_an G 8 fiE ∧ σ2 10 = q_an G 8 seE ∧ σ2 11 = q_an G 8 tfE ∧ σ2 12 = q_an G 8 tsE ∧ (∀ i : Nat, i ≠ 2 ∧ i ≠ 3 ∧ (i < 7 ∨ 12 < i) → σ2 i = σ i))) := by
  refine q_enter [some (.ref (q_h G + 2)), none, none] (by decide) (Nat.le_of_ble_eq_true rfl) rfl ?_
  intro K hg
  obtain ⟨Q, hQ⟩ : ∃ Q, Q = q_Q G K ex n 0 0 (fun v9 n' σ' => n' = n ∧ (fun v9 σ2 => (∃ (c : Nat), ∃ (o : Nat), ∃ (kd2 : Int32), ∃ (st2 : Int32), ∃ (be2 : Int32), ∃ (nu2 : Int32), ∃ (bE : Nat), ∃ (skE : Nat), ∃ (kdE : Nat → Nat), ∃ (fiE : Nat → Nat), ∃ (seE : Nat → Nat), ∃ (tfE : Nat → Nat), ∃ (tsE : Nat → Nat), v9 = some (.int (nI (0))) ∧ (rd_s f m g t = .inl (c, o)) ∧ (¬ c = 0) ∧ σ2 2 = o3 G (2) (nI (ft)) (nI (c)) (nI (o)) ∧ σ2 3 = o9 G (1) (nI (m)) (kd2) (st2) (be2) (nu2) ∧ σ2 7 = o6 G (7) (nI (bE)) (nI (skE)) ∧ σ2 8 = q_an G 8 kdE ∧ σ2 9 = q_an G 8 fiE ∧ σ2 10 = q_an G 8 seE ∧ σ2 11 = q_an G 8 tfE ∧ σ2 12 = q_an G 8 tsE ∧ (∀ i : Nat, i ≠ 2 ∧ i ≠ 3 ∧ (i < 7 ∨ 12 < i) → σ2 i = σ i)) ∨ (∃ (g' : Nat → Nat), ∃ (t2 : Nat), ∃ (nu2 : Int32), ∃ (kdE : Nat → Nat), ∃ (fiE : Nat → Nat), ∃ (seE : Nat → Nat), ∃ (tfE : Nat → Nat), ∃ (tsE : Nat → Nat), v9 = some (.int (nI (1))) ∧ (rd_s f m g t = .inr (g', t2)) ∧ (x_p g' kdE fiE seE) ∧ (x_tp g' tfE tsE) ∧ (t2 ≤ m) ∧ (tk_kd f m t2 = 2 → nu2 = nI (tk_vl f m t2)) ∧ σ2 2 = o3 G (2) (nI (ft)) (nI (0)) (q_d (0)) ∧ σ2 3 = o9 G (1) (nI (m)) (nI (x_kd f m t2)) (nI (t2)) (nI (tk_be f m t2)) (nu2) ∧ σ2 7 = o6 G (7) (nI (g' 1)) (nI (g' 2)) ∧ σ2 8 = q_an G 8 kdE ∧ σ2 9 = q_an G 8 fiE ∧ σ2 10 = q_an G 8 seE ∧ σ2 11 = q_an G 8 tfE ∧ σ2 12 = q_an G 8 tsE ∧ (∀ i : Nat, i ≠ 2 ∧ i ≠ 3 ∧ (i < 7 ∨ 12 < i) → σ2 i = σ i))) v9 σ') q_noX := ⟨_, rfl⟩
  refine (?_ : AJ G K (q_Q G K ex n 0 0 _ _) 0 0 ex n 0 _ _ σ)
  rw [← hQ]
  have hbe := tk_be_le (f := f) ht9
  have hbg := tk_be_ge (f := f) (m := m) (t := t)
  have hkl := x_kd_lt f m t
  have hg1 := hinv.1.2.1
  have hg2 := hinv.1.2.2.1
  refine A_aload_n hg dX3_readStick_0 rfl rfl ?_
  refine A_getf (v := .ref (q_h G + 5)) hg fl_RX3_21 dX3_readStick_1 hc0 (by omega) rfl ?_
  refine A_getf (v := .ref (q_h G + 7)) hg fl_RX3_161 dX3_readStick_4 hc3 (by omega) rfl ?_
  refine A_getf (v := .int (nI (g 2))) hg fl_RX3_174 dX3_readStick_7 hc4 (by omega) rfl ?_
  refine A_iconst (v := (nI (4))) hg dX3_readStick_10 (by decide) ?_
  refine A_icmp_ltN (tgt := 20) hg dX3_readStick_11 (by omega) (by decide) (by decide) (fun c11 => ?_) (fun c11 => ?_)
  · skip
    refine A_aload_n hg dX3_readStick_20 rfl rfl ?_
    refine A_getf (v := .ref (q_h G + 3)) hg fl_RX3_12 dX3_readStick_21 hc0 (by omega) rfl ?_
    refine A_vV (kc2 := 0) (ks2 := 0) (As := []) (rest := []) hg lk_RX3_84 in_X9_advance se_X9_advance rfl dX3_readStick_24 ⟨by decide, by decide⟩ rfl rfl ⟨by decide, by decide⟩ hc1 (by omega) rfl rfl (Nat.le_of_ble_eq_true rfl) (c_X9_advance G ex n σ f m (nI (x_kd f m t)) (nI (t)) (tk_be f m t) nu hc1 hc2 (by omega) hm6 hbb (by omega)) ?_
    rintro σ_3 ⟨t2, nu3, ht2, hnu2, hc_1, hf_2⟩
    have hc_4 : σ_3 2 = o3 G (2) (nI (ft)) (nI (0)) (q_d (0)) := (hf_2 _ (by omega)).trans hc0
    have hc_5 : σ_3 1 = q_an G 600 f := (hf_2 _ (by omega)).trans hc2
    have hc_6 : σ_3 5 = o0 G (5) (nI (g 0)) (nI (pl)) (nI (tn)) (nI (gm)) (nI (tk)) := (hf_2 _ (by omega)).trans hc3
    have hc_7 : σ_3 7 = o6 G (7) (nI (g 1)) (nI (g 2)) := (hf_2 _ (by omega)).trans hc4
    have hc_8 : σ_3 (7 + 1) = q_an G 8 kd := (hf_2 _ (by omega)).trans hc5
    have hc_9 : σ_3 (7 + 2) = q_an G 8 fi := (hf_2 _ (by omega)).trans hc6
    have hc_10 : σ_3 (7 + 3) = q_an G 8 se := (hf_2 _ (by omega)).trans hc7
    have hc_11 : σ_3 (7 + 4) = q_an G 8 tf := (hf_2 _ (by omega)).trans hc8
    have hc_12 : σ_3 (7 + 5) = q_an G 8 ts := (hf_2 _ (by omega)).trans hc9
    have htm2 : t2 ≤ m := by rw [ht2]; exact tk_nx_le ht9
    refine A_aload_n hg dX3_readStick_27 rfl rfl ?_
    refine A_iconst (v := (nI (0))) hg dX3_readStick_28 (by decide) ?_
    refine A_bipush (v := (nI (60))) hg dX3_readStick_29 (by decide) ?_
    refine A_hV (kc2 := 0) (ks2 := 0) (As := [.int (nI (0)), .int (nI (60))]) (rest := []) hg lk_RX3_139 in_X3_readNumber se_X3_readNumber rfl dX3_readStick_31 ⟨by decide, by decide⟩ rfl rfl ⟨by decide, by decide⟩ hc_4 (by omega) rfl rfl (Nat.le_of_ble_eq_true rfl) (c_X3_readNumber G ex n σ_3 f m t2 nu3 ft 0 60 hc_4 hc_1 hc_5 (by omega) hm6 hbb htm2 hnu2 (by omega) (by omega)) ?_
    rintro _ σ_17 (⟨rfl, hncA, hc_13, hf_14⟩ | ⟨tA, nuA, rfl, hncA, htA, htmA, hnuA, hc_15, hf_16⟩)
    · skip
      refine (?_ : AJ G K Q 0 0 ex n 34 [some (.ref (q_h G + 2)), none, none] [.int (nI (0))] σ_17)
      have hc_18 : σ_17 1 = q_an G 600 f := (hf_14 _ (by omega)).trans hc_5
      have hc_19 : σ_17 5 = o0 G (5) (nI (g 0)) (nI (pl)) (nI (tn)) (nI (gm)) (nI (tk)) := (hf_14 _ (by omega)).trans hc_6
      have hc_20 : σ_17 7 = o6 G (7) (nI (g 1)) (nI (g 2)) := (hf_14 _ (by omega)).trans hc_7
      have hc_21 : σ_17 (7 + 1) = q_an G 8 kd := (hf_14 _ (by omega)).trans hc_8
      have hc_22 : σ_17 (7 + 2) = q_an G 8 fi := (hf_14 _ (by omega)).trans hc_9
      have hc_23 : σ_17 (7 + 3) = q_an G 8 se := (hf_14 _ (by omega)).trans hc_10
      have hc_24 : σ_17 (7 + 4) = q_an G 8 tf := (hf_14 _ (by omega)).trans hc_11
      have hc_25 : σ_17 (7 + 5) = q_an G 8 ts := (hf_14 _ (by omega)).trans hc_12
      have hc_26 : σ_17 3 = o9 G (1) (nI (m)) (nI (x_kd f m t2)) (nI (t2)) (nI (tk_be f m t2)) (nu3) := (hf_14 _ (by omega)).trans hc_1
      refine A_istore_n hg dX3_readStick_34 rfl (by decide) (q_c1d rfl) ?_
      refine A_eq (ls2 := [some (.ref (q_h G + 2)), some (.int (nI (0))), none]) (st2 := []) (pc2 := 0) rfl rfl ?_
      refine A_aload_n hg dX3_readStick_35 rfl rfl ?_
      refine A_iconst (v := (nI (1))) hg dX3_readStick_36 (by decide) ?_
      refine A_bipush (v := (nI (9))) hg dX3_readStick_37 (by decide) ?_
      refine A_eV (kc2 := 0) (ks2 := 0) (As := [.int (nI (1)), .int (nI (9))]) (rest := []) hg lk_RX3_139 in_X3_readNumber se_X3_readNumber rfl dX3_readStick_39 ⟨by decide, by decide⟩ rfl rfl ⟨by decide, by decide⟩ hc_13 (by omega) rfl rfl (Nat.le_of_ble_eq_true rfl) (c_X3_readNumberE G ex n σ_17 ft (tk_nc f m t2 0 60) (nI (t2)) 1 9 hc_13 (by omega) hncA (by have := tk_nc_lt f m t2 0 60; omega)) ?_
      refine A_istore_n hg dX3_readStick_42 rfl (by decide) (q_c1d rfl) ?_
      refine A_eq (ls2 := [some (.ref (q_h G + 2)), some (.int (nI (0))), some (.int (nI (0)))]) (st2 := []) (pc2 := 0) rfl rfl ?_
      refine A_aload_n hg dX3_readStick_43 rfl rfl ?_
      refine A_getf (v := .ref (q_h G + 5)) hg fl_RX3_21 dX3_readStick_44 hc_13 (by omega) rfl ?_
      refine A_getf (v := .ref (q_h G + 7)) hg fl_RX3_161 dX3_readStick_47 hc_19 (by omega) rfl ?_
      refine A_iload_n hg dX3_readStick_50 rfl rfl ?_
      refine A_iload_n hg dX3_readStick_51 rfl rfl ?_
      refine A_vV (kc2 := 0) (ks2 := 0) (As := [.int (nI (0)), .int (nI (0))]) (rest := []) hg lk_RX3_177 in_X6_addStick se_X6_addStick rfl dX3_readStick_52 ⟨by decide, by decide⟩ rfl rfl ⟨by decide, by decide⟩ hc_20 (by omega) rfl rfl (Nat.le_of_ble_eq_true rfl) (c_X6_addStick G ex n σ_17 7 (g 1) (g 2) kd fi se tf ts 0 0 hc_20 hc_21 hc_22 hc_23 hc_24 hc_25 (by omega) (by omega)) ?_
      rintro σ_34 ⟨hc_27, hc_28, hc_29, hc_30, hc_31, hc_32, hf_33⟩
      have hc_35 : σ_34 1 = q_an G 600 f := (hf_33 _ (by omega)).trans hc_18
      have hc_36 : σ_34 5 = o0 G (5) (nI (g 0)) (nI (pl)) (nI (tn)) (nI (gm)) (nI (tk)) := (hf_33 _ (by omega)).trans hc_19
      have hc_37 : σ_34 3 = o9 G (1) (nI (m)) (nI (x_kd f m t2)) (nI (t2)) (nI (tk_be f m t2)) (nu3) := (hf_33 _ (by omega)).trans hc_26
      have hc_38 : σ_34 2 = o3 G (2) (nI (ft)) (nI (tk_nc f m t2 0 60)) (nI (t2)) := (hf_33 _ (by omega)).trans hc_13
      refine A_aload_n hg dX3_readStick_55 rfl rfl ?_
      refine A_getf (v := .int (nI (tk_nc f m t2 0 60))) hg fl_RX3_29 dX3_readStick_56 hc_38 (by omega) rfl ?_
      refine A_if_neN (tgt := 66) hg dX3_readStick_59 (by first | (have := tk_nc_lt f m t2 0 60; omega) | (have := tk_nc_lt f m tA 1 9; omega)) (by decide) (fun c59 => ?_) (fun c59 => absurd c59 (by assumption))
      refine A_iconst (v := (nI (0))) hg dX3_readStick_66 (by decide) ?_
      rw [hQ]
      exact A_zreturn hg (by decide) (by decide) rfl rfl dX3_readStick_67 ⟨rfl, Or.inl (⟨tk_nc f m t2 0 60, t2, (nI (x_kd f m t2)), (nI (t2)), (nI (tk_be f m t2)), (nu3), (g 1), ((g 2) + 1), (va_up kd (4 + (g 2)) 0), (va_up fi (4 + (g 2)) 0), (va_up se (4 + (g 2)) 0), (va_up tf (4 + (g 2)) 0), (va_up ts (4 + (g 2)) 0), rfl, ((rd_s_go (by omega) ht2).trans (rd_2_1 hncA)), (by first | assumption | omega), hc_38, hc_37, hc_27, hc_28, hc_29, hc_30, hc_31, hc_32, (fun i hi => ((hf_33 i (by omega)).trans ((hf_14 i (by omega)).trans (hf_2 i (by omega)))))⟩)⟩
    · skip
      refine (?_ : AJ G K Q 0 0 ex n 34 [some (.ref (q_h G + 2)), none, none] [.int (nI (tk_vl f m t2))] σ_17)
      have hc_39 : σ_17 2 = o3 G (2) (nI (ft)) (nI (0)) (q_d (0)) := (hf_16 _ (by omega)).trans hc_4
      have hc_40 : σ_17 1 = q_an G 600 f := (hf_16 _ (by omega)).trans hc_5
      have hc_41 : σ_17 5 = o0 G (5) (nI (g 0)) (nI (pl)) (nI (tn)) (nI (gm)) (nI (tk)) := (hf_16 _ (by omega)).trans hc_6
      have hc_42 : σ_17 7 = o6 G (7) (nI (g 1)) (nI (g 2)) := (hf_16 _ (by omega)).trans hc_7
      have hc_43 : σ_17 (7 + 1) = q_an G 8 kd := (hf_16 _ (by omega)).trans hc_8
      have hc_44 : σ_17 (7 + 2) = q_an G 8 fi := (hf_16 _ (by omega)).trans hc_9
      have hc_45 : σ_17 (7 + 3) = q_an G 8 se := (hf_16 _ (by omega)).trans hc_10
      have hc_46 : σ_17 (7 + 4) = q_an G 8 tf := (hf_16 _ (by omega)).trans hc_11
      have hc_47 : σ_17 (7 + 5) = q_an G 8 ts := (hf_16 _ (by omega)).trans hc_12
      refine A_istore_n hg dX3_readStick_34 rfl (by decide) (q_c1d rfl) ?_
      refine A_eq (ls2 := [some (.ref (q_h G + 2)), some (.int (nI (tk_vl f m t2))), none]) (st2 := []) (pc2 := 0) rfl rfl ?_
      refine A_aload_n hg dX3_readStick_35 rfl rfl ?_
      refine A_iconst (v := (nI (1))) hg dX3_readStick_36 (by decide) ?_
      refine A_bipush (v := (nI (9))) hg dX3_readStick_37 (by decide) ?_
      refine A_hV (kc2 := 0) (ks2 := 0) (As := [.int (nI (1)), .int (nI (9))]) (rest := []) hg lk_RX3_139 in_X3_readNumber se_X3_readNumber rfl dX3_readStick_39 ⟨by decide, by decide⟩ rfl rfl ⟨by decide, by decide⟩ hc_39 (by omega) rfl rfl (Nat.le_of_ble_eq_true rfl) (c_X3_readNumber G ex n σ_17 f m tA nuA ft 1 9 hc_39 hc_15 hc_40 (by omega) hm6 hbb htmA hnuA (by omega) (by omega)) ?_
      rintro _ σ_52 (⟨rfl, hncB, hc_48, hf_49⟩ | ⟨tB, nuB, rfl, hncB, htB, htmB, hnuB, hc_50, hf_51⟩)
      · skip
        refine (?_ : AJ G K Q 0 0 ex n 42 [some (.ref (q_h G + 2)), some (.int (nI (tk_vl f m t2))), none] [.int (nI (0))] σ_52)
        have hc_53 : σ_52 1 = q_an G 600 f := (hf_49 _ (by omega)).trans hc_40
        have hc_54 : σ_52 5 = o0 G (5) (nI (g 0)) (nI (pl)) (nI (tn)) (nI (gm)) (nI (tk)) := (hf_49 _ (by omega)).trans hc_41
        have hc_55 : σ_52 7 = o6 G (7) (nI (g 1)) (nI (g 2)) := (hf_49 _ (by omega)).trans hc_42
        have hc_56 : σ_52 (7 + 1) = q_an G 8 kd := (hf_49 _ (by omega)).trans hc_43
        have hc_57 : σ_52 (7 + 2) = q_an G 8 fi := (hf_49 _ (by omega)).trans hc_44
        have hc_58 : σ_52 (7 + 3) = q_an G 8 se := (hf_49 _ (by omega)).trans hc_45
        have hc_59 : σ_52 (7 + 4) = q_an G 8 tf := (hf_49 _ (by omega)).trans hc_46
        have hc_60 : σ_52 (7 + 5) = q_an G 8 ts := (hf_49 _ (by omega)).trans hc_47
        have hc_61 : σ_52 3 = o9 G (1) (nI (m)) (nI (x_kd f m tA)) (nI (tA)) (nI (tk_be f m tA)) (nuA) := (hf_49 _ (by omega)).trans hc_15
        refine A_istore_n hg dX3_readStick_42 rfl (by decide) (q_c1d rfl) ?_
        refine A_eq (ls2 := [some (.ref (q_h G + 2)), some (.int (nI (tk_vl f m t2))), some (.int (nI (0)))]) (st2 := []) (pc2 := 0) rfl rfl ?_
        refine A_aload_n hg dX3_readStick_43 rfl rfl ?_
        refine A_getf (v := .ref (q_h G + 5)) hg fl_RX3_21 dX3_readStick_44 hc_48 (by omega) rfl ?_
        refine A_getf (v := .ref (q_h G + 7)) hg fl_RX3_161 dX3_readStick_47 hc_54 (by omega) rfl ?_
        refine A_iload_n hg dX3_readStick_50 rfl rfl ?_
        refine A_iload_n hg dX3_readStick_51 rfl rfl ?_
        refine A_vV (kc2 := 0) (ks2 := 0) (As := [.int (nI (tk_vl f m t2)), .int (nI (0))]) (rest := []) hg lk_RX3_177 in_X6_addStick se_X6_addStick rfl dX3_readStick_52 ⟨by decide, by decide⟩ rfl rfl ⟨by decide, by decide⟩ hc_55 (by omega) rfl rfl (Nat.le_of_ble_eq_true rfl) (c_X6_addStick G ex n σ_52 7 (g 1) (g 2) kd fi se tf ts (tk_vl f m t2) 0 hc_55 hc_56 hc_57 hc_58 hc_59 hc_60 (by omega) (by omega)) ?_
        rintro σ_69 ⟨hc_62, hc_63, hc_64, hc_65, hc_66, hc_67, hf_68⟩
        have hc_70 : σ_69 1 = q_an G 600 f := (hf_68 _ (by omega)).trans hc_53
        have hc_71 : σ_69 5 = o0 G (5) (nI (g 0)) (nI (pl)) (nI (tn)) (nI (gm)) (nI (tk)) := (hf_68 _ (by omega)).trans hc_54
        have hc_72 : σ_69 3 = o9 G (1) (nI (m)) (nI (x_kd f m tA)) (nI (tA)) (nI (tk_be f m tA)) (nuA) := (hf_68 _ (by omega)).trans hc_61
        have hc_73 : σ_69 2 = o3 G (2) (nI (ft)) (nI (tk_nc f m tA 1 9)) (nI (tA)) := (hf_68 _ (by omega)).trans hc_48
        refine A_aload_n hg dX3_readStick_55 rfl rfl ?_
        refine A_getf (v := .int (nI (tk_nc f m tA 1 9))) hg fl_RX3_29 dX3_readStick_56 hc_73 (by omega) rfl ?_
        refine A_if_neN (tgt := 66) hg dX3_readStick_59 (by first | (have := tk_nc_lt f m t2 0 60; omega) | (have := tk_nc_lt f m tA 1 9; omega)) (by decide) (fun c59 => ?_) (fun c59 => absurd c59 (by assumption))
        refine A_iconst (v := (nI (0))) hg dX3_readStick_66 (by decide) ?_
        rw [hQ]
        exact A_zreturn hg (by decide) (by decide) rfl rfl dX3_readStick_67 ⟨rfl, Or.inl (⟨tk_nc f m tA 1 9, tA, (nI (x_kd f m tA)), (nI (tA)), (nI (tk_be f m tA)), (nuA), (g 1), ((g 2) + 1), (va_up kd (4 + (g 2)) 0), (va_up fi (4 + (g 2)) (tk_vl f m t2)), (va_up se (4 + (g 2)) 0), (va_up tf (4 + (g 2)) (tk_vl f m t2)), (va_up ts (4 + (g 2)) 0), rfl, ((rd_s_go (by omega) ht2).trans (rd_2_2 hncA htA hncB)), (by first | assumption | omega), hc_73, hc_72, hc_62, hc_63, hc_64, hc_65, hc_66, hc_67, (fun i hi => ((hf_68 i (by omega)).trans ((hf_49 i (by omega)).trans ((hf_16 i (by omega)).trans (hf_2 i (by omega))))))⟩)⟩
      · skip
        refine (?_ : AJ G K Q 0 0 ex n 42 [some (.ref (q_h G + 2)), some (.int (nI (tk_vl f m t2))), none] [.int (nI (tk_vl f m tA))] σ_52)
        have hc_74 : σ_52 2 = o3 G (2) (nI (ft)) (nI (0)) (q_d (0)) := (hf_51 _ (by omega)).trans hc_39
        have hc_75 : σ_52 1 = q_an G 600 f := (hf_51 _ (by omega)).trans hc_40
        have hc_76 : σ_52 5 = o0 G (5) (nI (g 0)) (nI (pl)) (nI (tn)) (nI (gm)) (nI (tk)) := (hf_51 _ (by omega)).trans hc_41
        have hc_77 : σ_52 7 = o6 G (7) (nI (g 1)) (nI (g 2)) := (hf_51 _ (by omega)).trans hc_42
        have hc_78 : σ_52 (7 + 1) = q_an G 8 kd := (hf_51 _ (by omega)).trans hc_43
        have hc_79 : σ_52 (7 + 2) = q_an G 8 fi := (hf_51 _ (by omega)).trans hc_44
        have hc_80 : σ_52 (7 + 3) = q_an G 8 se := (hf_51 _ (by omega)).trans hc_45
        have hc_81 : σ_52 (7 + 4) = q_an G 8 tf := (hf_51 _ (by omega)).trans hc_46
        have hc_82 : σ_52 (7 + 5) = q_an G 8 ts := (hf_51 _ (by omega)).trans hc_47
        refine A_istore_n hg dX3_readStick_42 rfl (by decide) (q_c1d rfl) ?_
        refine A_eq (ls2 := [some (.ref (q_h G + 2)), some (.int (nI (tk_vl f m t2))), some (.int (nI (tk_vl f m tA)))]) (st2 := []) (pc2 := 0) rfl rfl ?_
        refine A_aload_n hg dX3_readStick_43 rfl rfl ?_
        refine A_getf (v := .ref (q_h G + 5)) hg fl_RX3_21 dX3_readStick_44 hc_74 (by omega) rfl ?_
        refine A_getf (v := .ref (q_h G + 7)) hg fl_RX3_161 dX3_readStick_47 hc_76 (by omega) rfl ?_
        refine A_iload_n hg dX3_readStick_50 rfl rfl ?_
        refine A_iload_n hg dX3_readStick_51 rfl rfl ?_
        refine A_vV (kc2 := 0) (ks2 := 0) (As := [.int (nI (tk_vl f m t2)), .int (nI (tk_vl f m tA))]) (rest := []) hg lk_RX3_177 in_X6_addStick se_X6_addStick rfl dX3_readStick_52 ⟨by decide, by decide⟩ rfl rfl ⟨by decide, by decide⟩ hc_77 (by omega) rfl rfl (Nat.le_of_ble_eq_true rfl) (c_X6_addStick G ex n σ_52 7 (g 1) (g 2) kd fi se tf ts (tk_vl f m t2) (tk_vl f m tA) hc_77 hc_78 hc_79 hc_80 hc_81 hc_82 (by omega) (by omega)) ?_
        rintro σ_90 ⟨hc_83, hc_84, hc_85, hc_86, hc_87, hc_88, hf_89⟩
        have hc_91 : σ_90 2 = o3 G (2) (nI (ft)) (nI (0)) (q_d (0)) := (hf_89 _ (by omega)).trans hc_74
        have hc_92 : σ_90 1 = q_an G 600 f := (hf_89 _ (by omega)).trans hc_75
        have hc_93 : σ_90 5 = o0 G (5) (nI (g 0)) (nI (pl)) (nI (tn)) (nI (gm)) (nI (tk)) := (hf_89 _ (by omega)).trans hc_76
        have hc_94 : σ_90 3 = o9 G (1) (nI (m)) (nI (x_kd f m tB)) (nI (tB)) (nI (tk_be f m tB)) (nuB) := (hf_89 _ (by omega)).trans hc_50
        refine A_aload_n hg dX3_readStick_55 rfl rfl ?_
        refine A_getf (v := .int (nI (0))) hg fl_RX3_29 dX3_readStick_56 hc_91 (by omega) rfl ?_
        refine A_if_neN (tgt := 66) hg dX3_readStick_59 (by decide) (by decide) (fun c59 => absurd (by decide) c59) (fun c59 => ?_)
        refine A_iconst (v := (nI (1))) hg dX3_readStick_62 (by decide) ?_
        refine A_goto (tgt := 67) hg dX3_readStick_63 (by decide) ?_
        have htmL := htmB
        have hnuL := hnuB
        have eg1 : (s_addS g (tk_vl f m t2) (tk_vl f m tA)) 1 = g 1 := (by first | exact va_up_at | exact s_addS_lo (by decide) (by decide))
        have eg2 : (s_addS g (tk_vl f m t2) (tk_vl f m tA)) 2 = (g 2) + 1 := (by first | exact s_addB_lo (by decide) (by decide) | exact va_up_at)
        have hc_95 : σ_90 7 = o6 G (7) (nI ((s_addS g (tk_vl f m t2) (tk_vl f m tA)) 1)) (nI ((s_addS g (tk_vl f m t2) (tk_vl f m tA)) 2)) := hc_83.trans (by rw [eg1, eg2])
        rw [hQ]
        exact A_zreturn hg (by decide) (by decide) rfl rfl dX3_readStick_67 ⟨rfl, Or.inr ((⟨(s_addS g (tk_vl f m t2) (tk_vl f m tA)), tB, nuB, (va_up kd (4 + (g 2)) (tk_vl f m tA)), (va_up fi (4 + (g 2)) (tk_vl f m t2)), (va_up se (4 + (g 2)) 0), (va_up tf (4 + (g 2)) (tk_vl f m t2)), (va_up ts (4 + (g 2)) 0), rfl, ((rd_s_go (by omega) ht2).trans (rd_2_ok hncA htA hncB htB)), (x_p_addS hg1 c11 hxp), (x_tp_addS hg1 c11 htp), htmL, hnuL, hc_91, hc_94, hc_95, hc_84, hc_85, hc_86, hc_87, hc_88, (fun i hi => ((hf_89 i (by omega)).trans ((hf_51 i (by omega)).trans ((hf_16 i (by omega)).trans (hf_2 i (by omega))))))⟩))⟩
  · skip
    refine A_aload_n hg dX3_readStick_14 rfl rfl ?_
    refine A_iconst (v := (nI (5))) hg dX3_readStick_15 (by decide) ?_
    refine A_hV (kc2 := 0) (ks2 := 0) (As := [.int (nI (5))]) (rest := []) hg lk_RX3_71 in_X3_fail se_X3_fail rfl dX3_readStick_16 ⟨by decide, by decide⟩ rfl rfl ⟨by decide, by decide⟩ hc0 (by omega) rfl rfl (Nat.le_of_ble_eq_true rfl) (c_X3_fail G ex n σ m t (nI (x_kd f m t)) (nI (tk_be f m t)) nu ft (nI (0)) (q_d (0)) 5 hc0 hc1 (by omega)) ?_
    rintro _ σ_98 ⟨rfl, hc_96, hf_97⟩
    refine (?_ : AJ G K Q 0 0 ex n 19 [some (.ref (q_h G + 2)), none, none] [.int (nI (0))] σ_98)
    have hc_99 : σ_98 3 = o9 G (1) (nI (m)) (nI (x_kd f m t)) (nI (t)) (nI (tk_be f m t)) (nu) := (hf_97 _ (by omega)).trans hc1
    have hc_100 : σ_98 1 = q_an G 600 f := (hf_97 _ (by omega)).trans hc2
    have hc_101 : σ_98 5 = o0 G (5) (nI (g 0)) (nI (pl)) (nI (tn)) (nI (gm)) (nI (tk)) := (hf_97 _ (by omega)).trans hc3
    have hc_102 : σ_98 7 = o6 G (7) (nI (g 1)) (nI (g 2)) := (hf_97 _ (by omega)).trans hc4
    have hc_103 : σ_98 (7 + 1) = q_an G 8 kd := (hf_97 _ (by omega)).trans hc5
    have hc_104 : σ_98 (7 + 2) = q_an G 8 fi := (hf_97 _ (by omega)).trans hc6
    have hc_105 : σ_98 (7 + 3) = q_an G 8 se := (hf_97 _ (by omega)).trans hc7
    have hc_106 : σ_98 (7 + 4) = q_an G 8 tf := (hf_97 _ (by omega)).trans hc8
    have hc_107 : σ_98 (7 + 5) = q_an G 8 ts := (hf_97 _ (by omega)).trans hc9
    rw [hQ]
    exact A_zreturn hg (by decide) (by decide) rfl rfl dX3_readStick_19 ⟨rfl, Or.inl (⟨5, t, (nI (x_kd f m t)), (nI (t)), (nI (tk_be f m t)), (nu), (g 1), (g 2), kd, fi, se, tf, ts, rfl, (rd_s_5 (by omega)), (by first | assumption | omega), hc_96, hc_99, hc_102, hc_103, hc_104, hc_105, hc_106, hc_107, (fun i hi => (hf_97 i (by omega)))⟩)⟩
set_option maxRecDepth 100000 in
set_option maxHeartbeats 4000000 in
theorem c_X3_readFirst (G : GL) (ex : Bool) (n : Nat) (σ : Nat → va_E) (f : Nat → Nat) (m : Nat) (t : Nat) (nu : Int32) (ft : Nat) (g : Nat → Nat) (pl : Nat) (tn : Nat) (gm : Nat) (tk : Nat) (hc0 : σ 2 = o3 G (2) (nI (ft)) (nI (0)) (q_d (0))) (hc1 : σ 3 = o9 G (1) (nI (m)) (nI (x_kd f m t)) (nI (t)) (nI (tk_be f m t)) (nu)) (hc2 : σ 1 = q_an G 600 f) (hc3 : σ 5 = o0 G (5) (nI (g 0)) (nI (pl)) (nI (tn)) (nI (gm)) (nI (tk))) (hn9 : 279 ≤ n) (hm6 : m ≤ 600) (hbb : ∀ k : Nat, s_byte f m k ≤ 256) (ht9 : t ≤ m) (hnu : tk_kd f m t = 2 → nu = nI (tk_vl f m t)) (hft : ft ≤ 1) : Ct G yX3_readFirst cX3_readFirst 1 (some .boolean) ⟨3, 0, 0, 67⟩ [.ref (q_h G + 2)] ex n σ (fun v9 σ2 => (∃ (c : Nat), ∃ (o : Nat), ∃ (kd2 : Int32), ∃ (st2 : Int32), ∃ (be2 : Int32), ∃ (nu2 : Int32), ∃ (pl2 : Nat), ∃ (ft2 : Nat), v9 = some (.int (nI (0))) ∧ (rd_f f m ft g t = .inl (c, o)) ∧ (¬ c = 0) ∧ σ2 2 = o3 G (2) (nI (ft2)) (nI (c)) (nI (o)) ∧ σ2 3 = o9 G (1) (nI (m)) (kd2) (st2) (be2) (nu2) ∧ σ2 5 = o0 G (5) (nI (g 0)) (nI (pl2)) (nI (tn)) (nI (gm)) (nI (tk)) ∧ (∀ i : Nat, i ≠ 2 ∧ i ≠ 3 ∧ i ≠ 5 → σ2 i = σ i)) ∨ (∃ (g' : Nat → Nat), ∃ (t2 : Nat), ∃ (nu2 : Int32), v9 = some (.int (nI (1))) ∧ (rd_f f m ft g t = .inr (g', t2)) ∧ (∃ v : Nat, v ≤ 1 ∧ g' = va_up g 3 v) ∧ (t2 ≤ m) ∧ (tk_kd f m t2 = 2 → nu2 = nI (tk_vl f m t2)) ∧ σ2 2 = o3 G (2) (nI (1)) (nI (0)) (q_d (0)) ∧ σ2 3 = o9 G (1) (nI (m)) (nI (x_kd f m t2)) (nI (t2)) (nI (tk_be f m t2)) (nu2) ∧ σ2 5 = o0 G (5) (nI (g 0)) (nI (g' 3)) (nI (tn)) (nI (gm)) (nI (tk)) ∧ (∀ i : Nat, i ≠ 2 ∧ i ≠ 3 ∧ i ≠ 5 → σ2 i = σ i))) := by
  refine q_enter [some (.ref (q_h G + 2))] (by decide) (Nat.le_of_ble_eq_true rfl) rfl ?_
  intro K hg
  obtain ⟨Q, hQ⟩ : ∃ Q, Q = q_Q G K ex n 0 0 (fun v9 n' σ' => n' = n ∧ (fun v9 σ2 => (∃ (c : Nat), ∃ (o : Nat), ∃ (kd2 : Int32), ∃ (st2 : Int32), ∃ (be2 : Int32), ∃ (nu2 : Int32), ∃ (pl2 : Nat), ∃ (ft2 : Nat), v9 = some (.int (nI (0))) ∧ (rd_f f m ft g t = .inl (c, o)) ∧ (¬ c = 0) ∧ σ2 2 = o3 G (2) (nI (ft2)) (nI (c)) (nI (o)) ∧ σ2 3 = o9 G (1) (nI (m)) (kd2) (st2) (be2) (nu2) ∧ σ2 5 = o0 G (5) (nI (g 0)) (nI (pl2)) (nI (tn)) (nI (gm)) (nI (tk)) ∧ (∀ i : Nat, i ≠ 2 ∧ i ≠ 3 ∧ i ≠ 5 → σ2 i = σ i)) ∨ (∃ (g' : Nat → Nat), ∃ (t2 : Nat), ∃ (nu2 : Int32), v9 = some (.int (nI (1))) ∧ (rd_f f m ft g t = .inr (g', t2)) ∧ (∃ v : Nat, v ≤ 1 ∧ g' = va_up g 3 v) ∧ (t2 ≤ m) ∧ (tk_kd f m t2 = 2 → nu2 = nI (tk_vl f m t2)) ∧ σ2 2 = o3 G (2) (nI (1)) (nI (0)) (q_d (0)) ∧ σ2 3 = o9 G (1) (nI (m)) (nI (x_kd f m t2)) (nI (t2)) (nI (tk_be f m t2)) (nu2) ∧ σ2 5 = o0 G (5) (nI (g 0)) (nI (g' 3)) (nI (tn)) (nI (gm)) (nI (tk)) ∧ (∀ i : Nat, i ≠ 2 ∧ i ≠ 3 ∧ i ≠ 5 → σ2 i = σ i))) v9 σ') q_noX := ⟨_, rfl⟩
  refine (?_ : AJ G K (q_Q G K ex n 0 0 _ _) 0 0 ex n 0 _ _ σ)
  rw [← hQ]
  have hbe := tk_be_le (f := f) ht9
  have hbg := tk_be_ge (f := f) (m := m) (t := t)
  have hkl := x_kd_lt f m t
  refine A_aload_n hg dX3_readFirst_0 rfl rfl ?_
  refine A_getf (v := .int (nI (ft))) hg fl_RX3_25 dX3_readFirst_1 hc0 (by omega) rfl ?_
  refine A_if_eqN (tgt := 13) hg dX3_readFirst_4 (by omega) (by decide) (fun c4 => ?_) (fun c4 => ?_)
  · skip
    refine A_aload_n hg dX3_readFirst_13 rfl rfl ?_
    refine A_iconst (v := (nI (1))) hg dX3_readFirst_14 (by decide) ?_
    refine A_putf hg fl_RX3_25 dX3_readFirst_15 hc0 (by omega) (Nat.le_of_ble_eq_true rfl) rfl rfl rfl (fun σ_1 hc_2 hf_3 => ?_)
    have hc_2 : σ_1 2 = o3 G (2) (nI (1)) (nI (0)) (q_d (0)) := hc_2
    have hc_4 : σ_1 3 = o9 G (1) (nI (m)) (nI (x_kd f m t)) (nI (t)) (nI (tk_be f m t)) (nu) := (hf_3 _ (by omega)).trans hc1
    have hc_5 : σ_1 1 = q_an G 600 f := (hf_3 _ (by omega)).trans hc2
    have hc_6 : σ_1 5 = o0 G (5) (nI (g 0)) (nI (pl)) (nI (tn)) (nI (gm)) (nI (tk)) := (hf_3 _ (by omega)).trans hc3
    refine A_aload_n hg dX3_readFirst_18 rfl rfl ?_
    refine A_getf (v := .ref (q_h G + 3)) hg fl_RX3_12 dX3_readFirst_19 hc_2 (by omega) rfl ?_
    refine A_vV (kc2 := 0) (ks2 := 0) (As := []) (rest := []) hg lk_RX3_84 in_X9_advance se_X9_advance rfl dX3_readFirst_22 ⟨by decide, by decide⟩ rfl rfl ⟨by decide, by decide⟩ hc_4 (by omega) rfl rfl (Nat.le_of_ble_eq_true rfl) (c_X9_advance G ex n σ_1 f m (nI (x_kd f m t)) (nI (t)) (tk_be f m t) nu hc_4 hc_5 (by omega) hm6 hbb (by omega)) ?_
    rintro σ_9 ⟨t2, nu3, ht2, hnu2, hc_7, hf_8⟩
    have hc_10 : σ_9 1 = q_an G 600 f := (hf_8 _ (by omega)).trans hc_5
    have hc_11 : σ_9 5 = o0 G (5) (nI (g 0)) (nI (pl)) (nI (tn)) (nI (gm)) (nI (tk)) := (hf_8 _ (by omega)).trans hc_6
    have hc_12 : σ_9 2 = o3 G (2) (nI (1)) (nI (0)) (q_d (0)) := (hf_8 _ (by omega)).trans hc_2
    have htm2 : t2 ≤ m := by rw [ht2]; exact tk_nx_le ht9
    refine A_aload_n hg dX3_readFirst_25 rfl rfl ?_
    refine A_getf (v := .ref (q_h G + 5)) hg fl_RX3_21 dX3_readFirst_26 hc_12 (by omega) rfl ?_
    refine A_aload_n hg dX3_readFirst_29 rfl rfl ?_
    refine A_iconst (v := (nI (0))) hg dX3_readFirst_30 (by decide) ?_
    refine A_iconst (v := (nI (1))) hg dX3_readFirst_31 (by decide) ?_
    refine A_hV (kc2 := 0) (ks2 := 0) (As := [.int (nI (0)), .int (nI (1))]) (rest := [.ref (q_h G + 5)]) hg lk_RX3_139 in_X3_readNumber se_X3_readNumber rfl dX3_readFirst_32 ⟨by decide, by decide⟩ rfl rfl ⟨by decide, by decide⟩ hc_12 (by omega) rfl rfl (Nat.le_of_ble_eq_true rfl) (c_X3_readNumber G ex n σ_9 f m t2 nu3 1 0 1 hc_12 hc_7 hc_10 (by omega) hm6 hbb htm2 hnu2 (by omega) (by omega)) ?_
    rintro _ σ_17 (⟨rfl, hncA, hc_13, hf_14⟩ | ⟨tA, nuA, rfl, hncA, htA, htmA, hnuA, hc_15, hf_16⟩)
    · skip
      refine (?_ : AJ G K Q 0 0 ex n 35 [some (.ref (q_h G + 2))] [.int (nI (0)), .ref (q_h G + 5)] σ_17)
      have hc_18 : σ_17 1 = q_an G 600 f := (hf_14 _ (by omega)).trans hc_10
      have hc_19 : σ_17 5 = o0 G (5) (nI (g 0)) (nI (pl)) (nI (tn)) (nI (gm)) (nI (tk)) := (hf_14 _ (by omega)).trans hc_11
      have hc_20 : σ_17 3 = o9 G (1) (nI (m)) (nI (x_kd f m t2)) (nI (t2)) (nI (tk_be f m t2)) (nu3) := (hf_14 _ (by omega)).trans hc_7
      refine A_putf hg fl_RX3_181 dX3_readFirst_35 hc_19 (by omega) (Nat.le_of_ble_eq_true rfl) rfl rfl rfl (fun σ_21 hc_22 hf_23 => ?_)
      have hc_22 : σ_21 5 = o0 G (5) (nI (g 0)) (nI (0)) (nI (tn)) (nI (gm)) (nI (tk)) := hc_22
      have hc_24 : σ_21 1 = q_an G 600 f := (hf_23 _ (by omega)).trans hc_18
      have hc_25 : σ_21 3 = o9 G (1) (nI (m)) (nI (x_kd f m t2)) (nI (t2)) (nI (tk_be f m t2)) (nu3) := (hf_23 _ (by omega)).trans hc_20
      have hc_26 : σ_21 2 = o3 G (2) (nI (1)) (nI (tk_nc f m t2 0 1)) (nI (t2)) := (hf_23 _ (by omega)).trans hc_13
      refine A_aload_n hg dX3_readFirst_38 rfl rfl ?_
      refine A_getf (v := .int (nI (tk_nc f m t2 0 1))) hg fl_RX3_29 dX3_readFirst_39 hc_26 (by omega) rfl ?_
      refine A_if_neN (tgt := 49) hg dX3_readFirst_42 (by have := tk_nc_lt f m t2 0 1; omega) (by decide) (fun c42 => ?_) (fun c42 => absurd c42 (by assumption))
      refine A_iconst (v := (nI (0))) hg dX3_readFirst_49 (by decide) ?_
      rw [hQ]
      exact A_zreturn hg (by decide) (by decide) rfl rfl dX3_readFirst_50 ⟨rfl, Or.inl (⟨tk_nc f m t2 0 1, t2, (nI (x_kd f m t2)), (nI (t2)), (nI (tk_be f m t2)), (nu3), 0, 1, rfl, (rd_f_e (by omega) ht2 hncA), hncA, hc_26, hc_25, hc_22, (fun i hi => ((hf_23 i (by omega)).trans ((hf_14 i (by omega)).trans ((hf_8 i (by omega)).trans (hf_3 i (by omega))))))⟩)⟩
    · skip
      refine (?_ : AJ G K Q 0 0 ex n 35 [some (.ref (q_h G + 2))] [.int (nI (tk_vl f m t2)), .ref (q_h G + 5)] σ_17)
      have hc_27 : σ_17 1 = q_an G 600 f := (hf_16 _ (by omega)).trans hc_10
      have hc_28 : σ_17 5 = o0 G (5) (nI (g 0)) (nI (pl)) (nI (tn)) (nI (gm)) (nI (tk)) := (hf_16 _ (by omega)).trans hc_11
      have hc_29 : σ_17 2 = o3 G (2) (nI (1)) (nI (0)) (q_d (0)) := (hf_16 _ (by omega)).trans hc_12
      refine A_putf hg fl_RX3_181 dX3_readFirst_35 hc_28 (by omega) (Nat.le_of_ble_eq_true rfl) rfl rfl rfl (fun σ_30 hc_31 hf_32 => ?_)
      have hc_31 : σ_30 5 = o0 G (5) (nI (g 0)) (nI (tk_vl f m t2)) (nI (tn)) (nI (gm)) (nI (tk)) := hc_31
      have hc_33 : σ_30 1 = q_an G 600 f := (hf_32 _ (by omega)).trans hc_27
      have hc_34 : σ_30 2 = o3 G (2) (nI (1)) (nI (0)) (q_d (0)) := (hf_32 _ (by omega)).trans hc_29
      have hc_35 : σ_30 3 = o9 G (1) (nI (m)) (nI (x_kd f m tA)) (nI (tA)) (nI (tk_be f m tA)) (nuA) := (hf_32 _ (by omega)).trans hc_15
      refine A_aload_n hg dX3_readFirst_38 rfl rfl ?_
      refine A_getf (v := .int (nI (0))) hg fl_RX3_29 dX3_readFirst_39 hc_34 (by omega) rfl ?_
      refine A_if_neN (tgt := 49) hg dX3_readFirst_42 (by decide) (by decide) (fun c42 => absurd (by decide) c42) (fun c42 => ?_)
      refine A_iconst (v := (nI (1))) hg dX3_readFirst_45 (by decide) ?_
      refine A_goto (tgt := 50) hg dX3_readFirst_46 (by decide) ?_
      have hvA := tk_nc_v hncA
      have hc_36 : σ_30 5 = o0 G (5) (nI (g 0)) (nI (va_up g 3 (tk_vl f m t2) 3)) (nI (tn)) (nI (gm)) (nI (tk)) := hc_31.trans (by rw [va_up_at])
      rw [hQ]
      exact A_zreturn hg (by decide) (by decide) rfl rfl dX3_readFirst_50 ⟨rfl, Or.inr ((⟨(va_up g 3 (tk_vl f m t2)), tA, nuA, rfl, (rd_f_t (by omega) ht2 hncA htA), ⟨_, hvA.2, rfl⟩, htmA, hnuA, hc_34, hc_35, hc_36, (fun i hi => ((hf_32 i (by omega)).trans ((hf_16 i (by omega)).trans ((hf_8 i (by omega)).trans (hf_3 i (by omega))))))⟩))⟩
  · skip
    refine A_aload_n hg dX3_readFirst_7 rfl rfl ?_
    refine A_iconst (v := (nI (4))) hg dX3_readFirst_8 (by decide) ?_
    refine A_hV (kc2 := 0) (ks2 := 0) (As := [.int (nI (4))]) (rest := []) hg lk_RX3_71 in_X3_fail se_X3_fail rfl dX3_readFirst_9 ⟨by decide, by decide⟩ rfl rfl ⟨by decide, by decide⟩ hc0 (by omega) rfl rfl (Nat.le_of_ble_eq_true rfl) (c_X3_fail G ex n σ m t (nI (x_kd f m t)) (nI (tk_be f m t)) nu ft (nI (0)) (q_d (0)) 4 hc0 hc1 (by omega)) ?_
    rintro _ σ_39 ⟨rfl, hc_37, hf_38⟩
    refine (?_ : AJ G K Q 0 0 ex n 12 [some (.ref (q_h G + 2))] [.int (nI (0))] σ_39)
    have hc_40 : σ_39 3 = o9 G (1) (nI (m)) (nI (x_kd f m t)) (nI (t)) (nI (tk_be f m t)) (nu) := (hf_38 _ (by omega)).trans hc1
    have hc_41 : σ_39 1 = q_an G 600 f := (hf_38 _ (by omega)).trans hc2
    have hc_42 : σ_39 5 = o0 G (5) (nI (g 0)) (nI (pl)) (nI (tn)) (nI (gm)) (nI (tk)) := (hf_38 _ (by omega)).trans hc3
    rw [hQ]
    exact A_zreturn hg (by decide) (by decide) rfl rfl dX3_readFirst_12 ⟨rfl, Or.inl (⟨4, t, (nI (x_kd f m t)), (nI (t)), (nI (tk_be f m t)), (nu), pl, ft, rfl, (rd_f_4 (by omega)), (by omega), hc_37, hc_40, hc_42, (fun i hi => (hf_38 i (by omega)))⟩)⟩
set_option maxRecDepth 100000 in
set_option maxHeartbeats 4000000 in
theorem c_X9_begin (G : GL) (ex : Bool) (n : Nat) (σ : Nat → va_E) (f : Nat → Nat) (m : Nat) (ti : Nat) (ln : Int32) (kd : Int32) (st : Int32) (be : Int32) (nu : Int32) (hc0 : σ 3 = o9 G (ti) (ln) (kd) (st) (be) (nu)) (hc1 : σ 1 = q_an G 600 f) (hn9 : 279 ≤ n) (hm6 : m ≤ 600) (hbb : ∀ k : Nat, s_byte f m k ≤ 256) : Ct G yX9_begin cX9_begin 3 none ⟨2, 0, 0, 42⟩ [.ref (q_h G + 3), .ref (q_h G + 1), .int (nI (m))] ex n σ (fun v9 σ2 => v9 = none ∧ ∃ (t : Nat), ∃ (nu2 : Int32), (t = tk_st f m 0) ∧ (tk_kd f m t = 2 → nu2 = nI (tk_vl f m t)) ∧ σ2 3 = o9 G (1) (nI (m)) (nI (x_kd f m t)) (nI (t)) (nI (tk_be f m t)) (nu2) ∧ (∀ i : Nat, i ≠ 3 → σ2 i = σ i)) := by
  refine q_enter [some (.ref (q_h G + 3)), some (.ref (q_h G + 1)), some (.int (nI (m)))] (by decide) (Nat.le_of_ble_eq_true rfl) rfl ?_
  intro K hg
  obtain ⟨Q, hQ⟩ : ∃ Q, Q = q_Q G K ex n 0 0 (fun v9 n' σ' => n' = n ∧ (fun v9 σ2 => v9 = none ∧ ∃ (t : Nat), ∃ (nu2 : Int32), (t = tk_st f m 0) ∧ (tk_kd f m t = 2 → nu2 = nI (tk_vl f m t)) ∧ σ2 3 = o9 G (1) (nI (m)) (nI (x_kd f m t)) (nI (t)) (nI (tk_be f m t)) (nu2) ∧ (∀ i : Nat, i ≠ 3 → σ2 i = σ i)) v9 σ') q_noX := ⟨_, rfl⟩
  refine (?_ : AJ G K (q_Q G K ex n 0 0 _ _) 0 0 ex n 0 _ _ σ)
  rw [← hQ]
  refine A_aload_n hg dX9_begin_0 rfl rfl ?_
  refine A_aload_n hg dX9_begin_1 rfl rfl ?_
  refine A_putf hg fl_RX9_9 dX9_begin_2 hc0 (by omega) (Nat.le_of_ble_eq_true rfl) rfl rfl rfl (fun σ_1 hc_2 hf_3 => ?_)
  have hc_2 : σ_1 3 = o9 G (1) (ln) (kd) (st) (be) (nu) := hc_2
  have hc_4 : σ_1 1 = q_an G 600 f := (hf_3 _ (by omega)).trans hc1
  refine A_aload_n hg dX9_begin_5 rfl rfl ?_
  refine A_iload_n hg dX9_begin_6 rfl rfl ?_
  refine A_aload_n hg dX9_begin_7 rfl rfl ?_
  refine A_alen (t := 0) (len := 600) hg dX9_begin_8 hc_4 (by decide) (by omega) ?_
  refine A_min hg ml_RX9_31 dX9_begin_9 ⟨by decide, by decide, by decide, by decide⟩ (Nat.le_of_ble_eq_true rfl) ?_
  refine A_top (w := .int (nI (min m 600))) (q_min (a := m) (b := 600) (by omega) (by decide)) ?_
  refine A_top (w := .int (nI m)) (by rw [Nat.min_eq_left hm6]) ?_
  refine A_putf hg fl_RX9_15 dX9_begin_12 hc_2 (by omega) (Nat.le_of_ble_eq_true rfl) rfl rfl rfl (fun σ_5 hc_6 hf_7 => ?_)
  have hc_6 : σ_5 3 = o9 G (1) (nI (m)) (kd) (st) (be) (nu) := hc_6
  have hc_8 : σ_5 1 = q_an G 600 f := (hf_7 _ (by omega)).trans hc_4
  refine A_aload_n hg dX9_begin_15 rfl rfl ?_
  refine A_iconst (v := (nI (0))) hg dX9_begin_16 (by decide) ?_
  refine A_putf hg fl_RX9_25 dX9_begin_17 hc_6 (by omega) (Nat.le_of_ble_eq_true rfl) rfl rfl rfl (fun σ_9 hc_10 hf_11 => ?_)
  have hc_10 : σ_9 3 = o9 G (1) (nI (m)) (kd) (st) (nI (0)) (nu) := hc_10
  have hc_12 : σ_9 1 = q_an G 600 f := (hf_11 _ (by omega)).trans hc_8
  refine A_aload_n hg dX9_begin_20 rfl rfl ?_
  refine A_vV (kc2 := 0) (ks2 := 0) (As := []) (rest := []) hg lk_RX9_37 in_X9_advance se_X9_advance rfl dX9_begin_21 ⟨by decide, by decide⟩ rfl rfl ⟨by decide, by decide⟩ hc_10 (by omega) rfl rfl (Nat.le_of_ble_eq_true rfl) (c_X9_advance G ex n σ_9 f m kd st 0 nu hc_10 hc_12 (by omega) hm6 hbb (by omega)) ?_
  rintro σ_15 ⟨t9, nu9, ht9, hnu9, hc_13, hf_14⟩
  have hc_16 : σ_15 1 = q_an G 600 f := (hf_14 _ (by omega)).trans hc_12
  rw [hQ]
  exact A_return hg (by decide) (by decide) rfl dX9_begin_24 ⟨rfl, ⟨rfl, t9, nu9, ht9, hnu9, hc_13, (fun i hi => ((hf_14 i (by omega)).trans ((hf_11 i (by omega)).trans ((hf_7 i (by omega)).trans (hf_3 i (by omega))))))⟩⟩
end
