section
set_option maxRecDepth 100000 in
set_option maxHeartbeats 4000000 in
theorem c_X3_readSlack (G : GL) (ex : Bool) (n : Nat) (σ : Nat → va_E) (f : Nat → Nat) (m : Nat) (t : Nat) (nu : Int32) (ft : Nat) (rb : Nat) (nm : Nat) (on : Nat) (sl : Nat) (mo : Nat) (nb : Nat) (g : Nat → Nat) (r : Nat) (hc0 : σ 2 = o3 G (2) (nI (ft)) (nI (0)) (q_d (0))) (hc1 : σ 3 = o9 G (1) (nI (m)) (nI (x_kd f m t)) (nI (t)) (nI (tk_be f m t)) (nu)) (hc2 : σ 1 = q_an G 600 f) (hc3 : σ rb = o7 G (rb) (lN (nm)) (lN (on)) (nI (sl)) (nI (mo)) (nI (nb))) (hn9 : 279 ≤ n) (hm6 : m ≤ 600) (hbb : ∀ k : Nat, s_byte f m k ≤ 256) (ht9 : t ≤ m) (hnu : tk_kd f m t = 2 → nu = nI (tk_vl f m t)) (hrbx : 15 ≤ rb ∧ rb + 1 ≤ 22) (hfl : sl = s_rule g r 18) : Ct G yX3_readSlack cX3_readSlack 2 (some .boolean) ⟨5, 0, 0, 107⟩ [.ref (q_h G + 2), .ref (q_h G + rb)] ex n σ (fun v9 σ2 => (∃ (c : Nat), ∃ (o : Nat), ∃ (kd2 : Int32), ∃ (st2 : Int32), ∃ (be2 : Int32), ∃ (nu2 : Int32), v9 = some (.int (nI (0))) ∧ (rd_w f m [115, 108, 97, 99, 107] r 18 0 5 g t = .inl (c, o)) ∧ (¬ c = 0) ∧ σ2 2 = o3 G (2) (nI (ft)) (nI (c)) (nI (o)) ∧ σ2 3 = o9 G (1) (nI (m)) (kd2) (st2) (be2) (nu2) ∧ σ2 rb = o7 G (rb) (lN (nm)) (lN (on)) (nI (0)) (nI (mo)) (nI (nb)) ∧ (∀ i : Nat, i ≠ 2 ∧ i ≠ 3 ∧ i ≠ rb → σ2 i = σ i)) ∨ (∃ (g' : Nat → Nat), ∃ (t2 : Nat), ∃ (nu2 : Int32), ∃ (x2 : Nat), v9 = some (.int (nI (1))) ∧ (rd_w f m [115, 108, 97, 99, 107] r 18 0 5 g t = .inr (g', t2)) ∧ (x2 = s_rule g' r 18) ∧ (∀ j : Nat, j ≠ 18 → s_rule g' r j = s_rule g r j) ∧ (t2 ≤ m) ∧ (tk_kd f m t2 = 2 → nu2 = nI (tk_vl f m t2)) ∧ σ2 3 = o9 G (1) (nI (m)) (nI (x_kd f m t2)) (nI (t2)) (nI (tk_be f m t2)) (nu2) ∧ σ2 rb = o7 G (rb) (lN (nm)) (lN (on)) (nI (x2)) (nI (mo)) (nI (nb)) ∧ (∀ i : Nat, i ≠ 3 ∧ i ≠ rb → σ2 i = σ i))) := by
  refine q_enter [some (.ref (q_h G + 2)), some (.ref (q_h G + rb))] (by decide) (Nat.le_of_ble_eq_true rfl) rfl ?_
  intro K hg
  obtain ⟨Q, hQ⟩ : ∃ Q, Q = q_Q G K ex n 0 0 (fun v9 n' σ' => n' = n ∧ (fun v9 σ2 => (∃ (c : Nat), ∃ (o : Nat), ∃ (kd2 : Int32), ∃ (st2 : Int32), ∃ (be2 : Int32), ∃ (nu2 : Int32), v9 = some (.int (nI (0))) ∧ (rd_w f m [115, 108, 97, 99, 107] r 18 0 5 g t = .inl (c, o)) ∧ (¬ c = 0) ∧ σ2 2 = o3 G (2) (nI (ft)) (nI (c)) (nI (o)) ∧ σ2 3 = o9 G (1) (nI (m)) (kd2) (st2) (be2) (nu2) ∧ σ2 rb = o7 G (rb) (lN (nm)) (lN (on)) (nI (0)) (nI (mo)) (nI (nb)) ∧ (∀ i : Nat, i ≠ 2 ∧ i ≠ 3 ∧ i ≠ rb → σ2 i = σ i)) ∨ (∃ (g' : Nat → Nat), ∃ (t2 : Nat), ∃ (nu2 : Int32), ∃ (x2 : Nat), v9 = some (.int (nI (1))) ∧ (rd_w f m [115, 108, 97, 99, 107] r 18 0 5 g t = .inr (g', t2)) ∧ (x2 = s_rule g' r 18) ∧ (∀ j : Nat, j ≠ 18 → s_rule g' r j = s_rule g r j) ∧ (t2 ≤ m) ∧ (tk_kd f m t2 = 2 → nu2 = nI (tk_vl f m t2)) ∧ σ2 3 = o9 G (1) (nI (m)) (nI (x_kd f m t2)) (nI (t2)) (nI (tk_be f m t2)) (nu2) ∧ σ2 rb = o7 G (rb) (lN (nm)) (lN (on)) (nI (x2)) (nI (mo)) (nI (nb)) ∧ (∀ i : Nat, i ≠ 3 ∧ i ≠ rb → σ2 i = σ i))) v9 σ') q_noX := ⟨_, rfl⟩
  refine (?_ : AJ G K (q_Q G K ex n 0 0 _ _) 0 0 ex n 0 _ _ σ)
  rw [← hQ]
  have hbe := tk_be_le (f := f) ht9
  have hbg := tk_be_ge (f := f) (m := m) (t := t)
  have hkl := x_kd_lt f m t
  refine A_aload_n hg dX3_readSlack_0 rfl rfl ?_
  refine A_getf (v := .ref (q_h G + 3)) hg fl_RX3_12 dX3_readSlack_1 hc0 (by omega) rfl ?_
  refine A_ldcS hg (sc_RX3_137 hg.2.2.2.2.2.2.1.1).1 dX3_readSlack_4 ?_
  refine A_eV (kc2 := 0) (ks2 := 0) (As := [.ref (q_sa G RX3 137)]) (rest := []) hg lk_RX3_48 in_X9_isWord se_X9_isWord rfl dX3_readSlack_6 ⟨by decide, by decide⟩ rfl rfl ⟨by decide, by decide⟩ hc1 (by omega) rfl rfl (Nat.le_of_ble_eq_true rfl) (c_X9_isWord G ex n σ f m t nu (q_sa G RX3 137) ([115, 108, 97, 99, 107]) hc1 hc2 (by omega) hm6 hbb (by omega) ((sc_RX3_137 hg.2.2.2.2.2.2.1.1).2)) ?_
  refine A_if_neB (tgt := 14) hg dX3_readSlack_9 (by decide) (fun c9 => ?_) (fun c9 => ?_)
  · skip
    refine A_aload_n hg dX3_readSlack_14 rfl rfl ?_
    refine A_getf (v := .ref (q_h G + 3)) hg fl_RX3_12 dX3_readSlack_15 hc0 (by omega) rfl ?_
    refine A_vV (kc2 := 0) (ks2 := 0) (As := []) (rest := []) hg lk_RX3_84 in_X9_advance se_X9_advance rfl dX3_readSlack_18 ⟨by decide, by decide⟩ rfl rfl ⟨by decide, by decide⟩ hc1 (by omega) rfl rfl (Nat.le_of_ble_eq_true rfl) (c_X9_advance G ex n σ f m (nI (x_kd f m t)) (nI (t)) (tk_be f m t) nu hc1 hc2 (by omega) hm6 hbb (by omega)) ?_
    rintro σ_3 ⟨t2, nu3, ht2, hnu2, hc_1, hf_2⟩
    have hc_4 : σ_3 2 = o3 G (2) (nI (ft)) (nI (0)) (q_d (0)) := (hf_2 _ (by omega)).trans hc0
    have hc_5 : σ_3 1 = q_an G 600 f := (hf_2 _ (by omega)).trans hc2
    have hc_6 : σ_3 rb = o7 G (rb) (lN (nm)) (lN (on)) (nI (sl)) (nI (mo)) (nI (nb)) := (hf_2 _ (by omega)).trans hc3
    have htm9 : t2 ≤ m := by rw [ht2]; exact tk_nx_le ht9
    refine A_aload_n hg dX3_readSlack_21 rfl rfl ?_
    refine A_aload_n hg dX3_readSlack_22 rfl rfl ?_
    refine A_iconst (v := (nI (0))) hg dX3_readSlack_23 (by decide) ?_
    refine A_iconst (v := (nI (5))) hg dX3_readSlack_24 (by decide) ?_
    refine A_hV (kc2 := 0) (ks2 := 0) (As := [.int (nI (0)), .int (nI (5))]) (rest := [.ref (q_h G + rb)]) hg lk_RX3_139 in_X3_readNumber se_X3_readNumber rfl dX3_readSlack_25 ⟨by decide, by decide⟩ rfl rfl ⟨by decide, by decide⟩ hc_4 (by omega) rfl rfl (Nat.le_of_ble_eq_true rfl) (c_X3_readNumber G ex n σ_3 f m t2 nu3 ft 0 5 hc_4 hc_1 hc_5 (by omega) hm6 hbb htm9 hnu2 (by omega) (by omega)) ?_
    rintro _ σ_11 (⟨rfl, hnc9, hc_7, hf_8⟩ | ⟨t3, nu4, rfl, hnc9, ht3, htm3, hnu4, hc_9, hf_10⟩)
    · skip
      refine (?_ : AJ G K Q 0 0 ex n 28 [some (.ref (q_h G + 2)), some (.ref (q_h G + rb))] [.int (nI (0)), .ref (q_h G + rb)] σ_11)
      have hc_12 : σ_11 1 = q_an G 600 f := (hf_8 _ (by omega)).trans hc_5
      have hc_13 : σ_11 rb = o7 G (rb) (lN (nm)) (lN (on)) (nI (sl)) (nI (mo)) (nI (nb)) := (hf_8 _ (by omega)).trans hc_6
      have hc_14 : σ_11 3 = o9 G (1) (nI (m)) (nI (x_kd f m t2)) (nI (t2)) (nI (tk_be f m t2)) (nu3) := (hf_8 _ (by omega)).trans hc_1
      refine A_putf hg fl_RX3_143 dX3_readSlack_28 hc_13 (by omega) (Nat.le_of_ble_eq_true rfl) rfl rfl rfl (fun σ_15 hc_16 hf_17 => ?_)
      have hc_16 : σ_15 rb = o7 G (rb) (lN (nm)) (lN (on)) (nI (0)) (nI (mo)) (nI (nb)) := hc_16
      have hc_18 : σ_15 1 = q_an G 600 f := (hf_17 _ (by omega)).trans hc_12
      have hc_19 : σ_15 3 = o9 G (1) (nI (m)) (nI (x_kd f m t2)) (nI (t2)) (nI (tk_be f m t2)) (nu3) := (hf_17 _ (by omega)).trans hc_14
      have hc_20 : σ_15 2 = o3 G (2) (nI (ft)) (nI (tk_nc f m t2 0 5)) (nI (t2)) := (hf_17 _ (by omega)).trans hc_7
      refine A_aload_n hg dX3_readSlack_31 rfl rfl ?_
      refine A_getf (v := .int (nI (tk_nc f m t2 0 5))) hg fl_RX3_29 dX3_readSlack_32 hc_20 (by omega) rfl ?_
      refine A_if_neN (tgt := 42) hg dX3_readSlack_35 (by have := tk_nc_lt f m t2 0 5; omega) (by decide) (fun c35 => ?_) (fun c35 => absurd c35 hnc9)
      refine A_iconst (v := (nI (0))) hg dX3_readSlack_42 (by decide) ?_
      rw [hQ]
      exact A_zreturn hg (by decide) (by decide) rfl rfl dX3_readSlack_43 ⟨rfl, Or.inl (⟨tk_nc f m t2 0 5, t2, (nI (x_kd f m t2)), (nI (t2)), (nI (tk_be f m t2)), (nu3), rfl, (rd_w_e c9 ht2 hnc9), hnc9, hc_20, hc_19, hc_16, (fun i hi => ((hf_17 i (by omega)).trans ((hf_8 i (by omega)).trans (hf_2 i (by omega)))))⟩)⟩
    · skip
      refine (?_ : AJ G K Q 0 0 ex n 28 [some (.ref (q_h G + 2)), some (.ref (q_h G + rb))] [.int (nI (tk_vl f m t2)), .ref (q_h G + rb)] σ_11)
      have hc_21 : σ_11 2 = o3 G (2) (nI (ft)) (nI (0)) (q_d (0)) := (hf_10 _ (by omega)).trans hc_4
      have hc_22 : σ_11 1 = q_an G 600 f := (hf_10 _ (by omega)).trans hc_5
      have hc_23 : σ_11 rb = o7 G (rb) (lN (nm)) (lN (on)) (nI (sl)) (nI (mo)) (nI (nb)) := (hf_10 _ (by omega)).trans hc_6
      refine A_putf hg fl_RX3_143 dX3_readSlack_28 hc_23 (by omega) (Nat.le_of_ble_eq_true rfl) rfl rfl rfl (fun σ_24 hc_25 hf_26 => ?_)
      have hc_25 : σ_24 rb = o7 G (rb) (lN (nm)) (lN (on)) (nI (tk_vl f m t2)) (nI (mo)) (nI (nb)) := hc_25
      have hc_27 : σ_24 2 = o3 G (2) (nI (ft)) (nI (0)) (q_d (0)) := (hf_26 _ (by omega)).trans hc_21
      have hc_28 : σ_24 1 = q_an G 600 f := (hf_26 _ (by omega)).trans hc_22
      have hc_29 : σ_24 3 = o9 G (1) (nI (m)) (nI (x_kd f m t3)) (nI (t3)) (nI (tk_be f m t3)) (nu4) := (hf_26 _ (by omega)).trans hc_9
      refine A_aload_n hg dX3_readSlack_31 rfl rfl ?_
      refine A_getf (v := .int (nI (0))) hg fl_RX3_29 dX3_readSlack_32 hc_27 (by omega) rfl ?_
      refine A_if_neN (tgt := 42) hg dX3_readSlack_35 (by decide) (by decide) (fun c35 => absurd (by decide) c35) (fun c35 => ?_)
      refine A_iconst (v := (nI (1))) hg dX3_readSlack_38 (by decide) ?_
      refine A_goto (tgt := 43) hg dX3_readSlack_39 (by decide) ?_
      rw [hQ]
      exact A_zreturn hg (by decide) (by decide) rfl rfl dX3_readSlack_43 ⟨rfl, Or.inr ((⟨(va_up g (17 + 29 * r + 18) (tk_vl f m t2)), t3, nu4, (tk_vl f m t2), rfl, (rd_w_t c9 ht2 hnc9 ht3), (by rw [s_rule_up, if_pos rfl]), (fun j hj => by rw [s_rule_up, if_neg hj]), htm3, hnu4, hc_29, hc_25, (fun i hi => ((hf_26 i (by omega)).trans ((hf_10 i (by omega)).trans (hf_2 i (by omega)))))⟩))⟩
  · skip
    refine A_iconst (v := (nI (1))) hg dX3_readSlack_12 (by decide) ?_
    rw [hQ]
    exact A_zreturn hg (by decide) (by decide) rfl rfl dX3_readSlack_13 ⟨rfl, Or.inr ((⟨g, t, nu, sl, rfl, (rd_w_no c9), hfl, (fun _ _ => rfl), ht9, hnu, hc1, hc3, (fun _ _ => rfl)⟩))⟩
set_option maxRecDepth 100000 in
set_option maxHeartbeats 4000000 in
theorem c_X3_readSlackN (G : GL) (ex : Bool) (n : Nat) (σ : Nat → va_E) (f : Nat → Nat) (m : Nat) (t : Nat) (nu : Int32) (ft : Nat) (rb : Nat) (hc0 : σ 2 = o3 G (2) (nI (ft)) (nI (0)) (q_d (0))) (hc1 : σ 3 = o9 G (1) (nI (m)) (nI (x_kd f m t)) (nI (t)) (nI (tk_be f m t)) (nu)) (hc2 : σ 1 = q_an G 600 f) (hn9 : 279 ≤ n) (hm6 : m ≤ 600) (hbb : ∀ k : Nat, s_byte f m k ≤ 256) (ht9 : t ≤ m) (hnu : tk_kd f m t = 2 → nu = nI (tk_vl f m t)) (hnw : tk_wd f m t [115, 108, 97, 99, 107] = false) : Ct G yX3_readSlack cX3_readSlack 2 (some .boolean) ⟨5, 0, 0, 107⟩ [.ref (q_h G + 2), .ref (q_h G + rb)] ex n σ (fun v9 σ2 => σ2 = σ ∧ v9 = some (.int (nI (1)))) := by
  refine q_enter [some (.ref (q_h G + 2)), some (.ref (q_h G + rb))] (by decide) (Nat.le_of_ble_eq_true rfl) rfl ?_
  intro K hg
  obtain ⟨Q, hQ⟩ : ∃ Q, Q = q_Q G K ex n 0 0 (fun v9 n' σ' => n' = n ∧ (fun v9 σ2 => σ2 = σ ∧ v9 = some (.int (nI (1)))) v9 σ') q_noX := ⟨_, rfl⟩
  refine (?_ : AJ G K (q_Q G K ex n 0 0 _ _) 0 0 ex n 0 _ _ σ)
  rw [← hQ]
  refine A_aload_n hg dX3_readSlack_0 rfl rfl ?_
  refine A_getf (v := .ref (q_h G + 3)) hg fl_RX3_12 dX3_readSlack_1 hc0 (by omega) rfl ?_
  refine A_ldcS hg (sc_RX3_137 hg.2.2.2.2.2.2.1.1).1 dX3_readSlack_4 ?_
  refine A_eV (kc2 := 0) (ks2 := 0) (As := [.ref (q_sa G RX3 137)]) (rest := []) hg lk_RX3_48 in_X9_isWord se_X9_isWord rfl dX3_readSlack_6 ⟨by decide, by decide⟩ rfl rfl ⟨by decide, by decide⟩ hc1 (by omega) rfl rfl (Nat.le_of_ble_eq_true rfl) (c_X9_isWord G ex n σ f m t nu (q_sa G RX3 137) ([115, 108, 97, 99, 107]) hc1 hc2 (by omega) hm6 hbb (by omega) ((sc_RX3_137 hg.2.2.2.2.2.2.1.1).2)) ?_
  refine A_if_neB (tgt := 14) hg dX3_readSlack_9 (by decide) (fun c9 => absurd (hnw.symm.trans c9) (by decide)) (fun c9 => ?_)
  refine A_iconst (v := (nI (1))) hg dX3_readSlack_12 (by decide) ?_
  rw [hQ]
  exact A_zreturn hg (by decide) (by decide) rfl rfl dX3_readSlack_13 ⟨rfl, ⟨rfl, rfl⟩⟩
set_option maxRecDepth 100000 in
set_option maxHeartbeats 4000000 in
theorem c_X3_readMost (G : GL) (ex : Bool) (n : Nat) (σ : Nat → va_E) (f : Nat → Nat) (m : Nat) (t : Nat) (nu : Int32) (ft : Nat) (rb : Nat) (nm : Nat) (on : Nat) (sl : Nat) (mo : Nat) (nb : Nat) (g : Nat → Nat) (r : Nat) (hc0 : σ 2 = o3 G (2) (nI (ft)) (nI (0)) (q_d (0))) (hc1 : σ 3 = o9 G (1) (nI (m)) (nI (x_kd f m t)) (nI (t)) (nI (tk_be f m t)) (nu)) (hc2 : σ 1 = q_an G 600 f) (hc3 : σ rb = o7 G (rb) (lN (nm)) (lN (on)) (nI (sl)) (nI (mo)) (nI (nb))) (hn9 : 279 ≤ n) (hm6 : m ≤ 600) (hbb : ∀ k : Nat, s_byte f m k ≤ 256) (ht9 : t ≤ m) (hnu : tk_kd f m t = 2 → nu = nI (tk_vl f m t)) (hrbx : 15 ≤ rb ∧ rb + 1 ≤ 22) (hfl : mo = s_rule g r 19) : Ct G yX3_readMost cX3_readMost 2 (some .boolean) ⟨5, 0, 0, 107⟩ [.ref (q_h G + 2), .ref (q_h G + rb)] ex n σ (fun v9 σ2 => (∃ (c : Nat), ∃ (o : Nat), ∃ (kd2 : Int32), ∃ (st2 : Int32), ∃ (be2 : Int32), ∃ (nu2 : Int32), v9 = some (.int (nI (0))) ∧ (rd_w f m [109, 111, 115, 116] r 19 1 40 g t = .inl (c, o)) ∧ (¬ c = 0) ∧ σ2 2 = o3 G (2) (nI (ft)) (nI (c)) (nI (o)) ∧ σ2 3 = o9 G (1) (nI (m)) (kd2) (st2) (be2) (nu2) ∧ σ2 rb = o7 G (rb) (lN (nm)) (lN (on)) (nI (sl)) (nI (0)) (nI (nb)) ∧ (∀ i : Nat, i ≠ 2 ∧ i ≠ 3 ∧ i ≠ rb → σ2 i = σ i)) ∨ (∃ (g' : Nat → Nat), ∃ (t2 : Nat), ∃ (nu2 : Int32), ∃ (x2 : Nat), v9 = some (.int (nI (1))) ∧ (rd_w f m [109, 111, 115, 116] r 19 1 40 g t = .inr (g', t2)) ∧ (x2 = s_rule g' r 19) ∧ (∀ j : Nat, j ≠ 19 → s_rule g' r j = s_rule g r j) ∧ (t2 ≤ m) ∧ (tk_kd f m t2 = 2 → nu2 = nI (tk_vl f m t2)) ∧ σ2 3 = o9 G (1) (nI (m)) (nI (x_kd f m t2)) (nI (t2)) (nI (tk_be f m t2)) (nu2) ∧ σ2 rb = o7 G (rb) (lN (nm)) (lN (on)) (nI (sl)) (nI (x2)) (nI (nb)) ∧ (∀ i : Nat, i ≠ 3 ∧ i ≠ rb → σ2 i = σ i))) := by
  refine q_enter [some (.ref (q_h G + 2)), some (.ref (q_h G + rb))] (by decide) (Nat.le_of_ble_eq_true rfl) rfl ?_
  intro K hg
  obtain ⟨Q, hQ⟩ : ∃ Q, Q = q_Q G K ex n 0 0 (fun v9 n' σ' => n' = n ∧ (fun v9 σ2 => (∃ (c : Nat), ∃ (o : Nat), ∃ (kd2 : Int32), ∃ (st2 : Int32), ∃ (be2 : Int32), ∃ (nu2 : Int32), v9 = some (.int (nI (0))) ∧ (rd_w f m [109, 111, 115, 116] r 19 1 40 g t = .inl (c, o)) ∧ (¬ c = 0) ∧ σ2 2 = o3 G (2) (nI (ft)) (nI (c)) (nI (o)) ∧ σ2 3 = o9 G (1) (nI (m)) (kd2) (st2) (be2) (nu2) ∧ σ2 rb = o7 G (rb) (lN (nm)) (lN (on)) (nI (sl)) (nI (0)) (nI (nb)) ∧ (∀ i : Nat, i ≠ 2 ∧ i ≠ 3 ∧ i ≠ rb → σ2 i = σ i)) ∨ (∃ (g' : Nat → Nat), ∃ (t2 : Nat), ∃ (nu2 : Int32), ∃ (x2 : Nat), v9 = some (.int (nI (1))) ∧ (rd_w f m [109, 111, 115, 116] r 19 1 40 g t = .inr (g', t2)) ∧ (x2 = s_rule g' r 19) ∧ (∀ j : Nat, j ≠ 19 → s_rule g' r j = s_rule g r j) ∧ (t2 ≤ m) ∧ (tk_kd f m t2 = 2 → nu2 = nI (tk_vl f m t2)) ∧ σ2 3 = o9 G (1) (nI (m)) (nI (x_kd f m t2)) (nI (t2)) (nI (tk_be f m t2)) (nu2) ∧ σ2 rb = o7 G (rb) (lN (nm)) (lN (on)) (nI (sl)) (nI (x2)) (nI (nb)) ∧ (∀ i : Nat, i ≠ 3 ∧ i ≠ rb → σ2 i = σ i))) v9 σ') q_noX := ⟨_, rfl⟩
  refine (?_ : AJ G K (q_Q G K ex n 0 0 _ _) 0 0 ex n 0 _ _ σ)
  rw [← hQ]
  have hbe := tk_be_le (f := f) ht9
  have hbg := tk_be_ge (f := f) (m := m) (t := t)
  have hkl := x_kd_lt f m t
  refine A_aload_n hg dX3_readMost_0 rfl rfl ?_
  refine A_getf (v := .ref (q_h G + 3)) hg fl_RX3_12 dX3_readMost_1 hc0 (by omega) rfl ?_
  refine A_ldcS hg (sc_RX3_145 hg.2.2.2.2.2.2.1.1).1 dX3_readMost_4 ?_
  refine A_eV (kc2 := 0) (ks2 := 0) (As := [.ref (q_sa G RX3 145)]) (rest := []) hg lk_RX3_48 in_X9_isWord se_X9_isWord rfl dX3_readMost_6 ⟨by decide, by decide⟩ rfl rfl ⟨by decide, by decide⟩ hc1 (by omega) rfl rfl (Nat.le_of_ble_eq_true rfl) (c_X9_isWord G ex n σ f m t nu (q_sa G RX3 145) ([109, 111, 115, 116]) hc1 hc2 (by omega) hm6 hbb (by omega) ((sc_RX3_145 hg.2.2.2.2.2.2.1.1).2)) ?_
  refine A_if_neB (tgt := 14) hg dX3_readMost_9 (by decide) (fun c9 => ?_) (fun c9 => ?_)
  · skip
    refine A_aload_n hg dX3_readMost_14 rfl rfl ?_
    refine A_getf (v := .ref (q_h G + 3)) hg fl_RX3_12 dX3_readMost_15 hc0 (by omega) rfl ?_
    refine A_vV (kc2 := 0) (ks2 := 0) (As := []) (rest := []) hg lk_RX3_84 in_X9_advance se_X9_advance rfl dX3_readMost_18 ⟨by decide, by decide⟩ rfl rfl ⟨by decide, by decide⟩ hc1 (by omega) rfl rfl (Nat.le_of_ble_eq_true rfl) (c_X9_advance G ex n σ f m (nI (x_kd f m t)) (nI (t)) (tk_be f m t) nu hc1 hc2 (by omega) hm6 hbb (by omega)) ?_
    rintro σ_3 ⟨t2, nu3, ht2, hnu2, hc_1, hf_2⟩
    have hc_4 : σ_3 2 = o3 G (2) (nI (ft)) (nI (0)) (q_d (0)) := (hf_2 _ (by omega)).trans hc0
    have hc_5 : σ_3 1 = q_an G 600 f := (hf_2 _ (by omega)).trans hc2
    have hc_6 : σ_3 rb = o7 G (rb) (lN (nm)) (lN (on)) (nI (sl)) (nI (mo)) (nI (nb)) := (hf_2 _ (by omega)).trans hc3
    have htm9 : t2 ≤ m := by rw [ht2]; exact tk_nx_le ht9
    refine A_aload_n hg dX3_readMost_21 rfl rfl ?_
    refine A_aload_n hg dX3_readMost_22 rfl rfl ?_
    refine A_iconst (v := (nI (1))) hg dX3_readMost_23 (by decide) ?_
    refine A_bipush (v := (nI (40))) hg dX3_readMost_24 (by decide) ?_
    refine A_hV (kc2 := 0) (ks2 := 0) (As := [.int (nI (1)), .int (nI (40))]) (rest := [.ref (q_h G + rb)]) hg lk_RX3_139 in_X3_readNumber se_X3_readNumber rfl dX3_readMost_26 ⟨by decide, by decide⟩ rfl rfl ⟨by decide, by decide⟩ hc_4 (by omega) rfl rfl (Nat.le_of_ble_eq_true rfl) (c_X3_readNumber G ex n σ_3 f m t2 nu3 ft 1 40 hc_4 hc_1 hc_5 (by omega) hm6 hbb htm9 hnu2 (by omega) (by omega)) ?_
    rintro _ σ_11 (⟨rfl, hnc9, hc_7, hf_8⟩ | ⟨t3, nu4, rfl, hnc9, ht3, htm3, hnu4, hc_9, hf_10⟩)
    · skip
      refine (?_ : AJ G K Q 0 0 ex n 29 [some (.ref (q_h G + 2)), some (.ref (q_h G + rb))] [.int (nI (0)), .ref (q_h G + rb)] σ_11)
      have hc_12 : σ_11 1 = q_an G 600 f := (hf_8 _ (by omega)).trans hc_5
      have hc_13 : σ_11 rb = o7 G (rb) (lN (nm)) (lN (on)) (nI (sl)) (nI (mo)) (nI (nb)) := (hf_8 _ (by omega)).trans hc_6
      have hc_14 : σ_11 3 = o9 G (1) (nI (m)) (nI (x_kd f m t2)) (nI (t2)) (nI (tk_be f m t2)) (nu3) := (hf_8 _ (by omega)).trans hc_1
      refine A_putf hg fl_RX3_147 dX3_readMost_29 hc_13 (by omega) (Nat.le_of_ble_eq_true rfl) rfl rfl rfl (fun σ_15 hc_16 hf_17 => ?_)
      have hc_16 : σ_15 rb = o7 G (rb) (lN (nm)) (lN (on)) (nI (sl)) (nI (0)) (nI (nb)) := hc_16
      have hc_18 : σ_15 1 = q_an G 600 f := (hf_17 _ (by omega)).trans hc_12
      have hc_19 : σ_15 3 = o9 G (1) (nI (m)) (nI (x_kd f m t2)) (nI (t2)) (nI (tk_be f m t2)) (nu3) := (hf_17 _ (by omega)).trans hc_14
      have hc_20 : σ_15 2 = o3 G (2) (nI (ft)) (nI (tk_nc f m t2 1 40)) (nI (t2)) := (hf_17 _ (by omega)).trans hc_7
      refine A_aload_n hg dX3_readMost_32 rfl rfl ?_
      refine A_getf (v := .int (nI (tk_nc f m t2 1 40))) hg fl_RX3_29 dX3_readMost_33 hc_20 (by omega) rfl ?_
      refine A_if_neN (tgt := 43) hg dX3_readMost_36 (by have := tk_nc_lt f m t2 1 40; omega) (by decide) (fun c36 => ?_) (fun c36 => absurd c36 hnc9)
      refine A_iconst (v := (nI (0))) hg dX3_readMost_43 (by decide) ?_
      rw [hQ]
      exact A_zreturn hg (by decide) (by decide) rfl rfl dX3_readMost_44 ⟨rfl, Or.inl (⟨tk_nc f m t2 1 40, t2, (nI (x_kd f m t2)), (nI (t2)), (nI (tk_be f m t2)), (nu3), rfl, (rd_w_e c9 ht2 hnc9), hnc9, hc_20, hc_19, hc_16, (fun i hi => ((hf_17 i (by omega)).trans ((hf_8 i (by omega)).trans (hf_2 i (by omega)))))⟩)⟩
    · skip
      refine (?_ : AJ G K Q 0 0 ex n 29 [some (.ref (q_h G + 2)), some (.ref (q_h G + rb))] [.int (nI (tk_vl f m t2)), .ref (q_h G + rb)] σ_11)
      have hc_21 : σ_11 2 = o3 G (2) (nI (ft)) (nI (0)) (q_d (0)) := (hf_10 _ (by omega)).trans hc_4
      have hc_22 : σ_11 1 = q_an G 600 f := (hf_10 _ (by omega)).trans hc_5
      have hc_23 : σ_11 rb = o7 G (rb) (lN (nm)) (lN (on)) (nI (sl)) (nI (mo)) (nI (nb)) := (hf_10 _ (by omega)).trans hc_6
      refine A_putf hg fl_RX3_147 dX3_readMost_29 hc_23 (by omega) (Nat.le_of_ble_eq_true rfl) rfl rfl rfl (fun σ_24 hc_25 hf_26 => ?_)
      have hc_25 : σ_24 rb = o7 G (rb) (lN (nm)) (lN (on)) (nI (sl)) (nI (tk_vl f m t2)) (nI (nb)) := hc_25
      have hc_27 : σ_24 2 = o3 G (2) (nI (ft)) (nI (0)) (q_d (0)) := (hf_26 _ (by omega)).trans hc_21
      have hc_28 : σ_24 1 = q_an G 600 f := (hf_26 _ (by omega)).trans hc_22
      have hc_29 : σ_24 3 = o9 G (1) (nI (m)) (nI (x_kd f m t3)) (nI (t3)) (nI (tk_be f m t3)) (nu4) := (hf_26 _ (by omega)).trans hc_9
      refine A_aload_n hg dX3_readMost_32 rfl rfl ?_
      refine A_getf (v := .int (nI (0))) hg fl_RX3_29 dX3_readMost_33 hc_27 (by omega) rfl ?_
      refine A_if_neN (tgt := 43) hg dX3_readMost_36 (by decide) (by decide) (fun c36 => absurd (by decide) c36) (fun c36 => ?_)
      refine A_iconst (v := (nI (1))) hg dX3_readMost_39 (by decide) ?_
      refine A_goto (tgt := 44) hg dX3_readMost_40 (by decide) ?_
      rw [hQ]
      exact A_zreturn hg (by decide) (by decide) rfl rfl dX3_readMost_44 ⟨rfl, Or.inr ((⟨(va_up g (17 + 29 * r + 19) (tk_vl f m t2)), t3, nu4, (tk_vl f m t2), rfl, (rd_w_t c9 ht2 hnc9 ht3), (by rw [s_rule_up, if_pos rfl]), (fun j hj => by rw [s_rule_up, if_neg hj]), htm3, hnu4, hc_29, hc_25, (fun i hi => ((hf_26 i (by omega)).trans ((hf_10 i (by omega)).trans (hf_2 i (by omega)))))⟩))⟩
  · skip
    refine A_iconst (v := (nI (1))) hg dX3_readMost_12 (by decide) ?_
    rw [hQ]
    exact A_zreturn hg (by decide) (by decide) rfl rfl dX3_readMost_13 ⟨rfl, Or.inr ((⟨g, t, nu, mo, rfl, (rd_w_no c9), hfl, (fun _ _ => rfl), ht9, hnu, hc1, hc3, (fun _ _ => rfl)⟩))⟩
set_option maxRecDepth 100000 in
set_option maxHeartbeats 4000000 in
theorem c_X3_readMostN (G : GL) (ex : Bool) (n : Nat) (σ : Nat → va_E) (f : Nat → Nat) (m : Nat) (t : Nat) (nu : Int32) (ft : Nat) (rb : Nat) (hc0 : σ 2 = o3 G (2) (nI (ft)) (nI (0)) (q_d (0))) (hc1 : σ 3 = o9 G (1) (nI (m)) (nI (x_kd f m t)) (nI (t)) (nI (tk_be f m t)) (nu)) (hc2 : σ 1 = q_an G 600 f) (hn9 : 279 ≤ n) (hm6 : m ≤ 600) (hbb : ∀ k : Nat, s_byte f m k ≤ 256) (ht9 : t ≤ m) (hnu : tk_kd f m t = 2 → nu = nI (tk_vl f m t)) (hnw : tk_wd f m t [109, 111, 115, 116] = false) : Ct G yX3_readMost cX3_readMost 2 (some .boolean) ⟨5, 0, 0, 107⟩ [.ref (q_h G + 2), .ref (q_h G + rb)] ex n σ (fun v9 σ2 => σ2 = σ ∧ v9 = some (.int (nI (1)))) := by
  refine q_enter [some (.ref (q_h G + 2)), some (.ref (q_h G + rb))] (by decide) (Nat.le_of_ble_eq_true rfl) rfl ?_
  intro K hg
  obtain ⟨Q, hQ⟩ : ∃ Q, Q = q_Q G K ex n 0 0 (fun v9 n' σ' => n' = n ∧ (fun v9 σ2 => σ2 = σ ∧ v9 = some (.int (nI (1)))) v9 σ') q_noX := ⟨_, rfl⟩
  refine (?_ : AJ G K (q_Q G K ex n 0 0 _ _) 0 0 ex n 0 _ _ σ)
  rw [← hQ]
  refine A_aload_n hg dX3_readMost_0 rfl rfl ?_
  refine A_getf (v := .ref (q_h G + 3)) hg fl_RX3_12 dX3_readMost_1 hc0 (by omega) rfl ?_
  refine A_ldcS hg (sc_RX3_145 hg.2.2.2.2.2.2.1.1).1 dX3_readMost_4 ?_
  refine A_eV (kc2 := 0) (ks2 := 0) (As := [.ref (q_sa G RX3 145)]) (rest := []) hg lk_RX3_48 in_X9_isWord se_X9_isWord rfl dX3_readMost_6 ⟨by decide, by decide⟩ rfl rfl ⟨by decide, by decide⟩ hc1 (by omega) rfl rfl (Nat.le_of_ble_eq_true rfl) (c_X9_isWord G ex n σ f m t nu (q_sa G RX3 145) ([109, 111, 115, 116]) hc1 hc2 (by omega) hm6 hbb (by omega) ((sc_RX3_145 hg.2.2.2.2.2.2.1.1).2)) ?_
  refine A_if_neB (tgt := 14) hg dX3_readMost_9 (by decide) (fun c9 => absurd (hnw.symm.trans c9) (by decide)) (fun c9 => ?_)
  refine A_iconst (v := (nI (1))) hg dX3_readMost_12 (by decide) ?_
  rw [hQ]
  exact A_zreturn hg (by decide) (by decide) rfl rfl dX3_readMost_13 ⟨rfl, ⟨rfl, rfl⟩⟩
end
