section
set_option maxRecDepth 100000 in
set_option maxHeartbeats 4000000 in
theorem c_X3_fail (G : GL) (ex : Bool) (n : Nat) (σ : Nat → va_E) (m : Nat) (t : Nat) (kd : Int32) (be : Int32) (nu : Int32) (ft : Nat) (er : Int32) (ea : Int32) (c : Nat) (hc0 : σ 2 = o3 G (2) (nI (ft)) (er) (ea)) (hc1 : σ 3 = o9 G (1) (nI (m)) (kd) (nI (t)) (be) (nu)) (hn9 : 279 ≤ n) : Ct G yX3_fail cX3_fail 2 (some .boolean) ⟨0, 0, 0, 0⟩ [.ref (q_h G + 2), .int (nI (c))] ex n σ (fun v9 σ2 => v9 = some (.int (nI (0))) ∧ σ2 2 = o3 G (2) (nI (ft)) (nI (c)) (nI (t)) ∧ (∀ i : Nat, i ≠ 2 → σ2 i = σ i)) := by
  refine q_enter [some (.ref (q_h G + 2)), some (.int (nI (c)))] (by decide) (Nat.le_of_ble_eq_true rfl) rfl ?_
  intro K hg
  obtain ⟨Q, hQ⟩ : ∃ Q, Q = q_Q G K ex n 0 0 (fun v9 n' σ' => n' = n ∧ (fun v9 σ2 => v9 = some (.int (nI (0))) ∧ σ2 2 = o3 G (2) (nI (ft)) (nI (c)) (nI (t)) ∧ (∀ i : Nat, i ≠ 2 → σ2 i = σ i)) v9 σ') q_noX := ⟨_, rfl⟩
  refine (?_ : AJ G K (q_Q G K ex n 0 0 _ _) 0 0 ex n 0 _ _ σ)
  rw [← hQ]
  refine A_aload_n hg dX3_fail_0 rfl rfl ?_
  refine A_iload_n hg dX3_fail_1 rfl rfl ?_
  refine A_putf hg fl_RX3_29 dX3_fail_2 hc0 (by omega) (Nat.le_of_ble_eq_true rfl) rfl rfl rfl (fun σ_1 hc_2 hf_3 => ?_)
  have hc_2 : σ_1 2 = o3 G (2) (nI (ft)) (nI (c)) (ea) := hc_2
  have hc_4 : σ_1 3 = o9 G (1) (nI (m)) (kd) (nI (t)) (be) (nu) := (hf_3 _ (by omega)).trans hc1
  refine A_aload_n hg dX3_fail_5 rfl rfl ?_
  refine A_aload_n hg dX3_fail_6 rfl rfl ?_
  refine A_getf (v := .ref (q_h G + 3)) hg fl_RX3_12 dX3_fail_7 hc_2 (by omega) rfl ?_
  refine A_getf (v := .int (nI (t))) hg fl_RX3_81 dX3_fail_10 hc_4 (by omega) rfl ?_
  refine A_putf hg fl_RX3_33 dX3_fail_13 hc_2 (by omega) (Nat.le_of_ble_eq_true rfl) rfl rfl rfl (fun σ_5 hc_6 hf_7 => ?_)
  have hc_6 : σ_5 2 = o3 G (2) (nI (ft)) (nI (c)) (nI (t)) := hc_6
  have hc_8 : σ_5 3 = o9 G (1) (nI (m)) (kd) (nI (t)) (be) (nu) := (hf_7 _ (by omega)).trans hc_4
  refine A_iconst (v := (nI (0))) hg dX3_fail_16 (by decide) ?_
  rw [hQ]
  exact A_zreturn hg (by decide) (by decide) rfl rfl dX3_fail_17 ⟨rfl, ⟨rfl, hc_6, (fun i hi => ((hf_7 i (by omega)).trans (hf_3 i (by omega))))⟩⟩
set_option maxRecDepth 100000 in
set_option maxHeartbeats 4000000 in
theorem c_X3_isNumber (G : GL) (ex : Bool) (n : Nat) (σ : Nat → va_E) (f : Nat → Nat) (m : Nat) (t : Nat) (nu : Int32) (ft : Nat) (lo : Nat) (hi : Nat) (hc0 : σ 2 = o3 G (2) (nI (ft)) (nI (0)) (q_d (0))) (hc1 : σ 3 = o9 G (1) (nI (m)) (nI (x_kd f m t)) (nI (t)) (nI (tk_be f m t)) (nu)) (hc2 : σ 1 = q_an G 600 f) (hn9 : 279 ≤ n) (hm6 : m ≤ 600) (hbb : ∀ k : Nat, s_byte f m k ≤ 256) (ht9 : t ≤ m) (hnu : tk_kd f m t = 2 → nu = nI (tk_vl f m t)) (hlo9 : lo < 2 ^ 31) (hhi9 : hi < 2 ^ 31) : Ct G yX3_isNumber cX3_isNumber 4 (some .boolean) ⟨1, 0, 0, 21⟩ [.ref (q_h G + 2), .int (nI (lo)), .int (nI (hi))] ex n σ (fun v9 σ2 => (v9 = some (.int (nI (0))) ∧ (¬ tk_nc f m t lo hi = 0) ∧ σ2 2 = o3 G (2) (nI (ft)) (nI (tk_nc f m t lo hi)) (nI (t)) ∧ (∀ i : Nat, i ≠ 2 → σ2 i = σ i)) ∨ (v9 = some (.int (nI (1))) ∧ (tk_nc f m t lo hi = 0) ∧ (tk_kd f m t = 2) ∧ σ2 = σ)) := by
  refine q_enter [some (.ref (q_h G + 2)), some (.int (nI (lo))), some (.int (nI (hi))), none] (by decide) (Nat.le_of_ble_eq_true rfl) rfl ?_
  intro K hg
  obtain ⟨Q, hQ⟩ : ∃ Q, Q = q_Q G K ex n 0 0 (fun v9 n' σ' => n' = n ∧ (fun v9 σ2 => (v9 = some (.int (nI (0))) ∧ (¬ tk_nc f m t lo hi = 0) ∧ σ2 2 = o3 G (2) (nI (ft)) (nI (tk_nc f m t lo hi)) (nI (t)) ∧ (∀ i : Nat, i ≠ 2 → σ2 i = σ i)) ∨ (v9 = some (.int (nI (1))) ∧ (tk_nc f m t lo hi = 0) ∧ (tk_kd f m t = 2) ∧ σ2 = σ)) v9 σ') q_noX := ⟨_, rfl⟩
  refine (?_ : AJ G K (q_Q G K ex n 0 0 _ _) 0 0 ex n 0 _ _ σ)
  rw [← hQ]
  have hbe := tk_be_le (f := f) ht9
  have hbg := tk_be_ge (f := f) (m := m) (t := t)
  have hkl := x_kd_lt f m t
  have hv9 := tk_vl_lt f m t
  refine A_aload_n hg dX3_isNumber_0 rfl rfl ?_
  refine A_getf (v := .ref (q_h G + 3)) hg fl_RX3_12 dX3_isNumber_1 hc0 (by omega) rfl ?_
  refine A_getf (v := .int (nI (x_kd f m t))) hg fl_RX3_43 dX3_isNumber_4 hc1 (by omega) rfl ?_
  refine A_iconst (v := (nI (2))) hg dX3_isNumber_7 (by decide) ?_
  refine A_icmp_eqN (tgt := 17) hg dX3_isNumber_8 (by omega) (by decide) (by decide) (fun c8 => ?_) (fun c8 => ?_)
  · skip
    refine A_aload_n hg dX3_isNumber_17 rfl rfl ?_
    refine A_getf (v := .ref (q_h G + 3)) hg fl_RX3_12 dX3_isNumber_18 hc0 (by omega) rfl ?_
    refine A_getf (v := .int (nu)) hg fl_RX3_125 dX3_isNumber_21 hc1 (by omega) rfl ?_
    refine A_top (w := .int (nI (tk_vl f m t))) (congrArg Value.int (hnu (x_kd_2.mp c8).1)) ?_
    refine A_istore_n hg dX3_isNumber_24 rfl (by decide) (q_c1d rfl) ?_
    refine A_eq (ls2 := [some (.ref (q_h G + 2)), some (.int (nI (lo))), some (.int (nI (hi))), some (.int (nI (tk_vl f m t)))]) (st2 := []) (pc2 := 0) rfl rfl ?_
    refine A_iload_n hg dX3_isNumber_25 rfl rfl ?_
    refine A_iload_n hg dX3_isNumber_26 rfl rfl ?_
    refine A_icmp_ltN (tgt := 35) hg dX3_isNumber_27 (by omega) (by omega) (by decide) (fun c27 => ?_) (fun c27 => ?_)
    · skip
      refine A_aload_n hg dX3_isNumber_35 rfl rfl ?_
      refine A_iconst (v := (nI (2))) hg dX3_isNumber_36 (by decide) ?_
      refine A_hV (kc2 := 0) (ks2 := 0) (As := [.int (nI (2))]) (rest := []) hg lk_RX3_71 in_X3_fail se_X3_fail rfl dX3_isNumber_37 ⟨by decide, by decide⟩ rfl rfl ⟨by decide, by decide⟩ hc0 (by omega) rfl rfl (Nat.le_of_ble_eq_true rfl) (c_X3_fail G ex n σ m t (nI (x_kd f m t)) (nI (tk_be f m t)) nu ft (nI (0)) (q_d (0)) 2 hc0 hc1 (by omega)) ?_
      rintro _ σ_3 ⟨rfl, hc_1, hf_2⟩
      refine (?_ : AJ G K Q 0 0 ex n 40 [some (.ref (q_h G + 2)), some (.int (nI (lo))), some (.int (nI (hi))), some (.int (nI (tk_vl f m t)))] [.int (nI (0))] σ_3)
      have hc_4 : σ_3 3 = o9 G (1) (nI (m)) (nI (x_kd f m t)) (nI (t)) (nI (tk_be f m t)) (nu) := (hf_2 _ (by omega)).trans hc1
      have hc_5 : σ_3 1 = q_an G 600 f := (hf_2 _ (by omega)).trans hc2
      have enc : tk_nc f m t lo hi = 2 := by rw [x_nc, if_pos c8, if_neg (by omega)]
      have hc_6 : σ_3 2 = o3 G (2) (nI (ft)) (nI (tk_nc f m t lo hi)) (nI (t)) := hc_1.trans (by rw [enc])
      rw [hQ]
      exact A_zreturn hg (by decide) (by decide) rfl rfl dX3_isNumber_40 ⟨rfl, Or.inl (⟨rfl, (by omega), hc_6, (fun i hi => (hf_2 i (by omega)))⟩)⟩
    · skip
      refine A_iload_n hg dX3_isNumber_30 rfl rfl ?_
      refine A_iload_n hg dX3_isNumber_31 rfl rfl ?_
      refine A_icmp_leN (tgt := 41) hg dX3_isNumber_32 (by omega) (by omega) (by decide) (fun c32 => ?_) (fun c32 => ?_)
      · skip
        refine A_iconst (v := (nI (1))) hg dX3_isNumber_41 (by decide) ?_
        rw [hQ]
        exact A_zreturn hg (by decide) (by decide) rfl rfl dX3_isNumber_42 ⟨rfl, Or.inr ((⟨rfl, (by rw [x_nc, if_pos c8, if_pos (by omega)]), (x_kd_2.mp c8).1, rfl⟩))⟩
      · skip
        refine A_aload_n hg dX3_isNumber_35 rfl rfl ?_
        refine A_iconst (v := (nI (2))) hg dX3_isNumber_36 (by decide) ?_
        refine A_hV (kc2 := 0) (ks2 := 0) (As := [.int (nI (2))]) (rest := []) hg lk_RX3_71 in_X3_fail se_X3_fail rfl dX3_isNumber_37 ⟨by decide, by decide⟩ rfl rfl ⟨by decide, by decide⟩ hc0 (by omega) rfl rfl (Nat.le_of_ble_eq_true rfl) (c_X3_fail G ex n σ m t (nI (x_kd f m t)) (nI (tk_be f m t)) nu ft (nI (0)) (q_d (0)) 2 hc0 hc1 (by omega)) ?_
        rintro _ σ_9 ⟨rfl, hc_7, hf_8⟩
        refine (?_ : AJ G K Q 0 0 ex n 40 [some (.ref (q_h G + 2)), some (.int (nI (lo))), some (.int (nI (hi))), some (.int (nI (tk_vl f m t)))] [.int (nI (0))] σ_9)
        have hc_10 : σ_9 3 = o9 G (1) (nI (m)) (nI (x_kd f m t)) (nI (t)) (nI (tk_be f m t)) (nu) := (hf_8 _ (by omega)).trans hc1
        have hc_11 : σ_9 1 = q_an G 600 f := (hf_8 _ (by omega)).trans hc2
        have enc : tk_nc f m t lo hi = 2 := by rw [x_nc, if_pos c8, if_neg (by omega)]
        have hc_12 : σ_9 2 = o3 G (2) (nI (ft)) (nI (tk_nc f m t lo hi)) (nI (t)) := hc_7.trans (by rw [enc])
        rw [hQ]
        exact A_zreturn hg (by decide) (by decide) rfl rfl dX3_isNumber_40 ⟨rfl, Or.inl (⟨rfl, (by omega), hc_12, (fun i hi => (hf_8 i (by omega)))⟩)⟩
  · skip
    refine A_aload_n hg dX3_isNumber_11 rfl rfl ?_
    refine A_iconst (v := (nI (1))) hg dX3_isNumber_12 (by decide) ?_
    refine A_hV (kc2 := 0) (ks2 := 0) (As := [.int (nI (1))]) (rest := []) hg lk_RX3_71 in_X3_fail se_X3_fail rfl dX3_isNumber_13 ⟨by decide, by decide⟩ rfl rfl ⟨by decide, by decide⟩ hc0 (by omega) rfl rfl (Nat.le_of_ble_eq_true rfl) (c_X3_fail G ex n σ m t (nI (x_kd f m t)) (nI (tk_be f m t)) nu ft (nI (0)) (q_d (0)) 1 hc0 hc1 (by omega)) ?_
    rintro _ σ_15 ⟨rfl, hc_13, hf_14⟩
    refine (?_ : AJ G K Q 0 0 ex n 16 [some (.ref (q_h G + 2)), some (.int (nI (lo))), some (.int (nI (hi))), none] [.int (nI (0))] σ_15)
    have hc_16 : σ_15 3 = o9 G (1) (nI (m)) (nI (x_kd f m t)) (nI (t)) (nI (tk_be f m t)) (nu) := (hf_14 _ (by omega)).trans hc1
    have hc_17 : σ_15 1 = q_an G 600 f := (hf_14 _ (by omega)).trans hc2
    have enc : tk_nc f m t lo hi = 1 := by rw [x_nc, if_neg c8]
    have hc_18 : σ_15 2 = o3 G (2) (nI (ft)) (nI (tk_nc f m t lo hi)) (nI (t)) := hc_13.trans (by rw [enc])
    rw [hQ]
    exact A_zreturn hg (by decide) (by decide) rfl rfl dX3_isNumber_16 ⟨rfl, Or.inl (⟨rfl, (by omega), hc_18, (fun i hi => (hf_14 i (by omega)))⟩)⟩
set_option maxRecDepth 100000 in
set_option maxHeartbeats 4000000 in
theorem c_X3_readNumber (G : GL) (ex : Bool) (n : Nat) (σ : Nat → va_E) (f : Nat → Nat) (m : Nat) (t : Nat) (nu : Int32) (ft : Nat) (lo : Nat) (hi : Nat) (hc0 : σ 2 = o3 G (2) (nI (ft)) (nI (0)) (q_d (0))) (hc1 : σ 3 = o9 G (1) (nI (m)) (nI (x_kd f m t)) (nI (t)) (nI (tk_be f m t)) (nu)) (hc2 : σ 1 = q_an G 600 f) (hn9 : 279 ≤ n) (hm6 : m ≤ 600) (hbb : ∀ k : Nat, s_byte f m k ≤ 256) (ht9 : t ≤ m) (hnu : tk_kd f m t = 2 → nu = nI (tk_vl f m t)) (hlo9 : lo < 2 ^ 31) (hhi9 : hi < 2 ^ 31) : Ct G yX3_readNumber cX3_readNumber 4 (some .int) ⟨2, 0, 0, 44⟩ [.ref (q_h G + 2), .int (nI (lo)), .int (nI (hi))] ex n σ (fun v9 σ2 => (v9 = some (.int (nI (0))) ∧ (¬ tk_nc f m t lo hi = 0) ∧ σ2 2 = o3 G (2) (nI (ft)) (nI (tk_nc f m t lo hi)) (nI (t)) ∧ (∀ i : Nat, i ≠ 2 → σ2 i = σ i)) ∨ (∃ (t2 : Nat), ∃ (nu2 : Int32), v9 = some (.int (nI (tk_vl f m t))) ∧ (tk_nc f m t lo hi = 0) ∧ (t2 = tk_nx f m t) ∧ (t2 ≤ m) ∧ (tk_kd f m t2 = 2 → nu2 = nI (tk_vl f m t2)) ∧ σ2 3 = o9 G (1) (nI (m)) (nI (x_kd f m t2)) (nI (t2)) (nI (tk_be f m t2)) (nu2) ∧ (∀ i : Nat, i ≠ 3 → σ2 i = σ i))) := by
  refine q_enter [some (.ref (q_h G + 2)), some (.int (nI (lo))), some (.int (nI (hi))), none] (by decide) (Nat.le_of_ble_eq_true rfl) rfl ?_
  intro K hg
  obtain ⟨Q, hQ⟩ : ∃ Q, Q = q_Q G K ex n 0 0 (fun v9 n' σ' => n' = n ∧ (fun v9 σ2 => (v9 = some (.int (nI (0))) ∧ (¬ tk_nc f m t lo hi = 0) ∧ σ2 2 = o3 G (2) (nI (ft)) (nI (tk_nc f m t lo hi)) (nI (t)) ∧ (∀ i : Nat, i ≠ 2 → σ2 i = σ i)) ∨ (∃ (t2 : Nat), ∃ (nu2 : Int32), v9 = some (.int (nI (tk_vl f m t))) ∧ (tk_nc f m t lo hi = 0) ∧ (t2 = tk_nx f m t) ∧ (t2 ≤ m) ∧ (tk_kd f m t2 = 2 → nu2 = nI (tk_vl f m t2)) ∧ σ2 3 = o9 G (1) (nI (m)) (nI (x_kd f m t2)) (nI (t2)) (nI (tk_be f m t2)) (nu2) ∧ (∀ i : Nat, i ≠ 3 → σ2 i = σ i))) v9 σ') q_noX := ⟨_, rfl⟩
  refine (?_ : AJ G K (q_Q G K ex n 0 0 _ _) 0 0 ex n 0 _ _ σ)
  rw [← hQ]
  have hbe := tk_be_le (f := f) ht9
  have hbg := tk_be_ge (f := f) (m := m) (t := t)
  have hkl := x_kd_lt f m t
  refine A_aload_n hg dX3_readNumber_0 rfl rfl ?_
  refine A_getf (v := .int (nI (0))) hg fl_RX3_29 dX3_readNumber_1 hc0 (by omega) rfl ?_
  refine A_if_neN (tgt := 16) hg dX3_readNumber_4 (by decide) (by decide) (fun c4 => absurd (by decide) c4) (fun c4 => ?_)
  refine A_aload_n hg dX3_readNumber_7 rfl rfl ?_
  refine A_iload_n hg dX3_readNumber_8 rfl rfl ?_
  refine A_iload_n hg dX3_readNumber_9 rfl rfl ?_
  refine A_hV (kc2 := 0) (ks2 := 0) (As := [.int (nI (lo)), .int (nI (hi))]) (rest := []) hg lk_RX3_121 in_X3_isNumber se_X3_isNumber rfl dX3_readNumber_10 ⟨by decide, by decide⟩ rfl rfl ⟨by decide, by decide⟩ hc0 (by omega) rfl rfl (Nat.le_of_ble_eq_true rfl) (c_X3_isNumber G ex n σ f m t nu ft lo hi hc0 hc1 hc2 (by omega) hm6 hbb (by omega) hnu (by omega) (by omega)) ?_
  rintro _ σ_4 (⟨rfl, hnc9, hc_1, hf_2⟩ | ⟨rfl, hnc9, hk2_9, he_3⟩)
  · skip
    refine (?_ : AJ G K Q 0 0 ex n 13 [some (.ref (q_h G + 2)), some (.int (nI (lo))), some (.int (nI (hi))), none] [.int (nI (0))] σ_4)
    have hc_5 : σ_4 3 = o9 G (1) (nI (m)) (nI (x_kd f m t)) (nI (t)) (nI (tk_be f m t)) (nu) := (hf_2 _ (by omega)).trans hc1
    have hc_6 : σ_4 1 = q_an G 600 f := (hf_2 _ (by omega)).trans hc2
    refine A_if_neN (tgt := 18) hg dX3_readNumber_13 (by decide) (by decide) (fun c13 => absurd (by decide) c13) (fun c13 => ?_)
    refine A_iconst (v := (nI (0))) hg dX3_readNumber_16 (by decide) ?_
    rw [hQ]
    exact A_ireturn hg (by decide) (by decide) rfl dX3_readNumber_17 ⟨rfl, Or.inl (⟨rfl, hnc9, hc_1, (fun i hi => (hf_2 i (by omega)))⟩)⟩
  · skip
    rw [he_3]
    refine (?_ : AJ G K Q 0 0 ex n 13 [some (.ref (q_h G + 2)), some (.int (nI (lo))), some (.int (nI (hi))), none] [.int (nI (1))] σ)
    refine A_if_neN (tgt := 18) hg dX3_readNumber_13 (by decide) (by decide) (fun c13 => ?_) (fun c13 => absurd c13 (by decide))
    refine A_aload_n hg dX3_readNumber_18 rfl rfl ?_
    refine A_getf (v := .ref (q_h G + 3)) hg fl_RX3_12 dX3_readNumber_19 hc0 (by omega) rfl ?_
    refine A_getf (v := .int (nu)) hg fl_RX3_125 dX3_readNumber_22 hc1 (by omega) rfl ?_
    refine A_top (w := .int (nI (tk_vl f m t))) (congrArg Value.int (hnu hk2_9)) ?_
    refine A_istore_n hg dX3_readNumber_25 rfl (by decide) (q_c1d rfl) ?_
    refine A_eq (ls2 := [some (.ref (q_h G + 2)), some (.int (nI (lo))), some (.int (nI (hi))), some (.int (nI (tk_vl f m t)))]) (st2 := []) (pc2 := 0) rfl rfl ?_
    refine A_aload_n hg dX3_readNumber_26 rfl rfl ?_
    refine A_getf (v := .ref (q_h G + 3)) hg fl_RX3_12 dX3_readNumber_27 hc0 (by omega) rfl ?_
    refine A_vV (kc2 := 0) (ks2 := 0) (As := []) (rest := []) hg lk_RX3_84 in_X9_advance se_X9_advance rfl dX3_readNumber_30 ⟨by decide, by decide⟩ rfl rfl ⟨by decide, by decide⟩ hc1 (by omega) rfl rfl (Nat.le_of_ble_eq_true rfl) (c_X9_advance G ex n σ f m (nI (x_kd f m t)) (nI (t)) (tk_be f m t) nu hc1 hc2 (by omega) hm6 hbb (by omega)) ?_
    rintro σ_9 ⟨t2, nu3, ht2, hnu2, hc_7, hf_8⟩
    have hc_10 : σ_9 2 = o3 G (2) (nI (ft)) (nI (0)) (q_d (0)) := (hf_8 _ (by omega)).trans hc0
    have hc_11 : σ_9 1 = q_an G 600 f := (hf_8 _ (by omega)).trans hc2
    refine A_iload_n hg dX3_readNumber_33 rfl rfl ?_
    rw [hQ]
    exact A_ireturn hg (by decide) (by decide) rfl dX3_readNumber_34 ⟨rfl, Or.inr ((⟨t2, nu3, rfl, hnc9, ht2, (by rw [ht2]; exact tk_nx_le ht9), hnu2, hc_7, (fun i hi => (hf_8 i (by omega)))⟩))⟩
set_option maxRecDepth 100000 in
set_option maxHeartbeats 4000000 in
theorem c_X3_readNumberE (G : GL) (ex : Bool) (n : Nat) (σ : Nat → va_E) (ft : Nat) (er : Nat) (ea : Int32) (lo : Nat) (hi : Nat) (hc0 : σ 2 = o3 G (2) (nI (ft)) (nI (er)) (ea)) (hn9 : 279 ≤ n) (her : ¬ er = 0) (her31 : er < 2 ^ 31) : Ct G yX3_readNumber cX3_readNumber 4 (some .int) ⟨2, 0, 0, 44⟩ [.ref (q_h G + 2), .int (nI (lo)), .int (nI (hi))] ex n σ (fun v9 σ2 => σ2 = σ ∧ v9 = some (.int (nI (0)))) := by
  refine q_enter [some (.ref (q_h G + 2)), some (.int (nI (lo))), some (.int (nI (hi))), none] (by decide) (Nat.le_of_ble_eq_true rfl) rfl ?_
  intro K hg
  obtain ⟨Q, hQ⟩ : ∃ Q, Q = q_Q G K ex n 0 0 (fun v9 n' σ' => n' = n ∧ (fun v9 σ2 => σ2 = σ ∧ v9 = some (.int (nI (0)))) v9 σ') q_noX := ⟨_, rfl⟩
  refine (?_ : AJ G K (q_Q G K ex n 0 0 _ _) 0 0 ex n 0 _ _ σ)
  rw [← hQ]
  refine A_aload_n hg dX3_readNumber_0 rfl rfl ?_
  refine A_getf (v := .int (nI (er))) hg fl_RX3_29 dX3_readNumber_1 hc0 (by omega) rfl ?_
  refine A_if_neN (tgt := 16) hg dX3_readNumber_4 (by omega) (by decide) (fun c4 => ?_) (fun c4 => absurd c4 her)
  refine A_iconst (v := (nI (0))) hg dX3_readNumber_16 (by decide) ?_
  rw [hQ]
  exact A_ireturn hg (by decide) (by decide) rfl dX3_readNumber_17 ⟨rfl, ⟨rfl, rfl⟩⟩
set_option maxRecDepth 100000 in
set_option maxHeartbeats 4000000 in
theorem c_X3_readSemicolon (G : GL) (ex : Bool) (n : Nat) (σ : Nat → va_E) (f : Nat → Nat) (m : Nat) (t : Nat) (nu : Int32) (ft : Nat) (hc0 : σ 2 = o3 G (2) (nI (ft)) (nI (0)) (q_d (0))) (hc1 : σ 3 = o9 G (1) (nI (m)) (nI (x_kd f m t)) (nI (t)) (nI (tk_be f m t)) (nu)) (hc2 : σ 1 = q_an G 600 f) (hn9 : 279 ≤ n) (hm6 : m ≤ 600) (hbb : ∀ k : Nat, s_byte f m k ≤ 256) (ht9 : t ≤ m) (hnu : tk_kd f m t = 2 → nu = nI (tk_vl f m t)) : Ct G yX3_readSemicolon cX3_readSemicolon 1 (some .boolean) ⟨2, 0, 0, 42⟩ [.ref (q_h G + 2)] ex n σ (fun v9 σ2 => (v9 = some (.int (nI (0))) ∧ (¬ tk_kd f m t = 3) ∧ σ2 2 = o3 G (2) (nI (ft)) (nI (1)) (nI (t)) ∧ (∀ i : Nat, i ≠ 2 → σ2 i = σ i)) ∨ (∃ (t2 : Nat), ∃ (nu2 : Int32), v9 = some (.int (nI (1))) ∧ (tk_kd f m t = 3) ∧ (t2 = tk_nx f m t) ∧ (t2 ≤ m) ∧ (tk_kd f m t2 = 2 → nu2 = nI (tk_vl f m t2)) ∧ σ2 3 = o9 G (1) (nI (m)) (nI (x_kd f m t2)) (nI (t2)) (nI (tk_be f m t2)) (nu2) ∧ (∀ i : Nat, i ≠ 3 → σ2 i = σ i))) := by
  refine q_enter [some (.ref (q_h G + 2))] (by decide) (Nat.le_of_ble_eq_true rfl) rfl ?_
  intro K hg
  obtain ⟨Q, hQ⟩ : ∃ Q, Q = q_Q G K ex n 0 0 (fun v9 n' σ' => n' = n ∧ (fun v9 σ2 => (v9 = some (.int (nI (0))) ∧ (¬ tk_kd f m t = 3) ∧ σ2 2 = o3 G (2) (nI (ft)) (nI (1)) (nI (t)) ∧ (∀ i : Nat, i ≠ 2 → σ2 i = σ i)) ∨ (∃ (t2 : Nat), ∃ (nu2 : Int32), v9 = some (.int (nI (1))) ∧ (tk_kd f m t = 3) ∧ (t2 = tk_nx f m t) ∧ (t2 ≤ m) ∧ (tk_kd f m t2 = 2 → nu2 = nI (tk_vl f m t2)) ∧ σ2 3 = o9 G (1) (nI (m)) (nI (x_kd f m t2)) (nI (t2)) (nI (tk_be f m t2)) (nu2) ∧ (∀ i : Nat, i ≠ 3 → σ2 i = σ i))) v9 σ') q_noX := ⟨_, rfl⟩
  refine (?_ : AJ G K (q_Q G K ex n 0 0 _ _) 0 0 ex n 0 _ _ σ)
  rw [← hQ]
  have hbe := tk_be_le (f := f) ht9
  have hbg := tk_be_ge (f := f) (m := m) (t := t)
  have hkl := x_kd_lt f m t
  refine A_aload_n hg dX3_readSemicolon_0 rfl rfl ?_
  refine A_getf (v := .ref (q_h G + 3)) hg fl_RX3_12 dX3_readSemicolon_1 hc0 (by omega) rfl ?_
  refine A_getf (v := .int (nI (x_kd f m t))) hg fl_RX3_43 dX3_readSemicolon_4 hc1 (by omega) rfl ?_
  refine A_iconst (v := (nI (3))) hg dX3_readSemicolon_7 (by decide) ?_
  refine A_icmp_eqN (tgt := 17) hg dX3_readSemicolon_8 (by omega) (by decide) (by decide) (fun c8 => ?_) (fun c8 => ?_)
  · skip
    refine A_aload_n hg dX3_readSemicolon_17 rfl rfl ?_
    refine A_getf (v := .ref (q_h G + 3)) hg fl_RX3_12 dX3_readSemicolon_18 hc0 (by omega) rfl ?_
    refine A_vV (kc2 := 0) (ks2 := 0) (As := []) (rest := []) hg lk_RX3_84 in_X9_advance se_X9_advance rfl dX3_readSemicolon_21 ⟨by decide, by decide⟩ rfl rfl ⟨by decide, by decide⟩ hc1 (by omega) rfl rfl (Nat.le_of_ble_eq_true rfl) (c_X9_advance G ex n σ f m (nI (x_kd f m t)) (nI (t)) (tk_be f m t) nu hc1 hc2 (by omega) hm6 hbb (by omega)) ?_
    rintro σ_3 ⟨t2, nu3, ht2, hnu2, hc_1, hf_2⟩
    have hc_4 : σ_3 2 = o3 G (2) (nI (ft)) (nI (0)) (q_d (0)) := (hf_2 _ (by omega)).trans hc0
    have hc_5 : σ_3 1 = q_an G 600 f := (hf_2 _ (by omega)).trans hc2
    refine A_iconst (v := (nI (1))) hg dX3_readSemicolon_24 (by decide) ?_
    rw [hQ]
    exact A_zreturn hg (by decide) (by decide) rfl rfl dX3_readSemicolon_25 ⟨rfl, Or.inr ((⟨t2, nu3, rfl, (x_kd_3.mp c8), ht2, (by rw [ht2]; exact tk_nx_le ht9), hnu2, hc_1, (fun i hi => (hf_2 i (by omega)))⟩))⟩
  · skip
    refine A_aload_n hg dX3_readSemicolon_11 rfl rfl ?_
    refine A_iconst (v := (nI (1))) hg dX3_readSemicolon_12 (by decide) ?_
    refine A_hV (kc2 := 0) (ks2 := 0) (As := [.int (nI (1))]) (rest := []) hg lk_RX3_71 in_X3_fail se_X3_fail rfl dX3_readSemicolon_13 ⟨by decide, by decide⟩ rfl rfl ⟨by decide, by decide⟩ hc0 (by omega) rfl rfl (Nat.le_of_ble_eq_true rfl) (c_X3_fail G ex n σ m t (nI (x_kd f m t)) (nI (tk_be f m t)) nu ft (nI (0)) (q_d (0)) 1 hc0 hc1 (by omega)) ?_
    rintro _ σ_8 ⟨rfl, hc_6, hf_7⟩
    refine (?_ : AJ G K Q 0 0 ex n 16 [some (.ref (q_h G + 2))] [.int (nI (0))] σ_8)
    have hc_9 : σ_8 3 = o9 G (1) (nI (m)) (nI (x_kd f m t)) (nI (t)) (nI (tk_be f m t)) (nu) := (hf_7 _ (by omega)).trans hc1
    have hc_10 : σ_8 1 = q_an G 600 f := (hf_7 _ (by omega)).trans hc2
    rw [hQ]
    exact A_zreturn hg (by decide) (by decide) rfl rfl dX3_readSemicolon_16 ⟨rfl, Or.inl (⟨rfl, (fun z => c8 (x_kd_3.mpr z)), hc_6, (fun i hi => (hf_7 i (by omega)))⟩)⟩
set_option maxRecDepth 100000 in
set_option maxHeartbeats 4000000 in
theorem c_X3_readNumberOfOnly (G : GL) (ex : Bool) (n : Nat) (σ : Nat → va_E) (f : Nat → Nat) (m : Nat) (t : Nat) (nu : Int32) (ft : Nat) (rb : Nat) (nm : Nat) (on : Nat) (sl : Nat) (mo : Nat) (nb : Nat) (g : Nat → Nat) (r : Nat) (ah : Nat) (hc0 : σ 2 = o3 G (2) (nI (ft)) (nI (0)) (q_d (0))) (hc1 : σ 3 = o9 G (1) (nI (m)) (nI (x_kd f m t)) (nI (t)) (nI (tk_be f m t)) (nu)) (hc2 : σ 1 = q_an G 600 f) (hc3 : σ rb = o7 G (rb) (lN (nm)) (lN (on)) (nI (sl)) (nI (mo)) (nI (nb))) (hn9 : 279 ≤ n) (hm6 : m ≤ 600) (hbb : ∀ k : Nat, s_byte f m k ≤ 256) (ht9 : t ≤ m) (hnu : tk_kd f m t = 2 → nu = nI (tk_vl f m t)) (hrbx : 15 ≤ rb ∧ rb + 1 ≤ 22) (hon : x_on (s_rule g r) on) (hos : x_os (s_rule g r)) (h9 : s_rule g r 9 = ah) (hah : ah ≤ 8) : Ct G yX3_readNumberOfOnly cX3_readNumberOfOnly 4 (some .boolean) ⟨2, 0, 0, 44⟩ [.ref (q_h G + 2), .ref (q_h G + rb), .int (nI (ah))] ex n σ (fun v9 σ2 => (∃ (c : Nat), ∃ (o : Nat), ∃ (kd2 : Int32), ∃ (st2 : Int32), ∃ (be2 : Int32), ∃ (nu2 : Int32), v9 = some (.int (nI (0))) ∧ (rd_oN f m r g t = .inl (c, o)) ∧ (¬ c = 0) ∧ σ2 2 = o3 G (2) (nI (ft)) (nI (c)) (nI (o)) ∧ σ2 3 = o9 G (1) (nI (m)) (kd2) (st2) (be2) (nu2) ∧ (∀ i : Nat, i ≠ 2 → σ2 i = σ i)) ∨ (∃ (g' : Nat → Nat), ∃ (t2 : Nat), ∃ (nu2 : Int32), ∃ (on2 : Nat), v9 = some (.int (nI (1))) ∧ (rd_oN f m r g t = .inr (g', t2)) ∧ (x_on (s_rule g' r) on2) ∧ (x_os (s_rule g' r)) ∧ (s_rule g' r 9 = ah + 1) ∧ (ah < 8) ∧ (∀ j : Nat, (j < 9 ∨ 17 < j) → s_rule g' r j = s_rule g r j) ∧ (t2 ≤ m) ∧ (tk_kd f m t2 = 2 → nu2 = nI (tk_vl f m t2)) ∧ σ2 3 = o9 G (1) (nI (m)) (nI (x_kd f m t2)) (nI (t2)) (nI (tk_be f m t2)) (nu2) ∧ σ2 rb = o7 G (rb) (lN (nm)) (lN (on2)) (nI (sl)) (nI (mo)) (nI (nb)) ∧ (∀ i : Nat, i ≠ 3 ∧ i ≠ rb → σ2 i = σ i))) := by
  refine q_enter [some (.ref (q_h G + 2)), some (.ref (q_h G + rb)), some (.int (nI (ah))), none] (by decide) (Nat.le_of_ble_eq_true rfl) rfl ?_
  intro K hg
  obtain ⟨Q, hQ⟩ : ∃ Q, Q = q_Q G K ex n 0 0 (fun v9 n' σ' => n' = n ∧ (fun v9 σ2 => (∃ (c : Nat), ∃ (o : Nat), ∃ (kd2 : Int32), ∃ (st2 : Int32), ∃ (be2 : Int32), ∃ (nu2 : Int32), v9 = some (.int (nI (0))) ∧ (rd_oN f m r g t = .inl (c, o)) ∧ (¬ c = 0) ∧ σ2 2 = o3 G (2) (nI (ft)) (nI (c)) (nI (o)) ∧ σ2 3 = o9 G (1) (nI (m)) (kd2) (st2) (be2) (nu2) ∧ (∀ i : Nat, i ≠ 2 → σ2 i = σ i)) ∨ (∃ (g' : Nat → Nat), ∃ (t2 : Nat), ∃ (nu2 : Int32), ∃ (on2 : Nat), v9 = some (.int (nI (1))) ∧ (rd_oN f m r g t = .inr (g', t2)) ∧ (x_on (s_rule g' r) on2) ∧ (x_os (s_rule g' r)) ∧ (s_rule g' r 9 = ah + 1) ∧ (ah < 8) ∧ (∀ j : Nat, (j < 9 ∨ 17 < j) → s_rule g' r j = s_rule g r j) ∧ (t2 ≤ m) ∧ (tk_kd f m t2 = 2 → nu2 = nI (tk_vl f m t2)) ∧ σ2 3 = o9 G (1) (nI (m)) (nI (x_kd f m t2)) (nI (t2)) (nI (tk_be f m t2)) (nu2) ∧ σ2 rb = o7 G (rb) (lN (nm)) (lN (on2)) (nI (sl)) (nI (mo)) (nI (nb)) ∧ (∀ i : Nat, i ≠ 3 ∧ i ≠ rb → σ2 i = σ i))) v9 σ') q_noX := ⟨_, rfl⟩
  refine (?_ : AJ G K (q_Q G K ex n 0 0 _ _) 0 0 ex n 0 _ _ σ)
  rw [← hQ]
  have hbe := tk_be_le (f := f) ht9
  have hbg := tk_be_ge (f := f) (m := m) (t := t)
  have hkl := x_kd_lt f m t
  refine A_aload_n hg dX3_readNumberOfOnly_0 rfl rfl ?_
  refine A_iconst (v := (nI (1))) hg dX3_readNumberOfOnly_1 (by decide) ?_
  refine A_bipush (v := (nI (40))) hg dX3_readNumberOfOnly_2 (by decide) ?_
  refine A_hV (kc2 := 0) (ks2 := 0) (As := [.int (nI (1)), .int (nI (40))]) (rest := []) hg lk_RX3_121 in_X3_isNumber se_X3_isNumber rfl dX3_readNumberOfOnly_4 ⟨by decide, by decide⟩ rfl rfl ⟨by decide, by decide⟩ hc0 (by omega) rfl rfl (Nat.le_of_ble_eq_true rfl) (c_X3_isNumber G ex n σ f m t nu ft 1 40 hc0 hc1 hc2 (by omega) hm6 hbb (by omega) hnu (by omega) (by omega)) ?_
  rintro _ σ_4 (⟨rfl, hnc9, hc_1, hf_2⟩ | ⟨rfl, hnc9, hk2_9, he_3⟩)
  · skip
    refine (?_ : AJ G K Q 0 0 ex n 7 [some (.ref (q_h G + 2)), some (.ref (q_h G + rb)), some (.int (nI (ah))), none] [.int (nI (0))] σ_4)
    have hc_5 : σ_4 3 = o9 G (1) (nI (m)) (nI (x_kd f m t)) (nI (t)) (nI (tk_be f m t)) (nu) := (hf_2 _ (by omega)).trans hc1
    have hc_6 : σ_4 1 = q_an G 600 f := (hf_2 _ (by omega)).trans hc2
    have hc_7 : σ_4 rb = o7 G (rb) (lN (nm)) (lN (on)) (nI (sl)) (nI (mo)) (nI (nb)) := (hf_2 _ (by omega)).trans hc3
    refine A_if_neN (tgt := 12) hg dX3_readNumberOfOnly_7 (by decide) (by decide) (fun c7 => absurd (by decide) c7) (fun c7 => ?_)
    refine A_iconst (v := (nI (0))) hg dX3_readNumberOfOnly_10 (by decide) ?_
    rw [hQ]
    exact A_zreturn hg (by decide) (by decide) rfl rfl dX3_readNumberOfOnly_11 ⟨rfl, Or.inl (⟨tk_nc f m t 1 40, t, (nI (x_kd f m t)), (nI (t)), (nI (tk_be f m t)), (nu), rfl, (by unfold rd_oN; rw [if_neg hnc9]), hnc9, hc_1, hc_5, (fun i hi => (hf_2 i (by omega)))⟩)⟩
  · skip
    rw [he_3]
    refine (?_ : AJ G K Q 0 0 ex n 7 [some (.ref (q_h G + 2)), some (.ref (q_h G + rb)), some (.int (nI (ah))), none] [.int (nI (1))] σ)
    refine A_if_neN (tgt := 12) hg dX3_readNumberOfOnly_7 (by decide) (by decide) (fun c7 => ?_) (fun c7 => absurd c7 (by decide))
    refine A_aload_n hg dX3_readNumberOfOnly_12 rfl rfl ?_
    refine A_getf (v := .ref (q_h G + 3)) hg fl_RX3_12 dX3_readNumberOfOnly_13 hc0 (by omega) rfl ?_
    refine A_getf (v := .int (nu)) hg fl_RX3_125 dX3_readNumberOfOnly_16 hc1 (by omega) rfl ?_
    refine A_top (w := .int (nI (tk_vl f m t))) (congrArg Value.int (hnu hk2_9)) ?_
    have hv := tk_nc_v hnc9
    refine A_istore_n hg dX3_readNumberOfOnly_19 rfl (by decide) (q_c1d rfl) ?_
    refine A_eq (ls2 := [some (.ref (q_h G + 2)), some (.ref (q_h G + rb)), some (.int (nI (ah))), some (.int (nI (tk_vl f m t)))]) (st2 := []) (pc2 := 0) rfl rfl ?_
    refine A_aload_n hg dX3_readNumberOfOnly_20 rfl rfl ?_
    refine A_iload_n hg dX3_readNumberOfOnly_21 rfl rfl ?_
    refine A_eV (kc2 := 0) (ks2 := 0) (As := [.int (nI (tk_vl f m t))]) (rest := []) hg lk_RX3_128 in_X7_hasOnly se_X7_hasOnly rfl dX3_readNumberOfOnly_22 ⟨by decide, by decide⟩ rfl rfl ⟨by decide, by decide⟩ hc3 (by omega) rfl rfl (Nat.le_of_ble_eq_true rfl) (c_X7_hasOnlyR G ex n σ rb nm on sl mo nb (tk_vl f m t) hc3 (by omega) hon.1 (by omega)) ?_
    refine A_top (w := .int (q_b (s_only (s_rule g r) (tk_vl f m t)))) (by rw [decide_eq_true (show tk_vl f m t ≤ 40 by omega), Bool.true_and, hon.2.1 _ (by omega)]) ?_
    refine A_if_eqB (tgt := 34) hg dX3_readNumberOfOnly_25 (by decide) (fun c25 => ?_) (fun c25 => ?_)
    · skip
      refine A_iload_n hg dX3_readNumberOfOnly_34 rfl rfl ?_
      refine A_bipush (v := (nI (8))) hg dX3_readNumberOfOnly_35 (by decide) ?_
      refine A_icmp_ltN (tgt := 46) hg dX3_readNumberOfOnly_37 (by omega) (by decide) (by decide) (fun c37 => ?_) (fun c37 => ?_)
      · skip
        refine A_aload_n hg dX3_readNumberOfOnly_46 rfl rfl ?_
        refine A_iload_n hg dX3_readNumberOfOnly_47 rfl rfl ?_
        refine A_vV (kc2 := 0) (ks2 := 0) (As := [.int (nI (tk_vl f m t))]) (rest := []) hg lk_RX3_133 in_X7_addOnly se_X7_addOnly rfl dX3_readNumberOfOnly_48 ⟨by decide, by decide⟩ rfl rfl ⟨by decide, by decide⟩ hc3 (by omega) rfl rfl (Nat.le_of_ble_eq_true rfl) (c_X7_addOnly G ex n σ rb nm on sl mo nb (tk_vl f m t) hc3 (by omega) (by omega)) ?_
        rintro σ_10 ⟨hc_8, hf_9⟩
        have hc_11 : σ_10 2 = o3 G (2) (nI (ft)) (nI (0)) (q_d (0)) := (hf_9 _ (by omega)).trans hc0
        have hc_12 : σ_10 3 = o9 G (1) (nI (m)) (nI (x_kd f m t)) (nI (t)) (nI (tk_be f m t)) (nu) := (hf_9 _ (by omega)).trans hc1
        have hc_13 : σ_10 1 = q_an G 600 f := (hf_9 _ (by omega)).trans hc2
        refine A_aload_n hg dX3_readNumberOfOnly_51 rfl rfl ?_
        refine A_getf (v := .ref (q_h G + 3)) hg fl_RX3_12 dX3_readNumberOfOnly_52 hc_11 (by omega) rfl ?_
        refine A_vV (kc2 := 0) (ks2 := 0) (As := []) (rest := []) hg lk_RX3_84 in_X9_advance se_X9_advance rfl dX3_readNumberOfOnly_55 ⟨by decide, by decide⟩ rfl rfl ⟨by decide, by decide⟩ hc_12 (by omega) rfl rfl (Nat.le_of_ble_eq_true rfl) (c_X9_advance G ex n σ_10 f m (nI (x_kd f m t)) (nI (t)) (tk_be f m t) nu hc_12 hc_13 (by omega) hm6 hbb (by omega)) ?_
        rintro σ_16 ⟨t2, nu3, ht2, hnu2, hc_14, hf_15⟩
        have hc_17 : σ_16 2 = o3 G (2) (nI (ft)) (nI (0)) (q_d (0)) := (hf_15 _ (by omega)).trans hc_11
        have hc_18 : σ_16 1 = q_an G 600 f := (hf_15 _ (by omega)).trans hc_13
        have hc_19 : σ_16 rb = o7 G (rb) (lN (nm)) (lN (on ||| 2 ^ (tk_vl f m t))) (nI (sl)) (nI (mo)) (nI (nb)) := (hf_15 _ (by omega)).trans hc_8
        refine A_iconst (v := (nI (1))) hg dX3_readNumberOfOnly_58 (by decide) ?_
        have hadd := x_on_add (g := g) (r := r) hon hos c25 hv
        rw [hQ]
        exact A_zreturn hg (by decide) (by decide) rfl rfl dX3_readNumberOfOnly_59 ⟨rfl, Or.inr ((⟨(s_addO g r (tk_vl f m t)), t2, nu3, (on ||| 2 ^ tk_vl f m t), rfl, (by unfold rd_oN; rw [if_pos hnc9, if_neg (by rw [c25]; decide), if_neg (by omega), ht2]; rfl), hadd.1, hadd.2, (by rw [s_addO_at, if_pos rfl, h9]), (by omega), (fun j hj => by rw [s_addO_at, if_neg (by omega)]; exact s_ins_out _ _ _ (by omega)), (by rw [ht2]; exact tk_nx_le ht9), hnu2, hc_14, hc_19, (fun i hi => ((hf_15 i (by omega)).trans (hf_9 i (by omega))))⟩))⟩
      · skip
        refine A_aload_n hg dX3_readNumberOfOnly_40 rfl rfl ?_
        refine A_iconst (v := (nI (5))) hg dX3_readNumberOfOnly_41 (by decide) ?_
        refine A_hV (kc2 := 0) (ks2 := 0) (As := [.int (nI (5))]) (rest := []) hg lk_RX3_71 in_X3_fail se_X3_fail rfl dX3_readNumberOfOnly_42 ⟨by decide, by decide⟩ rfl rfl ⟨by decide, by decide⟩ hc0 (by omega) rfl rfl (Nat.le_of_ble_eq_true rfl) (c_X3_fail G ex n σ m t (nI (x_kd f m t)) (nI (tk_be f m t)) nu ft (nI (0)) (q_d (0)) 5 hc0 hc1 (by omega)) ?_
        rintro _ σ_22 ⟨rfl, hc_20, hf_21⟩
        refine (?_ : AJ G K Q 0 0 ex n 45 [some (.ref (q_h G + 2)), some (.ref (q_h G + rb)), some (.int (nI (ah))), some (.int (nI (tk_vl f m t)))] [.int (nI (0))] σ_22)
        have hc_23 : σ_22 3 = o9 G (1) (nI (m)) (nI (x_kd f m t)) (nI (t)) (nI (tk_be f m t)) (nu) := (hf_21 _ (by omega)).trans hc1
        have hc_24 : σ_22 1 = q_an G 600 f := (hf_21 _ (by omega)).trans hc2
        have hc_25 : σ_22 rb = o7 G (rb) (lN (nm)) (lN (on)) (nI (sl)) (nI (mo)) (nI (nb)) := (hf_21 _ (by omega)).trans hc3
        rw [hQ]
        exact A_zreturn hg (by decide) (by decide) rfl rfl dX3_readNumberOfOnly_45 ⟨rfl, Or.inl (⟨5, t, (nI (x_kd f m t)), (nI (t)), (nI (tk_be f m t)), (nu), rfl, (by unfold rd_oN; rw [if_pos hnc9, if_neg (by rw [c25]; decide), if_pos (by omega)]), (by omega), hc_20, hc_23, (fun i hi => (hf_21 i (by omega)))⟩)⟩
    · skip
      refine A_aload_n hg dX3_readNumberOfOnly_28 rfl rfl ?_
      refine A_iconst (v := (nI (4))) hg dX3_readNumberOfOnly_29 (by decide) ?_
      refine A_hV (kc2 := 0) (ks2 := 0) (As := [.int (nI (4))]) (rest := []) hg lk_RX3_71 in_X3_fail se_X3_fail rfl dX3_readNumberOfOnly_30 ⟨by decide, by decide⟩ rfl rfl ⟨by decide, by decide⟩ hc0 (by omega) rfl rfl (Nat.le_of_ble_eq_true rfl) (c_X3_fail G ex n σ m t (nI (x_kd f m t)) (nI (tk_be f m t)) nu ft (nI (0)) (q_d (0)) 4 hc0 hc1 (by omega)) ?_
      rintro _ σ_28 ⟨rfl, hc_26, hf_27⟩
      refine (?_ : AJ G K Q 0 0 ex n 33 [some (.ref (q_h G + 2)), some (.ref (q_h G + rb)), some (.int (nI (ah))), some (.int (nI (tk_vl f m t)))] [.int (nI (0))] σ_28)
      have hc_29 : σ_28 3 = o9 G (1) (nI (m)) (nI (x_kd f m t)) (nI (t)) (nI (tk_be f m t)) (nu) := (hf_27 _ (by omega)).trans hc1
      have hc_30 : σ_28 1 = q_an G 600 f := (hf_27 _ (by omega)).trans hc2
      have hc_31 : σ_28 rb = o7 G (rb) (lN (nm)) (lN (on)) (nI (sl)) (nI (mo)) (nI (nb)) := (hf_27 _ (by omega)).trans hc3
      rw [hQ]
      exact A_zreturn hg (by decide) (by decide) rfl rfl dX3_readNumberOfOnly_33 ⟨rfl, Or.inl (⟨4, t, (nI (x_kd f m t)), (nI (t)), (nI (tk_be f m t)), (nu), rfl, (by unfold rd_oN; rw [if_pos hnc9, if_pos c25]), (by omega), hc_26, hc_29, (fun i hi => (hf_27 i (by omega)))⟩)⟩
set_option maxRecDepth 100000 in
set_option maxHeartbeats 4000000 in
theorem c_X3_readOnly (G : GL) (ex : Bool) (n : Nat) (σ : Nat → va_E) (f : Nat → Nat) (m : Nat) (t : Nat) (nu : Int32) (ft : Nat) (rb : Nat) (nm : Nat) (on : Nat) (sl : Nat) (mo : Nat) (nb : Nat) (g : Nat → Nat) (r : Nat) (hc0 : σ 2 = o3 G (2) (nI (ft)) (nI (0)) (q_d (0))) (hc1 : σ 3 = o9 G (1) (nI (m)) (nI (x_kd f m t)) (nI (t)) (nI (tk_be f m t)) (nu)) (hc2 : σ 1 = q_an G 600 f) (hc3 : σ rb = o7 G (rb) (lN (nm)) (lN (on)) (nI (sl)) (nI (mo)) (nI (nb))) (hn9 : 279 ≤ n) (hm6 : m ≤ 600) (hbb : ∀ k : Nat, s_byte f m k ≤ 256) (ht9 : t ≤ m) (hnu : tk_kd f m t = 2 → nu = nI (tk_vl f m t)) (hrbx : 15 ≤ rb ∧ rb + 1 ≤ 22) (hon : x_on (s_rule g r) on) (hos : x_os (s_rule g r)) (h9 : s_rule g r 9 = 0) : Ct G yX3_readOnly cX3_readOnly 4 (some .boolean) ⟨5, 0, 0, 107⟩ [.ref (q_h G + 2), .ref (q_h G + rb)] ex n σ (fun v9 σ2 => (∃ (c : Nat), ∃ (o : Nat), ∃ (kd2 : Int32), ∃ (st2 : Int32), ∃ (be2 : Int32), ∃ (nu2 : Int32), ∃ (on2 : Nat), v9 = some (.int (nI (0))) ∧ (rd_o f m r g t = .inl (c, o)) ∧ (¬ c = 0) ∧ σ2 2 = o3 G (2) (nI (ft)) (nI (c)) (nI (o)) ∧ σ2 3 = o9 G (1) (nI (m)) (kd2) (st2) (be2) (nu2) ∧ σ2 rb = o7 G (rb) (lN (nm)) (lN (on2)) (nI (sl)) (nI (mo)) (nI (nb)) ∧ (∀ i : Nat, i ≠ 2 ∧ i ≠ 3 ∧ i ≠ rb → σ2 i = σ i)) ∨ (∃ (g' : Nat → Nat), ∃ (t2 : Nat), ∃ (nu2 : Int32), ∃ (on2 : Nat), v9 = some (.int (nI (1))) ∧ (rd_o f m r g t = .inr (g', t2)) ∧ (x_on (s_rule g' r) on2) ∧ (x_os (s_rule g' r)) ∧ (∀ j : Nat, (j < 9 ∨ 17 < j) → s_rule g' r j = s_rule g r j) ∧ (t2 ≤ m) ∧ (tk_kd f m t2 = 2 → nu2 = nI (tk_vl f m t2)) ∧ σ2 3 = o9 G (1) (nI (m)) (nI (x_kd f m t2)) (nI (t2)) (nI (tk_be f m t2)) (nu2) ∧ σ2 rb = o7 G (rb) (lN (nm)) (lN (on2)) (nI (sl)) (nI (mo)) (nI (nb)) ∧ (∀ i : Nat, i ≠ 3 ∧ i ≠ rb → σ2 i = σ i)) ∨ (∃ (o : Nat), ∃ (nu2 : Int32), ∃ (on2 : Nat), v9 = some (.int (nI (1))) ∧ (rd_o f m r g t = .inl (1, o)) ∧ (x_kd f m o = 4) ∧ (o ≤ m) ∧ (tk_kd f m o = 2 → nu2 = nI (tk_vl f m o)) ∧ σ2 3 = o9 G (1) (nI (m)) (nI (x_kd f m o)) (nI (o)) (nI (tk_be f m o)) (nu2) ∧ σ2 rb = o7 G (rb) (lN (nm)) (lN (on2)) (nI (sl)) (nI (mo)) (nI (nb)) ∧ (∀ i : Nat, i ≠ 3 ∧ i ≠ rb → σ2 i = σ i))) := by
  refine q_enter [some (.ref (q_h G + 2)), some (.ref (q_h G + rb)), none, none] (by decide) (Nat.le_of_ble_eq_true rfl) rfl ?_
  intro K hg
  obtain ⟨Q, hQ⟩ : ∃ Q, Q = q_Q G K ex n 0 0 (fun v9 n' σ' => n' = n ∧ (fun v9 σ2 => (∃ (c : Nat), ∃ (o : Nat), ∃ (kd2 : Int32), ∃ (st2 : Int32), ∃ (be2 : Int32), ∃ (nu2 : Int32), ∃ (on2 : Nat), v9 = some (.int (nI (0))) ∧ (rd_o f m r g t = .inl (c, o)) ∧ (¬ c = 0) ∧ σ2 2 = o3 G (2) (nI (ft)) (nI (c)) (nI (o)) ∧ σ2 3 = o9 G (1) (nI (m)) (kd2) (st2) (be2) (nu2) ∧ σ2 rb = o7 G (rb) (lN (nm)) (lN (on2)) (nI (sl)) (nI (mo)) (nI (nb)) ∧ (∀ i : Nat, i ≠ 2 ∧ i ≠ 3 ∧ i ≠ rb → σ2 i = σ i)) ∨ (∃ (g' : Nat → Nat), ∃ (t2 : Nat), ∃ (nu2 : Int32), ∃ (on2 : Nat), v9 = some (.int (nI (1))) ∧ (rd_o f m r g t = .inr (g', t2)) ∧ (x_on (s_rule g' r) on2) ∧ (x_os (s_rule g' r)) ∧ (∀ j : Nat, (j < 9 ∨ 17 < j) → s_rule g' r j = s_rule g r j) ∧ (t2 ≤ m) ∧ (tk_kd f m t2 = 2 → nu2 = nI (tk_vl f m t2)) ∧ σ2 3 = o9 G (1) (nI (m)) (nI (x_kd f m t2)) (nI (t2)) (nI (tk_be f m t2)) (nu2) ∧ σ2 rb = o7 G (rb) (lN (nm)) (lN (on2)) (nI (sl)) (nI (mo)) (nI (nb)) ∧ (∀ i : Nat, i ≠ 3 ∧ i ≠ rb → σ2 i = σ i)) ∨ (∃ (o : Nat), ∃ (nu2 : Int32), ∃ (on2 : Nat), v9 = some (.int (nI (1))) ∧ (rd_o f m r g t = .inl (1, o)) ∧ (x_kd f m o = 4) ∧ (o ≤ m) ∧ (tk_kd f m o = 2 → nu2 = nI (tk_vl f m o)) ∧ σ2 3 = o9 G (1) (nI (m)) (nI (x_kd f m o)) (nI (o)) (nI (tk_be f m o)) (nu2) ∧ σ2 rb = o7 G (rb) (lN (nm)) (lN (on2)) (nI (sl)) (nI (mo)) (nI (nb)) ∧ (∀ i : Nat, i ≠ 3 ∧ i ≠ rb → σ2 i = σ i))) v9 σ') q_noX := ⟨_, rfl⟩
  refine (?_ : AJ G K (q_Q G K ex n 0 0 _ _) 0 0 ex n 0 _ _ σ)
  rw [← hQ]
  have hbe := tk_be_le (f := f) ht9
  have hbg := tk_be_ge (f := f) (m := m) (t := t)
  have hkl := x_kd_lt f m t
  refine A_aload_n hg dX3_readOnly_0 rfl rfl ?_
  refine A_getf (v := .ref (q_h G + 3)) hg fl_RX3_12 dX3_readOnly_1 hc0 (by omega) rfl ?_
  refine A_ldcS hg (sc_RX3_115 hg.2.2.2.2.2.2.1.1).1 dX3_readOnly_4 ?_
  refine A_eV (kc2 := 0) (ks2 := 0) (As := [.ref (q_sa G RX3 115)]) (rest := []) hg lk_RX3_48 in_X9_isWord se_X9_isWord rfl dX3_readOnly_6 ⟨by decide, by decide⟩ rfl rfl ⟨by decide, by decide⟩ hc1 (by omega) rfl rfl (Nat.le_of_ble_eq_true rfl) (c_X9_isWord G ex n σ f m t nu (q_sa G RX3 115) ([111, 110, 108, 121]) hc1 hc2 (by omega) hm6 hbb (by omega) ((sc_RX3_115 hg.2.2.2.2.2.2.1.1).2)) ?_
  refine A_if_neB (tgt := 14) hg dX3_readOnly_9 (by decide) (fun c9 => ?_) (fun c9 => ?_)
  · skip
    have hw9 := c9
    refine A_aload_n hg dX3_readOnly_14 rfl rfl ?_
    refine A_getf (v := .ref (q_h G + 3)) hg fl_RX3_12 dX3_readOnly_15 hc0 (by omega) rfl ?_
    refine A_vV (kc2 := 0) (ks2 := 0) (As := []) (rest := []) hg lk_RX3_84 in_X9_advance se_X9_advance rfl dX3_readOnly_18 ⟨by decide, by decide⟩ rfl rfl ⟨by decide, by decide⟩ hc1 (by omega) rfl rfl (Nat.le_of_ble_eq_true rfl) (c_X9_advance G ex n σ f m (nI (x_kd f m t)) (nI (t)) (tk_be f m t) nu hc1 hc2 (by omega) hm6 hbb (by omega)) ?_
    rintro σ_3 ⟨t2, nu3, ht2, hnu2, hc_1, hf_2⟩
    have hc_4 : σ_3 2 = o3 G (2) (nI (ft)) (nI (0)) (q_d (0)) := (hf_2 _ (by omega)).trans hc0
    have hc_5 : σ_3 1 = q_an G 600 f := (hf_2 _ (by omega)).trans hc2
    have hc_6 : σ_3 rb = o7 G (rb) (lN (nm)) (lN (on)) (nI (sl)) (nI (mo)) (nI (nb)) := (hf_2 _ (by omega)).trans hc3
    have htm9 : t2 ≤ m := by rw [ht2]; exact tk_nx_le ht9
    refine A_aload_n hg dX3_readOnly_21 rfl rfl ?_
    refine A_aload_n hg dX3_readOnly_22 rfl rfl ?_
    refine A_iconst (v := (nI (0))) hg dX3_readOnly_23 (by decide) ?_
    refine A_hV (kc2 := 0) (ks2 := 0) (As := [.ref (q_h G + rb), .int (nI (0))]) (rest := []) hg lk_RX3_117 in_X3_readNumberOfOnly se_X3_readNumberOfOnly rfl dX3_readOnly_24 ⟨by decide, by decide⟩ rfl rfl ⟨by decide, by decide⟩ hc_4 (by omega) rfl rfl (Nat.le_of_ble_eq_true rfl) (c_X3_readNumberOfOnly G ex n σ_3 f m t2 nu3 ft rb nm on sl mo nb g r 0 hc_4 hc_1 hc_5 hc_6 (by omega) hm6 hbb htm9 hnu2 (by omega) hon hos h9 (by decide)) ?_
    rintro _ σ_19 (⟨c_7, o_8, kd2_9, st2_10, be2_11, nu4, rfl, hR24, hc0_12, hc_13, hc_14, hf_15⟩ | ⟨g2, t3, nu4, on3, rfl, hR24, hon3, hos3, h93, hah3, hsm3, htm3, hnu4, hc_16, hc_17, hf_18⟩)
    · skip
      refine (?_ : AJ G K Q 0 0 ex n 27 [some (.ref (q_h G + 2)), some (.ref (q_h G + rb)), none, none] [.int (nI (0))] σ_19)
      have hc_20 : σ_19 1 = q_an G 600 f := (hf_15 _ (by omega)).trans hc_5
      have hc_21 : σ_19 rb = o7 G (rb) (lN (nm)) (lN (on)) (nI (sl)) (nI (mo)) (nI (nb)) := (hf_15 _ (by omega)).trans hc_6
      refine A_istore_n hg dX3_readOnly_27 rfl (by decide) (q_c1d rfl) ?_
      refine A_eq (ls2 := [some (.ref (q_h G + 2)), some (.ref (q_h G + rb)), some (.int (nI (0))), none]) (st2 := []) (pc2 := 0) rfl rfl ?_
      refine A_iconst (v := (nI (1))) hg dX3_readOnly_28 (by decide) ?_
      refine A_istore_n hg dX3_readOnly_29 rfl (by decide) (q_c1d rfl) ?_
      refine A_eq (ls2 := [some (.ref (q_h G + 2)), some (.ref (q_h G + rb)), some (.int (nI (0))), some (.int (nI (1)))]) (st2 := []) (pc2 := 0) rfl rfl ?_
      refine A_iload_n hg dX3_readOnly_30 rfl rfl ?_
      refine A_bipush (v := (nI (8))) hg dX3_readOnly_31 (by decide) ?_
      refine A_icmp_gtN (tgt := 64) hg dX3_readOnly_33 (by decide) (by decide) (by decide) (fun c33 => ?_) (fun c33 => ?_)
      · skip
        refine A_iload_n hg dX3_readOnly_64 rfl rfl ?_
        rw [hQ]
        exact A_zreturn hg (by decide) (by decide) rfl rfl dX3_readOnly_65 ⟨rfl, Or.inl (⟨c_7, o_8, (kd2_9), (st2_10), (be2_11), (nu4), on, rfl, (by rw [rd_o_1 hw9 ht2 hR24]), (by assumption), hc_13, hc_14, hc_21, (fun i hi => ((hf_15 i (by omega)).trans (hf_2 i (by omega))))⟩)⟩
      · skip
        refine A_iload_n hg dX3_readOnly_36 rfl rfl ?_
        refine A_if_eqN (tgt := 64) hg dX3_readOnly_37 (by decide) (by decide) (fun c37 => ?_) (fun c37 => absurd (by decide) c37)
        refine A_iload_n hg dX3_readOnly_64 rfl rfl ?_
        rw [hQ]
        exact A_zreturn hg (by decide) (by decide) rfl rfl dX3_readOnly_65 ⟨rfl, Or.inl (⟨c_7, o_8, (kd2_9), (st2_10), (be2_11), (nu4), on, rfl, (by rw [rd_o_1 hw9 ht2 hR24]), (by assumption), hc_13, hc_14, hc_21, (fun i hi => ((hf_15 i (by omega)).trans (hf_2 i (by omega))))⟩)⟩
    · skip
      refine (?_ : AJ G K Q 0 0 ex n 27 [some (.ref (q_h G + 2)), some (.ref (q_h G + rb)), none, none] [.int (nI (1))] σ_19)
      have hc_22 : σ_19 2 = o3 G (2) (nI (ft)) (nI (0)) (q_d (0)) := (hf_18 _ (by omega)).trans hc_4
      have hc_23 : σ_19 1 = q_an G 600 f := (hf_18 _ (by omega)).trans hc_5
      refine A_istore_n hg dX3_readOnly_27 rfl (by decide) (q_c1d rfl) ?_
      refine A_eq (ls2 := [some (.ref (q_h G + 2)), some (.ref (q_h G + rb)), some (.int (nI (1))), none]) (st2 := []) (pc2 := 0) rfl rfl ?_
      refine A_iconst (v := (nI (1))) hg dX3_readOnly_28 (by decide) ?_
      refine A_istore_n hg dX3_readOnly_29 rfl (by decide) (q_c1d rfl) ?_
      refine A_eq (ls2 := [some (.ref (q_h G + 2)), some (.ref (q_h G + rb)), some (.int (nI (1))), some (.int (nI (1)))]) (st2 := []) (pc2 := 0) rfl rfl ?_
      have hL30 : ∀ (fu : Nat) (q : Nat) (g1 : Nat → Nat) (t1 : Nat) (nu1 : Int32) (on1 : Nat) (σ_24 : Nat → va_E), (σ_24 2 = o3 G (2) (nI (ft)) (nI (0)) (q_d (0))) → (σ_24 1 = q_an G 600 f) → (σ_24 3 = o9 G (1) (nI (m)) (nI (x_kd f m t1)) (nI (t1)) (nI (tk_be f m t1)) (nu1)) → (σ_24 rb = o7 G (rb) (lN (nm)) (lN (on1)) (nI (sl)) (nI (mo)) (nI (nb))) → (∀ i : Nat, i ≠ 3 ∧ i ≠ rb → σ_24 i = σ i) → (1 ≤ q ∧ q ≤ 8) → (rd_o f m r g t = rd_oL f m r (10 - q) g1 t1) → (x_on (s_rule g1 r) on1) → (x_os (s_rule g1 r)) → (s_rule g1 r 9 = q) → (∀ j : Nat, (j < 9 ∨ 17 < j) → s_rule g1 r j = s_rule g r j) → (t1 ≤ m) → (tk_kd f m t1 = 2 → nu1 = nI (tk_vl f m t1)) → (9 - q) < fu → AJ G K Q 0 0 ex n 30 [some (.ref (q_h G + 2)), some (.ref (q_h G + rb)), some (.int (nI (1))), some (.int (nI (q)))] [] σ_24 := by
        intro fu
        induction fu with
        | zero => intro q g1 t1 nu1 on1 σ_24 hc_25 hc_26 hc_27 hc_28 hf_29 hq hRL hon1 hos1 hq9 hsm1 htm1 hnu1 hm; exact absurd hm (Nat.not_lt_zero _)
        | succ fu ih30 =>
          intro q g1 t1 nu1 on1 σ_24 hc_25 hc_26 hc_27 hc_28 hf_29 hq hRL hon1 hos1 hq9 hsm1 htm1 hnu1 hm30
          refine A_iload_n hg dX3_readOnly_30 rfl rfl ?_
          refine A_bipush (v := (nI (8))) hg dX3_readOnly_31 (by decide) ?_
          refine A_icmp_gtN (tgt := 64) hg dX3_readOnly_33 (by omega) (by decide) (by decide) (fun c33 => absurd c33 (by omega)) (fun c33 => ?_)
          refine A_iload_n hg dX3_readOnly_36 rfl rfl ?_
          refine A_if_eqN (tgt := 64) hg dX3_readOnly_37 (by decide) (by decide) (fun c37 => absurd c37 (by decide)) (fun c37 => ?_)
          refine A_aload_n hg dX3_readOnly_40 rfl rfl ?_
          refine A_getf (v := .ref (q_h G + 3)) hg fl_RX3_12 dX3_readOnly_41 hc_25 (by omega) rfl ?_
          refine A_getf (v := .int (nI (x_kd f m t1))) hg fl_RX3_43 dX3_readOnly_44 hc_27 (by omega) rfl ?_
          refine A_iconst (v := (nI (2))) hg dX3_readOnly_47 (by decide) ?_
          refine A_icmp_neN (tgt := 64) hg dX3_readOnly_48 (by have := x_kd_lt f m t1; omega) (by decide) (by decide) (fun c48 => ?_) (fun c48 => ?_)
          · skip
            by_cases hk9 : tk_kd f m t1 = 2
            · skip
              refine A_iload_n hg dX3_readOnly_64 rfl rfl ?_
              rw [hQ]
              exact A_zreturn hg (by decide) (by decide) rfl rfl dX3_readOnly_65 ⟨rfl, Or.inr (Or.inr ((⟨t1, nu1, on1, rfl, (by rw [hRL, show 10 - q = (9 - q) + 1 by omega, rd_oL_e hk9 (by unfold rd_oN; rw [tk_nc_1 (fun z => c48 (x_kd_2.mpr z)), if_neg (by decide)])]), (by unfold x_kd; rw [if_pos ⟨hk9, by have := c48; unfold x_kd at this; by_cases z : 3 < tk_be f m t1 - t1; exact z; exact absurd (by rw [if_neg (fun q => z q.2)]; exact hk9) this⟩]), htm1, hnu1, hc_27, hc_28, (fun i hi => (hf_29 i (by omega)))⟩)))⟩
            · skip
              refine A_iload_n hg dX3_readOnly_64 rfl rfl ?_
              rw [hQ]
              exact A_zreturn hg (by decide) (by decide) rfl rfl dX3_readOnly_65 ⟨rfl, Or.inr (Or.inl (⟨g1, t1, nu1, on1, rfl, (by rw [hRL, rd_oL_n hk9]), hon1, hos1, hsm1, htm1, hnu1, hc_27, hc_28, (fun i hi => (hf_29 i (by omega)))⟩))⟩
          · skip
            have hkq := (x_kd_2.mp c48).1
            refine A_aload_n hg dX3_readOnly_51 rfl rfl ?_
            refine A_aload_n hg dX3_readOnly_52 rfl rfl ?_
            refine A_iload_n hg dX3_readOnly_53 rfl rfl ?_
            refine A_hV (kc2 := 0) (ks2 := 0) (As := [.ref (q_h G + rb), .int (nI (q))]) (rest := []) hg lk_RX3_117 in_X3_readNumberOfOnly se_X3_readNumberOfOnly rfl dX3_readOnly_54 ⟨by decide, by decide⟩ rfl rfl ⟨by decide, by decide⟩ hc_25 (by omega) rfl rfl (Nat.le_of_ble_eq_true rfl) (c_X3_readNumberOfOnly G ex n σ_24 f m t1 nu1 ft rb nm on1 sl mo nb g1 r q hc_25 hc_27 hc_26 hc_28 (by omega) hm6 hbb htm1 hnu1 (by omega) hon1 hos1 hq9 (by omega)) ?_
            rintro _ σ_42 (⟨c_30, o_31, kd2_32, st2_33, be2_34, nu4, rfl, hR54, hc0_35, hc_36, hc_37, hf_38⟩ | ⟨g2, t3, nu4, on3, rfl, hR54, hon3, hos3, h93, hah3, hsm3, htm3, hnu4, hc_39, hc_40, hf_41⟩)
            · skip
              refine (?_ : AJ G K Q 0 0 ex n 57 [some (.ref (q_h G + 2)), some (.ref (q_h G + rb)), some (.int (nI (1))), some (.int (nI (q)))] [.int (nI (0))] σ_42)
              have hc_43 : σ_42 1 = q_an G 600 f := (hf_38 _ (by omega)).trans hc_26
              have hc_44 : σ_42 rb = o7 G (rb) (lN (nm)) (lN (on1)) (nI (sl)) (nI (mo)) (nI (nb)) := (hf_38 _ (by omega)).trans hc_28
              refine A_istore_n hg dX3_readOnly_57 rfl (by decide) (q_c1d rfl) ?_
              refine A_eq (ls2 := [some (.ref (q_h G + 2)), some (.ref (q_h G + rb)), some (.int (nI (0))), some (.int (nI (q)))]) (st2 := []) (pc2 := 0) rfl rfl ?_
              refine A_iincN (k' := 1) hg dX3_readOnly_58 (by decide) rfl (by decide) (q_c1d rfl) ?_
              refine A_eq (ls2 := [some (.ref (q_h G + 2)), some (.ref (q_h G + rb)), some (.int (nI (0))), some (.int (nI (q + 1)))]) (st2 := []) (pc2 := 0) rfl rfl ?_
              refine A_goto (tgt := 30) hg dX3_readOnly_61 (by decide) ?_
              refine A_iload_n hg dX3_readOnly_30 rfl rfl ?_
              refine A_bipush (v := (nI (8))) hg dX3_readOnly_31 (by decide) ?_
              refine A_icmp_gtN (tgt := 64) hg dX3_readOnly_33 (by omega) (by decide) (by decide) (fun c33 => ?_) (fun c33 => ?_)
              · skip
                refine A_iload_n hg dX3_readOnly_64 rfl rfl ?_
                rw [hQ]
                exact A_zreturn hg (by decide) (by decide) rfl rfl dX3_readOnly_65 ⟨rfl, Or.inl (⟨c_30, o_31, (kd2_32), (st2_33), (be2_34), (nu4), on1, rfl, (by rw [hRL, show 10 - q = (9 - q) + 1 by omega, rd_oL_e hkq hR54]), (by assumption), hc_36, hc_37, hc_44, (fun i hi => ((hf_38 i (by omega)).trans (hf_29 i (by omega))))⟩)⟩
              · skip
                refine A_iload_n hg dX3_readOnly_36 rfl rfl ?_
                refine A_if_eqN (tgt := 64) hg dX3_readOnly_37 (by decide) (by decide) (fun c37 => ?_) (fun c37 => absurd (by decide) c37)
                refine A_iload_n hg dX3_readOnly_64 rfl rfl ?_
                rw [hQ]
                exact A_zreturn hg (by decide) (by decide) rfl rfl dX3_readOnly_65 ⟨rfl, Or.inl (⟨c_30, o_31, (kd2_32), (st2_33), (be2_34), (nu4), on1, rfl, (by rw [hRL, show 10 - q = (9 - q) + 1 by omega, rd_oL_e hkq hR54]), (by assumption), hc_36, hc_37, hc_44, (fun i hi => ((hf_38 i (by omega)).trans (hf_29 i (by omega))))⟩)⟩
            · skip
              refine (?_ : AJ G K Q 0 0 ex n 57 [some (.ref (q_h G + 2)), some (.ref (q_h G + rb)), some (.int (nI (1))), some (.int (nI (q)))] [.int (nI (1))] σ_42)
              have hc_45 : σ_42 2 = o3 G (2) (nI (ft)) (nI (0)) (q_d (0)) := (hf_41 _ (by omega)).trans hc_25
              have hc_46 : σ_42 1 = q_an G 600 f := (hf_41 _ (by omega)).trans hc_26
              refine A_istore_n hg dX3_readOnly_57 rfl (by decide) (q_c1d rfl) ?_
              refine A_eq (ls2 := [some (.ref (q_h G + 2)), some (.ref (q_h G + rb)), some (.int (nI (1))), some (.int (nI (q)))]) (st2 := []) (pc2 := 0) rfl rfl ?_
              refine A_iincN (k' := 1) hg dX3_readOnly_58 (by decide) rfl (by decide) (q_c1d rfl) ?_
              refine A_eq (ls2 := [some (.ref (q_h G + 2)), some (.ref (q_h G + rb)), some (.int (nI (1))), some (.int (nI (q + 1)))]) (st2 := []) (pc2 := 0) rfl rfl ?_
              refine A_goto (tgt := 30) hg dX3_readOnly_61 (by decide) ?_
              exact ih30 (q + 1) g2 t3 nu4 on3 σ_42 hc_45 hc_46 hc_39 hc_40 (fun i hi => ((hf_41 i (by omega)).trans (hf_29 i (by omega)))) (by omega) (by rw [hRL, show 10 - q = (9 - q) + 1 by omega, rd_oL_s hkq hR54]; congr 1; omega) hon3 hos3 h93 (fun j hj => (hsm3 j hj).trans (hsm1 j hj)) htm3 hnu4 (by omega)
      exact hL30 _ 1 g2 t3 nu4 on3 σ_19 hc_22 hc_23 hc_16 hc_17 (fun i hi => ((hf_18 i (by omega)).trans (hf_2 i (by omega)))) (by omega) (rd_o_2 hw9 ht2 hR24) hon3 hos3 h93 hsm3 htm3 hnu4 (Nat.lt_succ_self _)
  · skip
    refine A_iconst (v := (nI (1))) hg dX3_readOnly_12 (by decide) ?_
    rw [hQ]
    exact A_zreturn hg (by decide) (by decide) rfl rfl dX3_readOnly_13 ⟨rfl, Or.inr (Or.inl (⟨g, t, nu, on, rfl, (by unfold rd_o; rw [if_neg (by rw [c9]; decide)]), hon, hos, (fun _ _ => rfl), ht9, hnu, hc1, hc3, (fun _ _ => rfl)⟩))⟩
end
