section
set_option maxRecDepth 100000 in
set_option maxHeartbeats 4000000 in
theorem c_X11_takesNumber (G : GL) (ex : Bool) (n : Nat) (σ : Nat → va_E) (F : Nat → Int32) (f : Nat → Nat) (m : Nat) (t : Nat) (lo : Nat) (hi : Nat) (hc0 : σ 279 = o11 G F) (hc1 : σ 292 = q_an G 600 f) (hn : 294 ≤ n) (hF21 : F 21 = nI m) (hm : m ≤ 600) (hbb : ∀ k : Nat, s_byte f m k ≤ 256) (htm : t ≤ m) (hF24 : F 24 = nI 0) (hF26 : F 26 = nI (tk_be f m t)) (hF27 : F 27 = nI t) (hF28 : F 28 = nI (tk_vl f m t)) (hF30 : F 30 = nI (tk_kd f m t)) (hlo9 : lo < 2 ^ 31) (hhi9 : hi < 2 ^ 31) : Ct G yX11_takesNumber cX11_takesNumber 3 (some .boolean) ⟨3, 0, 0, 64⟩ [.ref (q_h G + 279), .int (nI (lo)), .int (nI (hi))] ex n σ (fun v9 σ2 => (v9 = some (.int (nI (0))) ∧ (¬ tk_nc f m t lo hi = 0) ∧ σ2 279 = o11 G (upd (upd F 24 (nI (tk_nc f m t lo hi))) 25 (nI (t))) ∧ (∀ i : Nat, i ≠ 279 → σ2 i = σ i)) ∨ (∃ (F' : Nat → Int32), ∃ (t' : Nat), v9 = some (.int (nI (1))) ∧ (t' = tk_nx f m t) ∧ (t' ≤ m) ∧ (∀ j : Nat, j ≠ 26 ∧ j ≠ 27 ∧ j ≠ 28 ∧ j ≠ 30 ∧ j ≠ 31 → F' j = F j) ∧ (F' 26 = nI (tk_be f m t')) ∧ (F' 27 = nI t') ∧ (F' 28 = nI (tk_vl f m t')) ∧ (F' 30 = nI (tk_kd f m t')) ∧ (F' 31 = nI (tk_vl f m t)) ∧ (tk_nc f m t lo hi = 0) ∧ σ2 279 = o11 G F' ∧ (∀ i : Nat, i ≠ 279 → σ2 i = σ i))) := by
  refine q_enter [some (.ref (q_h G + 279)), some (.int (nI (lo))), some (.int (nI (hi)))] (by decide) (Nat.le_of_ble_eq_true rfl) rfl ?_
  intro K hg
  obtain ⟨Q, hQ⟩ : ∃ Q, Q = q_Q G K ex n 0 0 (fun v9 n' σ' => n' = n ∧ (fun v9 σ2 => (v9 = some (.int (nI (0))) ∧ (¬ tk_nc f m t lo hi = 0) ∧ σ2 279 = o11 G (upd (upd F 24 (nI (tk_nc f m t lo hi))) 25 (nI (t))) ∧ (∀ i : Nat, i ≠ 279 → σ2 i = σ i)) ∨ (∃ (F' : Nat → Int32), ∃ (t' : Nat), v9 = some (.int (nI (1))) ∧ (t' = tk_nx f m t) ∧ (t' ≤ m) ∧ (∀ j : Nat, j ≠ 26 ∧ j ≠ 27 ∧ j ≠ 28 ∧ j ≠ 30 ∧ j ≠ 31 → F' j = F j) ∧ (F' 26 = nI (tk_be f m t')) ∧ (F' 27 = nI t') ∧ (F' 28 = nI (tk_vl f m t')) ∧ (F' 30 = nI (tk_kd f m t')) ∧ (F' 31 = nI (tk_vl f m t)) ∧ (tk_nc f m t lo hi = 0) ∧ σ2 279 = o11 G F' ∧ (∀ i : Nat, i ≠ 279 → σ2 i = σ i))) v9 σ') q_noX := ⟨_, rfl⟩
  refine (?_ : AJ G K (q_Q G K ex n 0 0 _ _) 0 0 ex n 0 _ _ σ)
  rw [← hQ]
  have hbl := tk_be_le (f := f) htm
  have hbg := tk_be_ge (f := f) (m := m) (t := t)
  have hkd := tk_kd_lt f m t
  have hvl := tk_vl_lt f m t
  refine A_aload_n hg dX11_takesNumber_0 rfl rfl ?_
  refine A_iload_n hg dX11_takesNumber_1 rfl rfl ?_
  refine A_iload_n hg dX11_takesNumber_2 rfl rfl ?_
  refine A_hV (kc2 := 0) (ks2 := 0) (As := [.int (nI (lo)), .int (nI (hi))]) (rest := []) hg lk_RX11_298 in_X11_seesNumber se_X11_seesNumber rfl dX11_takesNumber_3 ⟨by decide, by decide⟩ rfl rfl ⟨by decide, by decide⟩ hc0 (by omega) rfl rfl (Nat.le_of_ble_eq_true rfl) (c_X11_seesNumber G ex n σ F f m t lo hi hc0 (by omega) hF21 (by omega) hbb (by omega) hF24 hF26 hF27 hF28 hF30 (by omega) (by omega)) ?_
  rintro _ σ_5 (⟨rfl, hc0, hc_1, hf_2⟩ | ⟨rfl, hc0, hc_3, hf_4⟩)
  · skip
    refine (?_ : AJ G K Q 0 0 ex n 6 [some (.ref (q_h G + 279)), some (.int (nI (lo))), some (.int (nI (hi)))] [.int (nI (0))] σ_5)
    have hc_1 : σ_5 279 = o11 G (upd (upd F 24 (nI (tk_nc f m t lo hi))) 25 (nI (t))) := hc_1
    have hc_6 : σ_5 292 = q_an G 600 f := (hf_2 _ (by omega)).trans hc1
    refine A_if_neN (tgt := 11) hg dX11_takesNumber_6 (by decide) (by decide) (fun c6 => absurd (by decide) c6) (fun c6 => ?_)
    refine A_iconst (v := (nI (0))) hg dX11_takesNumber_9 (by decide) ?_
    rw [hQ]
    exact A_zreturn hg (by decide) (by decide) rfl rfl dX11_takesNumber_10 ⟨rfl, Or.inl (⟨rfl, hc0, hc_1, (fun i hi => (hf_2 i (by omega)))⟩)⟩
  · skip
    refine (?_ : AJ G K Q 0 0 ex n 6 [some (.ref (q_h G + 279)), some (.int (nI (lo))), some (.int (nI (hi)))] [.int (nI (1))] σ_5)
    have hc_3 : σ_5 279 = o11 G (upd F 31 (nI (tk_vl f m t))) := hc_3
    have hc_7 : σ_5 292 = q_an G 600 f := (hf_4 _ (by omega)).trans hc1
    refine A_if_neN (tgt := 11) hg dX11_takesNumber_6 (by decide) (by decide) (fun c6 => ?_) (fun c6 => absurd c6 (by decide))
    refine A_aload_n hg dX11_takesNumber_11 rfl rfl ?_
    refine A_vV (kc2 := 0) (ks2 := 0) (As := []) (rest := []) hg lk_RX11_301 in_X11_advanceToken se_X11_advanceToken rfl dX11_takesNumber_12 ⟨by decide, by decide⟩ rfl rfl ⟨by decide, by decide⟩ hc_3 (by omega) rfl rfl (Nat.le_of_ble_eq_true rfl) (c_X11_advanceToken G ex n σ_5 (upd F 31 (nI (tk_vl f m t))) f m (tk_be f m t) hc_3 hc_7 (by omega) hF21 (by omega) hbb (tk_be_le htm) hF26) ?_
    rintro σ_10 ⟨F_t2, t2, ht_t2, htm_t2, hfr_t2, h26_t2, h27_t2, h28_t2, h30_t2, hc_8, hf_9⟩
    have hc_11 : σ_10 292 = q_an G 600 f := (hf_9 _ (by omega)).trans hc_7
    refine A_iconst (v := (nI (1))) hg dX11_takesNumber_15 (by decide) ?_
    rw [hQ]
    exact A_zreturn hg (by decide) (by decide) rfl rfl dX11_takesNumber_16 ⟨rfl, Or.inr ((⟨F_t2, t2, rfl, ht_t2, htm_t2, (fun j hj => ((hfr_t2 j (by omega)).trans (q_upn (by omega)))), h26_t2, h27_t2, h28_t2, h30_t2, ((hfr_t2 31 (by decide)).trans rfl), hc0, hc_8, (fun i hi => ((hf_9 i (by omega)).trans (hf_4 i (by omega))))⟩))⟩
set_option maxRecDepth 100000 in
set_option maxHeartbeats 4000000 in
theorem c_X11_seesName (G : GL) (ex : Bool) (n : Nat) (σ : Nat → va_E) (F : Nat → Int32) (f : Nat → Nat) (m : Nat) (t : Nat) (hc0 : σ 279 = o11 G F) (hn : 294 ≤ n) (hF21 : F 21 = nI m) (hm : m ≤ 600) (hbb : ∀ k : Nat, s_byte f m k ≤ 256) (htm : t ≤ m) (hF24 : F 24 = nI 0) (hF26 : F 26 = nI (tk_be f m t)) (hF27 : F 27 = nI t) (hF28 : F 28 = nI (tk_vl f m t)) (hF30 : F 30 = nI (tk_kd f m t)) : Ct G yX11_seesName cX11_seesName 1 (some .boolean) ⟨1, 0, 0, 21⟩ [.ref (q_h G + 279)] ex n σ (fun v9 σ2 => (v9 = some (.int (nI (0))) ∧ (tk_nm f m t = false) ∧ σ2 279 = o11 G (upd (upd F 24 (nI (1))) 25 (nI (t))) ∧ (∀ i : Nat, i ≠ 279 → σ2 i = σ i)) ∨ (v9 = some (.int (nI (1))) ∧ (tk_nm f m t = true) ∧ σ2 = σ)) := by
  refine q_enter [some (.ref (q_h G + 279))] (by decide) (Nat.le_of_ble_eq_true rfl) rfl ?_
  intro K hg
  obtain ⟨Q, hQ⟩ : ∃ Q, Q = q_Q G K ex n 0 0 (fun v9 n' σ' => n' = n ∧ (fun v9 σ2 => (v9 = some (.int (nI (0))) ∧ (tk_nm f m t = false) ∧ σ2 279 = o11 G (upd (upd F 24 (nI (1))) 25 (nI (t))) ∧ (∀ i : Nat, i ≠ 279 → σ2 i = σ i)) ∨ (v9 = some (.int (nI (1))) ∧ (tk_nm f m t = true) ∧ σ2 = σ)) v9 σ') q_noX := ⟨_, rfl⟩
  refine (?_ : AJ G K (q_Q G K ex n 0 0 _ _) 0 0 ex n 0 _ _ σ)
  rw [← hQ]
  have hbl := tk_be_le (f := f) htm
  have hbg := tk_be_ge (f := f) (m := m) (t := t)
  have hkd := tk_kd_lt f m t
  have hvl := tk_vl_lt f m t
  refine A_aload_n hg dX11_seesName_0 rfl rfl ?_
  refine A_getf (v := .int (nI (tk_kd f m t))) hg fl_RX11_271 dX11_seesName_1 hc0 (by omega) (congrArg (fun z => some (Value.int z)) hF30) ?_
  refine A_iconst (v := (nI (1))) hg dX11_seesName_4 (by decide) ?_
  refine A_icmp_neN (tgt := 22) hg dX11_seesName_5 (by omega) (by decide) (by decide) (fun c5 => ?_) (fun c5 => ?_)
  · skip
    refine A_aload_n hg dX11_seesName_22 rfl rfl ?_
    refine A_iconst (v := (nI (1))) hg dX11_seesName_23 (by decide) ?_
    refine A_hV (kc2 := 0) (ks2 := 0) (As := [.int (nI (1))]) (rest := []) hg lk_RX11_292 in_X11_failsAt se_X11_failsAt rfl dX11_seesName_24 ⟨by decide, by decide⟩ rfl rfl ⟨by decide, by decide⟩ hc0 (by omega) rfl rfl (Nat.le_of_ble_eq_true rfl) (c_X11_failsAt G ex n σ F t 1 hc0 (by omega) hF24 hF27) ?_
    rintro _ σ_3 ⟨rfl, hc_1, hf_2⟩
    refine (?_ : AJ G K Q 0 0 ex n 27 [some (.ref (q_h G + 279))] [.int (nI (0))] σ_3)
    have hc_1 : σ_3 279 = o11 G (upd (upd F 24 (nI (1))) 25 (nI (t))) := hc_1
    refine A_if_eqN (tgt := 34) hg dX11_seesName_27 (by decide) (by decide) (fun c27 => ?_) (fun c27 => absurd (by decide) c27)
    refine A_iconst (v := (nI (0))) hg dX11_seesName_34 (by decide) ?_
    rw [hQ]
    exact A_zreturn hg (by decide) (by decide) rfl rfl dX11_seesName_35 ⟨rfl, Or.inl (⟨rfl, (tk_nm_f (by first | exact fun z => c5 z.1 | exact fun z => c19 z.2)), hc_1, (fun i hi => (hf_2 i (by omega)))⟩)⟩
  · skip
    refine A_aload_n hg dX11_seesName_8 rfl rfl ?_
    refine A_getf (v := .int (nI (tk_be f m t))) hg fl_RX11_262 dX11_seesName_9 hc0 (by omega) (congrArg (fun z => some (Value.int z)) hF26) ?_
    refine A_aload_n hg dX11_seesName_12 rfl rfl ?_
    refine A_getf (v := .int (nI (t))) hg fl_RX11_265 dX11_seesName_13 hc0 (by omega) (congrArg (fun z => some (Value.int z)) hF27) ?_
    refine A_isubN hg dX11_seesName_16 (by omega) ?_
    refine A_bipush (v := (nI (8))) hg dX11_seesName_17 (by decide) ?_
    refine A_icmp_leN (tgt := 30) hg dX11_seesName_19 (by omega) (by decide) (by decide) (fun c19 => ?_) (fun c19 => ?_)
    · skip
      refine A_iconst (v := (nI (1))) hg dX11_seesName_30 (by decide) ?_
      refine A_goto (tgt := 35) hg dX11_seesName_31 (by decide) ?_
      rw [hQ]
      exact A_zreturn hg (by decide) (by decide) rfl rfl dX11_seesName_35 ⟨rfl, Or.inr ((⟨rfl, (decide_eq_true ⟨c5, c19⟩), rfl⟩))⟩
    · skip
      refine A_aload_n hg dX11_seesName_22 rfl rfl ?_
      refine A_iconst (v := (nI (1))) hg dX11_seesName_23 (by decide) ?_
      refine A_hV (kc2 := 0) (ks2 := 0) (As := [.int (nI (1))]) (rest := []) hg lk_RX11_292 in_X11_failsAt se_X11_failsAt rfl dX11_seesName_24 ⟨by decide, by decide⟩ rfl rfl ⟨by decide, by decide⟩ hc0 (by omega) rfl rfl (Nat.le_of_ble_eq_true rfl) (c_X11_failsAt G ex n σ F t 1 hc0 (by omega) hF24 hF27) ?_
      rintro _ σ_6 ⟨rfl, hc_4, hf_5⟩
      refine (?_ : AJ G K Q 0 0 ex n 27 [some (.ref (q_h G + 279))] [.int (nI (0))] σ_6)
      have hc_4 : σ_6 279 = o11 G (upd (upd F 24 (nI (1))) 25 (nI (t))) := hc_4
      refine A_if_eqN (tgt := 34) hg dX11_seesName_27 (by decide) (by decide) (fun c27 => ?_) (fun c27 => absurd (by decide) c27)
      refine A_iconst (v := (nI (0))) hg dX11_seesName_34 (by decide) ?_
      rw [hQ]
      exact A_zreturn hg (by decide) (by decide) rfl rfl dX11_seesName_35 ⟨rfl, Or.inl (⟨rfl, (tk_nm_f (by first | exact fun z => c5 z.1 | exact fun z => c19 z.2)), hc_4, (fun i hi => (hf_5 i (by omega)))⟩)⟩
set_option maxRecDepth 100000 in
set_option maxHeartbeats 4000000 in
theorem c_X11_isWord (G : GL) (ex : Bool) (n : Nat) (σ : Nat → va_E) (F : Nat → Int32) (f : Nat → Nat) (m : Nat) (t : Nat) (a : Nat) (bs : List Nat) (hc0 : σ 279 = o11 G F) (hc1 : σ 292 = q_an G 600 f) (hn : 294 ≤ n) (hF21 : F 21 = nI m) (hm : m ≤ 600) (hbb : ∀ k : Nat, s_byte f m k ≤ 256) (htm : t ≤ m) (hF24 : F 24 = nI 0) (hF26 : F 26 = nI (tk_be f m t)) (hF27 : F 27 = nI t) (hF28 : F 28 = nI (tk_vl f m t)) (hF30 : F 30 = nI (tk_kd f m t)) (hs : q_st G a bs) : Ct G yX11_isWord cX11_isWord 3 (some .boolean) ⟨4, 0, 0, 85⟩ [.ref (q_h G + 279), .ref (a)] ex n σ (fun v9 σ2 => σ2 = σ ∧ v9 = some (.int (q_b (tk_wd f m t bs)))) := by
  refine q_enter [some (.ref (q_h G + 279)), some (.ref (a)), none] (by decide) (Nat.le_of_ble_eq_true rfl) rfl ?_
  intro K hg
  obtain ⟨Q, hQ⟩ : ∃ Q, Q = q_Q G K ex n 0 0 (fun v9 n' σ' => n' = n ∧ (fun v9 σ2 => σ2 = σ ∧ v9 = some (.int (q_b (tk_wd f m t bs)))) v9 σ') q_noX := ⟨_, rfl⟩
  refine (?_ : AJ G K (q_Q G K ex n 0 0 _ _) 0 0 ex n 0 _ _ σ)
  rw [← hQ]
  have hbl := tk_be_le (f := f) htm
  have hbg := tk_be_ge (f := f) (m := m) (t := t)
  have hkd := tk_kd_lt f m t
  have hvl := tk_vl_lt f m t
  have hbs := hs.2.1
  refine A_aload_n hg dX11_isWord_0 rfl rfl ?_
  refine A_getf (v := .int (nI (tk_kd f m t))) hg fl_RX11_271 dX11_isWord_1 hc0 (by omega) (congrArg (fun z => some (Value.int z)) hF30) ?_
  refine A_iconst (v := (nI (1))) hg dX11_isWord_4 (by decide) ?_
  refine A_icmp_neN (tgt := 24) hg dX11_isWord_5 (by omega) (by decide) (by decide) (fun c5 => ?_) (fun c5 => ?_)
  · skip
    refine A_iconst (v := (nI (0))) hg dX11_isWord_24 (by decide) ?_
    rw [hQ]
    exact A_zreturn hg (by decide) (by decide) rfl rfl dX11_isWord_25 ⟨rfl, ⟨rfl, (q_rf (tk_wd_f1 (by first | exact fun z => c5 z.1 | exact fun z => c21 z.2)))⟩⟩
  · skip
    refine A_aload_n hg dX11_isWord_8 rfl rfl ?_
    refine A_getf (v := .int (nI (tk_be f m t))) hg fl_RX11_262 dX11_isWord_9 hc0 (by omega) (congrArg (fun z => some (Value.int z)) hF26) ?_
    refine A_aload_n hg dX11_isWord_12 rfl rfl ?_
    refine A_getf (v := .int (nI (t))) hg fl_RX11_265 dX11_isWord_13 hc0 (by omega) (congrArg (fun z => some (Value.int z)) hF27) ?_
    refine A_isubN hg dX11_isWord_16 (by omega) ?_
    refine A_aload_n hg dX11_isWord_17 rfl rfl ?_
    refine A_eVO (kc2 := 0) (ks2 := 0) (As := []) (rest := [.int (nI ((tk_be f m t) - t))]) hg lk_RX11_283 in_J0_length_8abf5 se_J0_length_8abf5 dX11_isWord_18 ⟨by decide, by decide⟩ rfl rfl ⟨by decide, by decide⟩ (q_st_O hs) rfl rfl (Nat.le_of_ble_eq_true rfl) (c_J0_length G ex n σ a bs hs) ?_
    refine A_icmp_eqN (tgt := 26) hg dX11_isWord_21 (by omega) (by omega) (by decide) (fun c21 => ?_) (fun c21 => ?_)
    · skip
      refine A_iconst (v := (nI (0))) hg dX11_isWord_26 (by decide) ?_
      refine A_istore_n hg dX11_isWord_27 rfl (by decide) (q_c1d rfl) ?_
      refine A_eq (ls2 := [some (.ref (q_h G + 279)), some (.ref (a)), some (.int (nI (0)))]) (st2 := []) (pc2 := 0) rfl rfl ?_
      have hL28 : ∀ (fu : Nat) (k : Nat), (k ≤ bs.length) → (∀ j : Nat, j < k → f (t + j) = bs.getD j 0) → (bs.length - k) < fu → AJ G K Q 0 0 ex n 28 [some (.ref (q_h G + 279)), some (.ref (a)), some (.int (nI (k)))] [] σ := by
        intro fu
        induction fu with
        | zero => intro k hk hno hm; exact absurd hm (Nat.not_lt_zero _)
        | succ fu ih28 =>
          intro k hk hno hm28
          refine A_iload_n hg dX11_isWord_28 rfl rfl ?_
          refine A_aload_n hg dX11_isWord_29 rfl rfl ?_
          refine A_eVO (kc2 := 0) (ks2 := 0) (As := []) (rest := [.int (nI (k))]) hg lk_RX11_283 in_J0_length_8abf5 se_J0_length_8abf5 dX11_isWord_30 ⟨by decide, by decide⟩ rfl rfl ⟨by decide, by decide⟩ (q_st_O hs) rfl rfl (Nat.le_of_ble_eq_true rfl) (c_J0_length G ex n σ a bs hs) ?_
          refine A_icmp_geN (tgt := 63) hg dX11_isWord_33 (by omega) (by omega) (by decide) (fun c33 => ?_) (fun c33 => ?_)
          · skip
            refine A_iconst (v := (nI (1))) hg dX11_isWord_63 (by decide) ?_
            rw [hQ]
            exact A_zreturn hg (by decide) (by decide) rfl rfl dX11_isWord_64 ⟨rfl, ⟨rfl, (q_rt (tk_wd_t c5 c21 (fun j hj => hno j (by omega))))⟩⟩
          · skip
            refine A_aload_n hg dX11_isWord_36 rfl rfl ?_
            refine A_getf (v := .ref (q_h G + 292)) hg fl_RX11_47 dX11_isWord_37 hc0 (by omega) rfl ?_
            refine A_aload_n hg dX11_isWord_40 rfl rfl ?_
            refine A_getf (v := .int (nI (t))) hg fl_RX11_265 dX11_isWord_41 hc0 (by omega) (congrArg (fun z => some (Value.int z)) hF27) ?_
            refine A_iload_n hg dX11_isWord_44 rfl rfl ?_
            refine A_iaddN hg dX11_isWord_45 ?_
            have hb9 := hs.2.2 k
            have hf9 := tk_fb hbb (show t + k < m by omega)
            refine A_iald (j := (t + k)) hg dX11_isWord_46 hc1 (by omega) (by omega) (by decide) ?_
            refine A_aload_n hg dX11_isWord_47 rfl rfl ?_
            refine A_iload_n hg dX11_isWord_48 rfl rfl ?_
            refine A_eVO (kc2 := 0) (ks2 := 0) (As := [.int (nI (k))]) (rest := [.int (nI (f (t + k)))]) hg lk_RX11_288 in_J0_charAt_5068e se_J0_charAt_5068e dX11_isWord_49 ⟨by decide, by decide⟩ rfl rfl ⟨by decide, by decide⟩ (q_st_O hs) rfl rfl (Nat.le_of_ble_eq_true rfl) (c_J0_charAt G ex n σ a bs k hs (by omega)) ?_
            refine A_icmp_eqN (tgt := 57) hg dX11_isWord_52 (by omega) (by omega) (by decide) (fun c52 => ?_) (fun c52 => ?_)
            · skip
              refine A_iincN (k' := 1) hg dX11_isWord_57 (by decide) rfl (by decide) (q_c1d rfl) ?_
              refine A_eq (ls2 := [some (.ref (q_h G + 279)), some (.ref (a)), some (.int (nI (k + 1)))]) (st2 := []) (pc2 := 0) rfl rfl ?_
              refine A_goto (tgt := 28) hg dX11_isWord_60 (by decide) ?_
              exact ih28 (k + 1) (by omega) (lt_s hno c52) (by omega)
            · skip
              refine A_iconst (v := (nI (0))) hg dX11_isWord_55 (by decide) ?_
              rw [hQ]
              exact A_zreturn hg (by decide) (by decide) rfl rfl dX11_isWord_56 ⟨rfl, ⟨rfl, (q_rf (tk_wd_f2 k (by omega) c52))⟩⟩
      exact hL28 _ 0 (Nat.zero_le _) (fun j h => absurd h (Nat.not_lt_zero j)) (Nat.lt_succ_self _)
    · skip
      refine A_iconst (v := (nI (0))) hg dX11_isWord_24 (by decide) ?_
      rw [hQ]
      exact A_zreturn hg (by decide) (by decide) rfl rfl dX11_isWord_25 ⟨rfl, ⟨rfl, (q_rf (tk_wd_f1 (by first | exact fun z => c5 z.1 | exact fun z => c21 z.2)))⟩⟩
set_option maxRecDepth 100000 in
set_option maxHeartbeats 4000000 in
theorem c_X11_isNameOf (G : GL) (ex : Bool) (n : Nat) (σ : Nat → va_E) (F : Nat → Int32) (g : Nat → Nat) (f : Nat → Nat) (m : Nat) (t : Nat) (r : Nat) (hc0 : σ 279 = o11 G F) (hc1 : σ 292 = q_an G 600 f) (hc2 : σ 280 = q_an G 265 g) (hn : 294 ≤ n) (hF21 : F 21 = nI m) (hm : m ≤ 600) (hbb : ∀ k : Nat, s_byte f m k ≤ 256) (htm : t ≤ m) (hF24 : F 24 = nI 0) (hF26 : F 26 = nI (tk_be f m t)) (hF27 : F 27 = nI t) (hF28 : F 28 = nI (tk_vl f m t)) (hF30 : F 30 = nI (tk_kd f m t)) (hr : r < 4) (hgv : ∀ i : Nat, g i < 2 ^ 31) (hnm : tk_nm f m t = true) : Ct G yX11_isNameOf cX11_isNameOf 4 (some .boolean) ⟨0, 0, 0, 0⟩ [.ref (q_h G + 279), .int (nI (r))] ex n σ (fun v9 σ2 => σ2 = σ ∧ v9 = some (.int (q_b (s_nmeq f m g t r)))) := by
  refine q_enter [some (.ref (q_h G + 279)), some (.int (nI (r))), none, none] (by decide) (Nat.le_of_ble_eq_true rfl) rfl ?_
  intro K hg
  obtain ⟨Q, hQ⟩ : ∃ Q, Q = q_Q G K ex n 0 0 (fun v9 n' σ' => n' = n ∧ (fun v9 σ2 => σ2 = σ ∧ v9 = some (.int (q_b (s_nmeq f m g t r)))) v9 σ') q_noX := ⟨_, rfl⟩
  refine (?_ : AJ G K (q_Q G K ex n 0 0 _ _) 0 0 ex n 0 _ _ σ)
  rw [← hQ]
  have hbl := tk_be_le (f := f) htm
  have hbg := tk_be_ge (f := f) (m := m) (t := t)
  have hkd := tk_kd_lt f m t
  have hvl := tk_vl_lt f m t
  have hn1 : tk_kd f m t = 1 ∧ tk_be f m t - t ≤ 8 := of_decide_eq_true hnm
  refine A_bipush (v := (nI (17))) hg dX11_isNameOf_0 (by decide) ?_
  refine A_bipush (v := (nI (29))) hg dX11_isNameOf_2 (by decide) ?_
  refine A_iload_n hg dX11_isNameOf_4 rfl rfl ?_
  refine A_imulN hg dX11_isNameOf_5 ?_
  refine A_iaddN hg dX11_isNameOf_6 ?_
  refine A_istore_n hg dX11_isNameOf_7 rfl (by decide) (q_c1d rfl) ?_
  refine A_eq (ls2 := [some (.ref (q_h G + 279)), some (.int (nI (r))), some (.int (nI (17 + (29 * r)))), none]) (st2 := []) (pc2 := 0) rfl rfl ?_
  refine A_aload_n hg dX11_isNameOf_8 rfl rfl ?_
  refine A_getf (v := .ref (q_h G + 280)) hg fl_RX11_7 dX11_isNameOf_9 hc0 (by omega) rfl ?_
  refine A_iload_n hg dX11_isNameOf_12 rfl rfl ?_
  refine A_iald (j := (17 + (29 * r))) hg dX11_isNameOf_13 hc2 (by omega) (by omega) (by decide) ?_
  refine A_aload_n hg dX11_isNameOf_14 rfl rfl ?_
  refine A_getf (v := .int (nI (tk_be f m t))) hg fl_RX11_262 dX11_isNameOf_15 hc0 (by omega) (congrArg (fun z => some (Value.int z)) hF26) ?_
  refine A_aload_n hg dX11_isNameOf_18 rfl rfl ?_
  refine A_getf (v := .int (nI (t))) hg fl_RX11_265 dX11_isNameOf_19 hc0 (by omega) (congrArg (fun z => some (Value.int z)) hF27) ?_
  refine A_isubN hg dX11_isNameOf_22 (by omega) ?_
  refine A_icmp_eqN (tgt := 28) hg dX11_isNameOf_23 (by first | omega | exact hgv _) (by first | omega | exact hgv _) (by decide) (fun c23 => ?_) (fun c23 => ?_)
  · skip
    refine A_iconst (v := (nI (0))) hg dX11_isNameOf_28 (by decide) ?_
    refine A_istore_n hg dX11_isNameOf_29 rfl (by decide) (q_c1d rfl) ?_
    refine A_eq (ls2 := [some (.ref (q_h G + 279)), some (.int (nI (r))), some (.int (nI (17 + (29 * r)))), some (.int (nI (0)))]) (st2 := []) (pc2 := 0) rfl rfl ?_
    have hL30 : ∀ (fu : Nat) (k : Nat), (k ≤ tk_be f m t - t) → (∀ j : Nat, j < k → g (17 + 29 * r + 1 + j) = f (t + j) - 97 + 1) → (tk_be f m t - t - k) < fu → AJ G K Q 0 0 ex n 30 [some (.ref (q_h G + 279)), some (.int (nI (r))), some (.int (nI (17 + (29 * r)))), some (.int (nI (k)))] [] σ := by
      intro fu
      induction fu with
      | zero => intro k hk hno hm; exact absurd hm (Nat.not_lt_zero _)
      | succ fu ih30 =>
        intro k hk hno hm30
        refine A_iload_n hg dX11_isNameOf_30 rfl rfl ?_
        refine A_aload_n hg dX11_isNameOf_31 rfl rfl ?_
        refine A_getf (v := .ref (q_h G + 280)) hg fl_RX11_7 dX11_isNameOf_32 hc0 (by omega) rfl ?_
        refine A_iload_n hg dX11_isNameOf_35 rfl rfl ?_
        refine A_iald (j := (17 + (29 * r))) hg dX11_isNameOf_36 hc2 (by omega) (by omega) (by decide) ?_
        refine A_icmp_geN (tgt := 77) hg dX11_isNameOf_37 (by first | omega | exact hgv _) (by first | omega | exact hgv _) (by decide) (fun c37 => ?_) (fun c37 => ?_)
        · skip
          refine A_iconst (v := (nI (1))) hg dX11_isNameOf_77 (by decide) ?_
          rw [hQ]
          exact A_zreturn hg (by decide) (by decide) rfl rfl dX11_isNameOf_78 ⟨rfl, ⟨rfl, (q_rt (s_nmeq_t c23 (fun j hj => hno j (by omega))))⟩⟩
        · skip
          refine A_aload_n hg dX11_isNameOf_40 rfl rfl ?_
          refine A_getf (v := .ref (q_h G + 280)) hg fl_RX11_7 dX11_isNameOf_41 hc0 (by omega) rfl ?_
          refine A_iload_n hg dX11_isNameOf_44 rfl rfl ?_
          refine A_iconst (v := (nI (1))) hg dX11_isNameOf_45 (by decide) ?_
          refine A_iaddN hg dX11_isNameOf_46 ?_
          refine A_iload_n hg dX11_isNameOf_47 rfl rfl ?_
          refine A_iaddN hg dX11_isNameOf_48 ?_
          refine A_iald (j := (((17 + (29 * r)) + 1) + k)) hg dX11_isNameOf_49 hc2 (by omega) (by omega) (by decide) ?_
          refine A_aload_n hg dX11_isNameOf_50 rfl rfl ?_
          refine A_getf (v := .ref (q_h G + 292)) hg fl_RX11_47 dX11_isNameOf_51 hc0 (by omega) rfl ?_
          refine A_aload_n hg dX11_isNameOf_54 rfl rfl ?_
          refine A_getf (v := .int (nI (t))) hg fl_RX11_265 dX11_isNameOf_55 hc0 (by omega) (congrArg (fun z => some (Value.int z)) hF27) ?_
          refine A_iload_n hg dX11_isNameOf_58 rfl rfl ?_
          refine A_iaddN hg dX11_isNameOf_59 ?_
          have hl9 := tk_let_k2 hn1.1 k (by omega)
          refine A_iald (j := (t + k)) hg dX11_isNameOf_60 hc1 (by omega) (by omega) (by decide) ?_
          refine A_bipush (v := (nI (97))) hg dX11_isNameOf_61 (by decide) ?_
          refine A_isubN hg dX11_isNameOf_63 (by omega) ?_
          refine A_iconst (v := (nI (1))) hg dX11_isNameOf_64 (by decide) ?_
          refine A_iaddN hg dX11_isNameOf_65 ?_
          refine A_icmp_eqN (tgt := 71) hg dX11_isNameOf_66 (by first | omega | exact hgv _) (by first | omega | exact hgv _) (by decide) (fun c66 => ?_) (fun c66 => ?_)
          · skip
            refine A_iincN (k' := 1) hg dX11_isNameOf_71 (by decide) rfl (by decide) (q_c1d rfl) ?_
            refine A_eq (ls2 := [some (.ref (q_h G + 279)), some (.int (nI (r))), some (.int (nI (17 + (29 * r)))), some (.int (nI (k + 1)))]) (st2 := []) (pc2 := 0) rfl rfl ?_
            refine A_goto (tgt := 30) hg dX11_isNameOf_74 (by decide) ?_
            exact ih30 (k + 1) (by omega) (lt_s hno c66) (by omega)
          · skip
            refine A_iconst (v := (nI (0))) hg dX11_isNameOf_69 (by decide) ?_
            rw [hQ]
            exact A_zreturn hg (by decide) (by decide) rfl rfl dX11_isNameOf_70 ⟨rfl, ⟨rfl, (q_rf (s_nmeq_f2 k (by omega) c66))⟩⟩
    exact hL30 _ 0 (Nat.zero_le _) (fun j h => absurd h (Nat.not_lt_zero j)) (Nat.lt_succ_self _)
  · skip
    refine A_iconst (v := (nI (0))) hg dX11_isNameOf_26 (by decide) ?_
    rw [hQ]
    exact A_zreturn hg (by decide) (by decide) rfl rfl dX11_isNameOf_27 ⟨rfl, ⟨rfl, (q_rf (s_nmeq_f1 c23))⟩⟩
set_option maxRecDepth 100000 in
set_option maxHeartbeats 4000000 in
theorem c_X11_named (G : GL) (ex : Bool) (n : Nat) (σ : Nat → va_E) (F : Nat → Int32) (g : Nat → Nat) (f : Nat → Nat) (m : Nat) (t : Nat) (hc0 : σ 279 = o11 G F) (hc1 : σ 292 = q_an G 600 f) (hc2 : σ 280 = q_an G 265 g) (hn : 294 ≤ n) (hF21 : F 21 = nI m) (hm : m ≤ 600) (hbb : ∀ k : Nat, s_byte f m k ≤ 256) (htm : t ≤ m) (hF24 : F 24 = nI 0) (hF26 : F 26 = nI (tk_be f m t)) (hF27 : F 27 = nI t) (hF28 : F 28 = nI (tk_vl f m t)) (hF30 : F 30 = nI (tk_kd f m t)) (hg0 : g 0 ≤ 4) (hgv : ∀ i : Nat, g i < 2 ^ 31) (hnm : tk_nm f m t = true) : Ct G yX11_named cX11_named 2 (some .int) ⟨1, 0, 0, 23⟩ [.ref (q_h G + 279)] ex n σ (fun v9 σ2 => (v9 = some (.int (nI (s_nmi f m g t))) ∧ (s_nmi f m g t < g 0) ∧ σ2 = σ) ∨ (v9 = some (.int (q_d (0))) ∧ (¬ s_nmi f m g t < g 0) ∧ σ2 = σ)) := by
  refine q_enter [some (.ref (q_h G + 279)), none] (by decide) (Nat.le_of_ble_eq_true rfl) rfl ?_
  intro K hg
  obtain ⟨Q, hQ⟩ : ∃ Q, Q = q_Q G K ex n 0 0 (fun v9 n' σ' => n' = n ∧ (fun v9 σ2 => (v9 = some (.int (nI (s_nmi f m g t))) ∧ (s_nmi f m g t < g 0) ∧ σ2 = σ) ∨ (v9 = some (.int (q_d (0))) ∧ (¬ s_nmi f m g t < g 0) ∧ σ2 = σ)) v9 σ') q_noX := ⟨_, rfl⟩
  refine (?_ : AJ G K (q_Q G K ex n 0 0 _ _) 0 0 ex n 0 _ _ σ)
  rw [← hQ]
  refine A_iconst (v := (nI (0))) hg dX11_named_0 (by decide) ?_
  refine A_istore_n hg dX11_named_1 rfl (by decide) (q_c1d rfl) ?_
  refine A_eq (ls2 := [some (.ref (q_h G + 279)), some (.int (nI (0)))]) (st2 := []) (pc2 := 0) rfl rfl ?_
  have hL2 : ∀ (fu : Nat) (r : Nat), (r ≤ g 0) → (∀ j : Nat, j < r → s_nmeq f m g t j = false) → (g 0 - r) < fu → AJ G K Q 0 0 ex n 2 [some (.ref (q_h G + 279)), some (.int (nI (r)))] [] σ := by
    intro fu
    induction fu with
    | zero => intro r hr1 hno hm; exact absurd hm (Nat.not_lt_zero _)
    | succ fu ih2 =>
      intro r hr1 hno hm2
      refine A_iload_n hg dX11_named_2 rfl rfl ?_
      refine A_aload_n hg dX11_named_3 rfl rfl ?_
      refine A_getf (v := .ref (q_h G + 280)) hg fl_RX11_7 dX11_named_4 hc0 (by omega) rfl ?_
      refine A_iconst (v := (nI (0))) hg dX11_named_7 (by decide) ?_
      refine A_iald (j := 0) hg dX11_named_8 hc2 (by omega) (by omega) (by decide) ?_
      refine A_icmp_geN (tgt := 28) hg dX11_named_9 (by omega) (by omega) (by decide) (fun c9 => ?_) (fun c9 => ?_)
      · skip
        refine A_iconst (v := (q_d (0))) hg dX11_named_28 (by decide) ?_
        have hse : s_nmi f m g t = g 0 := s_first_none (fun j hj => hno j (by omega))
        rw [hQ]
        exact A_ireturn hg (by decide) (by decide) rfl dX11_named_29 ⟨rfl, Or.inr ((⟨rfl, (by rw [hse]; omega), rfl⟩))⟩
      · skip
        refine A_aload_n hg dX11_named_12 rfl rfl ?_
        refine A_iload_n hg dX11_named_13 rfl rfl ?_
        refine A_eV (kc2 := 0) (ks2 := 0) (As := [.int (nI (r))]) (rest := []) hg lk_RX11_304 in_X11_isNameOf se_X11_isNameOf rfl dX11_named_14 ⟨by decide, by decide⟩ rfl rfl ⟨by decide, by decide⟩ hc0 (by omega) rfl rfl (Nat.le_of_ble_eq_true rfl) (c_X11_isNameOf G ex n σ F g f m t r hc0 hc1 hc2 (by omega) hF21 (by omega) hbb (by omega) hF24 hF26 hF27 hF28 hF30 (by omega) hgv hnm) ?_
        refine A_if_eqB (tgt := 22) hg dX11_named_17 (by decide) (fun c17 => ?_) (fun c17 => ?_)
        · skip
          refine A_iincN (k' := 1) hg dX11_named_22 (by decide) rfl (by decide) (q_c1d rfl) ?_
          refine A_eq (ls2 := [some (.ref (q_h G + 279)), some (.int (nI (r + 1)))]) (st2 := []) (pc2 := 0) rfl rfl ?_
          refine A_goto (tgt := 2) hg dX11_named_25 (by decide) ?_
          exact ih2 (r + 1) (by omega) (lt_s hno c17) (by omega)
        · skip
          refine A_iload_n hg dX11_named_20 rfl rfl ?_
          have hse : s_nmi f m g t = r := s_first_eq (by omega) c17 hno
          rw [hQ]
          exact A_ireturn hg (by decide) (by decide) rfl dX11_named_21 ⟨rfl, Or.inl (⟨(congrArg (fun z => some (Value.int (nI z))) hse.symm), (by rw [hse]; omega), rfl⟩)⟩
  exact hL2 _ 0 (Nat.zero_le _) (fun j h => absurd h (Nat.not_lt_zero j)) (Nat.lt_succ_self _)
set_option maxRecDepth 100000 in
set_option maxHeartbeats 4000000 in
theorem c_X11_putsName (G : GL) (ex : Bool) (n : Nat) (σ : Nat → va_E) (F : Nat → Int32) (g : Nat → Nat) (f : Nat → Nat) (m : Nat) (t : Nat) (r : Nat) (hc0 : σ 279 = o11 G F) (hc1 : σ 292 = q_an G 600 f) (hc2 : σ 280 = q_an G 265 g) (hn : 294 ≤ n) (hF21 : F 21 = nI m) (hm : m ≤ 600) (hbb : ∀ k : Nat, s_byte f m k ≤ 256) (htm : t ≤ m) (hF24 : F 24 = nI 0) (hF26 : F 26 = nI (tk_be f m t)) (hF27 : F 27 = nI t) (hF28 : F 28 = nI (tk_vl f m t)) (hF30 : F 30 = nI (tk_kd f m t)) (hr : r < 4) (hnm : tk_nm f m t = true) : Ct G yX11_putsName cX11_putsName 4 none ⟨3, 0, 0, 64⟩ [.ref (q_h G + 279), .int (nI (r))] ex n σ (fun v9 σ2 => v9 = none ∧ ∃ (F' : Nat → Int32), ∃ (t' : Nat), (t' = tk_nx f m t) ∧ (t' ≤ m) ∧ (∀ j : Nat, j ≠ 26 ∧ j ≠ 27 ∧ j ≠ 28 ∧ j ≠ 30 → F' j = F j) ∧ (F' 26 = nI (tk_be f m t')) ∧ (F' 27 = nI t') ∧ (F' 28 = nI (tk_vl f m t')) ∧ (F' 30 = nI (tk_kd f m t')) ∧ σ2 279 = o11 G F' ∧ σ2 280 = q_an G 265 (s_pnm f m g t r) ∧ (∀ i : Nat, i ≠ 279 ∧ i ≠ 280 → σ2 i = σ i)) := by
  refine q_enter [some (.ref (q_h G + 279)), some (.int (nI (r))), none, none] (by decide) (Nat.le_of_ble_eq_true rfl) rfl ?_
  intro K hg
  obtain ⟨Q, hQ⟩ : ∃ Q, Q = q_Q G K ex n 0 0 (fun v9 n' σ' => n' = n ∧ (fun v9 σ2 => v9 = none ∧ ∃ (F' : Nat → Int32), ∃ (t' : Nat), (t' = tk_nx f m t) ∧ (t' ≤ m) ∧ (∀ j : Nat, j ≠ 26 ∧ j ≠ 27 ∧ j ≠ 28 ∧ j ≠ 30 → F' j = F j) ∧ (F' 26 = nI (tk_be f m t')) ∧ (F' 27 = nI t') ∧ (F' 28 = nI (tk_vl f m t')) ∧ (F' 30 = nI (tk_kd f m t')) ∧ σ2 279 = o11 G F' ∧ σ2 280 = q_an G 265 (s_pnm f m g t r) ∧ (∀ i : Nat, i ≠ 279 ∧ i ≠ 280 → σ2 i = σ i)) v9 σ') q_noX := ⟨_, rfl⟩
  refine (?_ : AJ G K (q_Q G K ex n 0 0 _ _) 0 0 ex n 0 _ _ σ)
  rw [← hQ]
  have hbl := tk_be_le (f := f) htm
  have hbg := tk_be_ge (f := f) (m := m) (t := t)
  have hkd := tk_kd_lt f m t
  have hvl := tk_vl_lt f m t
  have hn1 : tk_kd f m t = 1 ∧ tk_be f m t - t ≤ 8 := of_decide_eq_true hnm
  refine A_bipush (v := (nI (17))) hg dX11_putsName_0 (by decide) ?_
  refine A_bipush (v := (nI (29))) hg dX11_putsName_2 (by decide) ?_
  refine A_iload_n hg dX11_putsName_4 rfl rfl ?_
  refine A_imulN hg dX11_putsName_5 ?_
  refine A_iaddN hg dX11_putsName_6 ?_
  refine A_istore_n hg dX11_putsName_7 rfl (by decide) (q_c1d rfl) ?_
  refine A_eq (ls2 := [some (.ref (q_h G + 279)), some (.int (nI (r))), some (.int (nI (17 + (29 * r)))), none]) (st2 := []) (pc2 := 0) rfl rfl ?_
  refine A_aload_n hg dX11_putsName_8 rfl rfl ?_
  refine A_getf (v := .ref (q_h G + 280)) hg fl_RX11_7 dX11_putsName_9 hc0 (by omega) rfl ?_
  refine A_iload_n hg dX11_putsName_12 rfl rfl ?_
  refine A_aload_n hg dX11_putsName_13 rfl rfl ?_
  refine A_getf (v := .int (nI (tk_be f m t))) hg fl_RX11_262 dX11_putsName_14 hc0 (by omega) (congrArg (fun z => some (Value.int z)) hF26) ?_
  refine A_aload_n hg dX11_putsName_17 rfl rfl ?_
  refine A_getf (v := .int (nI (t))) hg fl_RX11_265 dX11_putsName_18 hc0 (by omega) (congrArg (fun z => some (Value.int z)) hF27) ?_
  refine A_isubN hg dX11_putsName_21 (by omega) ?_
  refine A_iast (j := (17 + (29 * r))) (x := ((tk_be f m t) - t)) hg dX11_putsName_22 hc2 (by omega) (by omega) (by decide) (fun σ_1 hc_2 hf_3 => ?_)
  have hc_4 : σ_1 279 = o11 G F := (hf_3 _ (by omega)).trans hc0
  have hc_5 : σ_1 292 = q_an G 600 f := (hf_3 _ (by omega)).trans hc1
  refine A_canon (s_pnk f g t r (tk_be f m t - t) 0) hc_2 (fun jj _ => s_pnk_0 f g t r _ jj) (fun σ_6 hc_7 hf_8 => ?_)
  have hc_9 : σ_6 279 = o11 G F := (hf_8 _ (by omega)).trans hc_4
  have hc_10 : σ_6 292 = q_an G 600 f := (hf_8 _ (by omega)).trans hc_5
  refine A_iconst (v := (nI (0))) hg dX11_putsName_23 (by decide) ?_
  refine A_istore_n hg dX11_putsName_24 rfl (by decide) (q_c1d rfl) ?_
  refine A_eq (ls2 := [some (.ref (q_h G + 279)), some (.int (nI (r))), some (.int (nI (17 + (29 * r)))), some (.int (nI (0)))]) (st2 := []) (pc2 := 0) rfl rfl ?_
  have hL25 : ∀ (fu : Nat) (k : Nat) (σ_11 : Nat → va_E), (σ_11 279 = o11 G F) → (σ_11 292 = q_an G 600 f) → (σ_11 280 = q_an G 265 (s_pnk f g t r (tk_be f m t - t) k)) → (∀ i : Nat, i ≠ 280 → σ_11 i = σ i) → (k ≤ tk_be f m t - t) → (tk_be f m t - t - k) < fu → AJ G K Q 0 0 ex n 25 [some (.ref (q_h G + 279)), some (.int (nI (r))), some (.int (nI (17 + (29 * r)))), some (.int (nI (k)))] [] σ_11 := by
    intro fu
    induction fu with
    | zero => intro k σ_11 hc_12 hc_13 hc_14 hf_15 hk hm; exact absurd hm (Nat.not_lt_zero _)
    | succ fu ih25 =>
      intro k σ_11 hc_12 hc_13 hc_14 hf_15 hk hm25
      refine A_iload_n hg dX11_putsName_25 rfl rfl ?_
      refine A_aload_n hg dX11_putsName_26 rfl rfl ?_
      refine A_getf (v := .ref (q_h G + 280)) hg fl_RX11_7 dX11_putsName_27 hc_12 (by omega) rfl ?_
      refine A_iload_n hg dX11_putsName_30 rfl rfl ?_
      refine A_iald (j := (17 + (29 * r))) hg dX11_putsName_31 hc_14 (by omega) (by omega) (by decide) ?_
      refine A_top (w := .int (nI (tk_be f m t - t))) (by unfold s_pnk; rw [if_pos rfl]) ?_
      refine A_icmp_geN (tgt := 67) hg dX11_putsName_32 (by omega) (by omega) (by decide) (fun c32 => ?_) (fun c32 => ?_)
      · skip
        refine A_canon (s_pnm f m g t r) hc_14 (fun jj _ => by unfold s_pnm; rw [show k = tk_be f m t - t by omega]) (fun σ_16 hc_17 hf_18 => ?_)
        have hc_19 : σ_16 279 = o11 G F := (hf_18 _ (by omega)).trans hc_12
        have hc_20 : σ_16 292 = q_an G 600 f := (hf_18 _ (by omega)).trans hc_13
        refine A_aload_n hg dX11_putsName_67 rfl rfl ?_
        refine A_vV (kc2 := 0) (ks2 := 0) (As := []) (rest := []) hg lk_RX11_301 in_X11_advanceToken se_X11_advanceToken rfl dX11_putsName_68 ⟨by decide, by decide⟩ rfl rfl ⟨by decide, by decide⟩ hc_19 (by omega) rfl rfl (Nat.le_of_ble_eq_true rfl) (c_X11_advanceToken G ex n σ_16 F f m (tk_be f m t) hc_19 hc_20 (by omega) hF21 (by omega) hbb (tk_be_le htm) hF26) ?_
        rintro σ_23 ⟨F_t2, t2, ht_t2, htm_t2, hfr_t2, h26_t2, h27_t2, h28_t2, h30_t2, hc_21, hf_22⟩
        have hc_24 : σ_23 292 = q_an G 600 f := (hf_22 _ (by omega)).trans hc_20
        have hc_25 : σ_23 280 = q_an G 265 (s_pnm f m g t r) := (hf_22 _ (by omega)).trans hc_17
        rw [hQ]
        exact A_return hg (by decide) (by decide) rfl dX11_putsName_71 ⟨rfl, ⟨rfl, F_t2, t2, ht_t2, htm_t2, (fun j hj => (hfr_t2 j (by omega))), h26_t2, h27_t2, h28_t2, h30_t2, hc_21, hc_25, (fun i hi => ((hf_22 i (by omega)).trans ((hf_18 i (by omega)).trans (hf_15 i (by omega)))))⟩⟩
      · skip
        refine A_aload_n hg dX11_putsName_35 rfl rfl ?_
        refine A_getf (v := .ref (q_h G + 280)) hg fl_RX11_7 dX11_putsName_36 hc_12 (by omega) rfl ?_
        refine A_iload_n hg dX11_putsName_39 rfl rfl ?_
        refine A_iconst (v := (nI (1))) hg dX11_putsName_40 (by decide) ?_
        refine A_iaddN hg dX11_putsName_41 ?_
        refine A_iload_n hg dX11_putsName_42 rfl rfl ?_
        refine A_iaddN hg dX11_putsName_43 ?_
        refine A_aload_n hg dX11_putsName_44 rfl rfl ?_
        refine A_getf (v := .ref (q_h G + 292)) hg fl_RX11_47 dX11_putsName_45 hc_12 (by omega) rfl ?_
        refine A_aload_n hg dX11_putsName_48 rfl rfl ?_
        refine A_getf (v := .int (nI (t))) hg fl_RX11_265 dX11_putsName_49 hc_12 (by omega) (congrArg (fun z => some (Value.int z)) hF27) ?_
        refine A_iload_n hg dX11_putsName_52 rfl rfl ?_
        refine A_iaddN hg dX11_putsName_53 ?_
        have hl9 := tk_let_k2 hn1.1 k (by omega)
        refine A_iald (j := (t + k)) hg dX11_putsName_54 hc_13 (by omega) (by omega) (by decide) ?_
        refine A_bipush (v := (nI (97))) hg dX11_putsName_55 (by decide) ?_
        refine A_isubN hg dX11_putsName_57 (by omega) ?_
        refine A_iconst (v := (nI (1))) hg dX11_putsName_58 (by decide) ?_
        refine A_iaddN hg dX11_putsName_59 ?_
        refine A_iast (j := (((17 + (29 * r)) + 1) + k)) (x := (((f (t + k)) - 97) + 1)) hg dX11_putsName_60 hc_14 (by omega) (by omega) (by decide) (fun σ_26 hc_27 hf_28 => ?_)
        have hc_29 : σ_26 279 = o11 G F := (hf_28 _ (by omega)).trans hc_12
        have hc_30 : σ_26 292 = q_an G 600 f := (hf_28 _ (by omega)).trans hc_13
        refine A_canon (s_pnk f g t r (tk_be f m t - t) (k + 1)) hc_27 (fun jj _ => s_pnk_s f g t r _ k jj) (fun σ_31 hc_32 hf_33 => ?_)
        have hc_34 : σ_31 279 = o11 G F := (hf_33 _ (by omega)).trans hc_29
        have hc_35 : σ_31 292 = q_an G 600 f := (hf_33 _ (by omega)).trans hc_30
        refine A_iincN (k' := 1) hg dX11_putsName_61 (by decide) rfl (by decide) (q_c1d rfl) ?_
        refine A_eq (ls2 := [some (.ref (q_h G + 279)), some (.int (nI (r))), some (.int (nI (17 + (29 * r)))), some (.int (nI (k + 1)))]) (st2 := []) (pc2 := 0) rfl rfl ?_
        refine A_goto (tgt := 25) hg dX11_putsName_64 (by decide) ?_
        exact ih25 (k + 1) σ_31 hc_34 hc_35 hc_32 (fun i hi => ((hf_33 i (by omega)).trans ((hf_28 i (by omega)).trans (hf_15 i (by omega))))) (by omega) (by omega)
  exact hL25 _ 0 σ_6 hc_9 hc_10 hc_7 (fun i hi => ((hf_8 i (by omega)).trans (hf_3 i (by omega)))) (Nat.zero_le _) (Nat.lt_succ_self _)
set_option maxRecDepth 100000 in
set_option maxHeartbeats 4000000 in
theorem c_X11_addsOnly (G : GL) (ex : Bool) (n : Nat) (σ : Nat → va_E) (F : Nat → Int32) (g : Nat → Nat) (r : Nat) (x : Nat) (hc0 : σ 279 = o11 G F) (hc1 : σ 280 = q_an G 265 g) (hn : 294 ≤ n) (hr : r < 4) (hw : s_rule g r 9 < 8) (hgv : ∀ i : Nat, g i < 2 ^ 31) (hx : x < 2 ^ 31) : Ct G yX11_addsOnly cX11_addsOnly 4 none ⟨1, 0, 0, 23⟩ [.ref (q_h G + 279), .int (nI (r)), .int (nI (x))] ex n σ (fun v9 σ2 => v9 = none ∧ σ2 280 = q_an G 265 (s_addO g r x) ∧ (∀ i : Nat, i ≠ 280 → σ2 i = σ i)) := by
  refine q_enter [some (.ref (q_h G + 279)), some (.int (nI (r))), some (.int (nI (x))), none] (by decide) (Nat.le_of_ble_eq_true rfl) rfl ?_
  intro K hg
  obtain ⟨Q, hQ⟩ : ∃ Q, Q = q_Q G K ex n 0 0 (fun v9 n' σ' => n' = n ∧ (fun v9 σ2 => v9 = none ∧ σ2 280 = q_an G 265 (s_addO g r x) ∧ (∀ i : Nat, i ≠ 280 → σ2 i = σ i)) v9 σ') q_noX := ⟨_, rfl⟩
  refine (?_ : AJ G K (q_Q G K ex n 0 0 _ _) 0 0 ex n 0 _ _ σ)
  rw [← hQ]
  refine A_aload_n hg dX11_addsOnly_0 rfl rfl ?_
  refine A_iload_n hg dX11_addsOnly_1 rfl rfl ?_
  refine A_bipush (v := (nI (9))) hg dX11_addsOnly_2 (by decide) ?_
  refine A_eV (kc2 := 0) (ks2 := 0) (As := [.int (nI (r)), .int (nI (9))]) (rest := []) hg lk_RX11_85 in_X11_of se_X11_of rfl dX11_addsOnly_4 ⟨by decide, by decide⟩ rfl rfl ⟨by decide, by decide⟩ hc0 (by omega) rfl rfl (Nat.le_of_ble_eq_true rfl) (c_X11_of G ex n σ F g r 9 hc0 hc1 (by omega) (by omega)) ?_
  refine A_istore_n hg dX11_addsOnly_7 rfl (by decide) (q_c1d rfl) ?_
  refine A_eq (ls2 := [some (.ref (q_h G + 279)), some (.int (nI (r))), some (.int (nI (x))), some (.int (nI (s_rule g r 9)))]) (st2 := []) (pc2 := 0) rfl rfl ?_
  have hL8 : ∀ (fu : Nat) (j : Nat) (g1 : Nat → Nat) (σ_1 : Nat → va_E), (σ_1 279 = o11 G F) → (σ_1 280 = q_an G 265 g1) → (∀ i : Nat, i ≠ 280 → σ_1 i = σ i) → (j ≤ s_rule g r 9) → (s_ins r x j g1 = s_ins r x (s_rule g r 9) g) → (∀ i : Nat, g1 i < 2 ^ 31) → j < fu → AJ G K Q 0 0 ex n 8 [some (.ref (q_h G + 279)), some (.int (nI (r))), some (.int (nI (x))), some (.int (nI (j)))] [] σ_1 := by
    intro fu
    induction fu with
    | zero => intro j g1 σ_1 hc_2 hc_3 hf_4 hj his hgv1 hm; exact absurd hm (Nat.not_lt_zero _)
    | succ fu ih8 =>
      intro j g1 σ_1 hc_2 hc_3 hf_4 hj his hgv1 hm8
      refine A_iload_n hg dX11_addsOnly_8 rfl rfl ?_
      refine A_if_leN (tgt := 53) hg dX11_addsOnly_9 (by omega) (by decide) (fun c9 => ?_) (fun c9 => ?_)
      · skip
        refine A_aload_n hg dX11_addsOnly_53 rfl rfl ?_
        refine A_iload_n hg dX11_addsOnly_54 rfl rfl ?_
        refine A_bipush (v := (nI (10))) hg dX11_addsOnly_55 (by decide) ?_
        refine A_iload_n hg dX11_addsOnly_57 rfl rfl ?_
        refine A_iaddN hg dX11_addsOnly_58 ?_
        refine A_iload_n hg dX11_addsOnly_59 rfl rfl ?_
        refine A_vV (kc2 := 0) (ks2 := 0) (As := [.int (nI (r)), .int (nI (10 + j)), .int (nI (x))]) (rest := []) hg lk_RX11_60 in_X11_putsRule se_X11_putsRule rfl dX11_addsOnly_60 ⟨by decide, by decide⟩ rfl rfl ⟨by decide, by decide⟩ hc_2 (by omega) rfl rfl (Nat.le_of_ble_eq_true rfl) (c_X11_putsRule G ex n σ_1 F g1 r (10 + j) x hc_2 hc_3 (by omega) (by omega)) ?_
        rintro σ_7 ⟨hc_5, hf_6⟩
        have hc_8 : σ_7 279 = o11 G F := (hf_6 _ (by omega)).trans hc_2
        refine A_canon (s_ins r x (s_rule g r 9) g) hc_5 (fun jj _ => by rw [← his]; exact congrFun (s_ins_e (by omega)) jj) (fun σ_9 hc_10 hf_11 => ?_)
        have hc_12 : σ_9 279 = o11 G F := (hf_11 _ (by omega)).trans hc_8
        refine A_aload_n hg dX11_addsOnly_63 rfl rfl ?_
        refine A_iload_n hg dX11_addsOnly_64 rfl rfl ?_
        refine A_bipush (v := (nI (9))) hg dX11_addsOnly_65 (by decide) ?_
        refine A_aload_n hg dX11_addsOnly_67 rfl rfl ?_
        refine A_iload_n hg dX11_addsOnly_68 rfl rfl ?_
        refine A_bipush (v := (nI (9))) hg dX11_addsOnly_69 (by decide) ?_
        refine A_eV (kc2 := 0) (ks2 := 0) (As := [.int (nI (r)), .int (nI (9))]) (rest := [.int (nI (9)), .int (nI (r)), .ref (q_h G + 279)]) hg lk_RX11_85 in_X11_of se_X11_of rfl dX11_addsOnly_71 ⟨by decide, by decide⟩ rfl rfl ⟨by decide, by decide⟩ hc_12 (by omega) rfl rfl (Nat.le_of_ble_eq_true rfl) (c_X11_of G ex n σ_9 F (s_ins r x (s_rule g r 9) g) r 9 hc_12 hc_10 (by omega) (by omega)) ?_
        refine A_iconst (v := (nI (1))) hg dX11_addsOnly_74 (by decide) ?_
        refine A_iaddN hg dX11_addsOnly_75 ?_
        refine A_vV (kc2 := 0) (ks2 := 0) (As := [.int (nI (r)), .int (nI (9)), .int (nI ((s_rule (s_ins r x (s_rule g r 9) g) r 9) + 1))]) (rest := []) hg lk_RX11_60 in_X11_putsRule se_X11_putsRule rfl dX11_addsOnly_76 ⟨by decide, by decide⟩ rfl rfl ⟨by decide, by decide⟩ hc_12 (by omega) rfl rfl (Nat.le_of_ble_eq_true rfl) (c_X11_putsRule G ex n σ_9 F (s_ins r x (s_rule g r 9) g) r 9 ((s_rule (s_ins r x (s_rule g r 9) g) r 9) + 1) hc_12 hc_10 (by omega) (by omega)) ?_
        rintro σ_15 ⟨hc_13, hf_14⟩
        have hc_16 : σ_15 279 = o11 G F := (hf_14 _ (by omega)).trans hc_12
        refine A_canon (s_addO g r x) hc_13 (fun _ _ => rfl) (fun σ_17 hc_18 hf_19 => ?_)
        have hc_20 : σ_17 279 = o11 G F := (hf_19 _ (by omega)).trans hc_16
        rw [hQ]
        exact A_return hg (by decide) (by decide) rfl dX11_addsOnly_79 ⟨rfl, ⟨rfl, hc_18, (fun i hi => ((hf_19 i (by omega)).trans ((hf_14 i (by omega)).trans ((hf_11 i (by omega)).trans ((hf_6 i (by omega)).trans (hf_4 i (by omega)))))))⟩⟩
      · skip
        refine A_aload_n hg dX11_addsOnly_12 rfl rfl ?_
        refine A_iload_n hg dX11_addsOnly_13 rfl rfl ?_
        refine A_bipush (v := (nI (10))) hg dX11_addsOnly_14 (by decide) ?_
        refine A_iload_n hg dX11_addsOnly_16 rfl rfl ?_
        refine A_iaddN hg dX11_addsOnly_17 ?_
        refine A_iconst (v := (nI (1))) hg dX11_addsOnly_18 (by decide) ?_
        refine A_isubN hg dX11_addsOnly_19 (by omega) ?_
        refine A_eV (kc2 := 0) (ks2 := 0) (As := [.int (nI (r)), .int (nI ((10 + j) - 1))]) (rest := []) hg lk_RX11_85 in_X11_of se_X11_of rfl dX11_addsOnly_20 ⟨by decide, by decide⟩ rfl rfl ⟨by decide, by decide⟩ hc_2 (by omega) rfl rfl (Nat.le_of_ble_eq_true rfl) (c_X11_of G ex n σ_1 F g1 r ((10 + j) - 1) hc_2 hc_3 (by omega) (by omega)) ?_
        refine A_iload_n hg dX11_addsOnly_23 rfl rfl ?_
        refine A_icmp_leN (tgt := 53) hg dX11_addsOnly_24 (by first | omega | exact hgv1 _) (by first | omega | exact hgv1 _) (by decide) (fun c24 => ?_) (fun c24 => ?_)
        · skip
          refine A_aload_n hg dX11_addsOnly_53 rfl rfl ?_
          refine A_iload_n hg dX11_addsOnly_54 rfl rfl ?_
          refine A_bipush (v := (nI (10))) hg dX11_addsOnly_55 (by decide) ?_
          refine A_iload_n hg dX11_addsOnly_57 rfl rfl ?_
          refine A_iaddN hg dX11_addsOnly_58 ?_
          refine A_iload_n hg dX11_addsOnly_59 rfl rfl ?_
          refine A_vV (kc2 := 0) (ks2 := 0) (As := [.int (nI (r)), .int (nI (10 + j)), .int (nI (x))]) (rest := []) hg lk_RX11_60 in_X11_putsRule se_X11_putsRule rfl dX11_addsOnly_60 ⟨by decide, by decide⟩ rfl rfl ⟨by decide, by decide⟩ hc_2 (by omega) rfl rfl (Nat.le_of_ble_eq_true rfl) (c_X11_putsRule G ex n σ_1 F g1 r (10 + j) x hc_2 hc_3 (by omega) (by omega)) ?_
          rintro σ_23 ⟨hc_21, hf_22⟩
          have hc_24 : σ_23 279 = o11 G F := (hf_22 _ (by omega)).trans hc_2
          refine A_canon (s_ins r x (s_rule g r 9) g) hc_21 (fun jj _ => by rw [← his]; exact congrFun (s_ins_e (by omega)) jj) (fun σ_25 hc_26 hf_27 => ?_)
          have hc_28 : σ_25 279 = o11 G F := (hf_27 _ (by omega)).trans hc_24
          refine A_aload_n hg dX11_addsOnly_63 rfl rfl ?_
          refine A_iload_n hg dX11_addsOnly_64 rfl rfl ?_
          refine A_bipush (v := (nI (9))) hg dX11_addsOnly_65 (by decide) ?_
          refine A_aload_n hg dX11_addsOnly_67 rfl rfl ?_
          refine A_iload_n hg dX11_addsOnly_68 rfl rfl ?_
          refine A_bipush (v := (nI (9))) hg dX11_addsOnly_69 (by decide) ?_
          refine A_eV (kc2 := 0) (ks2 := 0) (As := [.int (nI (r)), .int (nI (9))]) (rest := [.int (nI (9)), .int (nI (r)), .ref (q_h G + 279)]) hg lk_RX11_85 in_X11_of se_X11_of rfl dX11_addsOnly_71 ⟨by decide, by decide⟩ rfl rfl ⟨by decide, by decide⟩ hc_28 (by omega) rfl rfl (Nat.le_of_ble_eq_true rfl) (c_X11_of G ex n σ_25 F (s_ins r x (s_rule g r 9) g) r 9 hc_28 hc_26 (by omega) (by omega)) ?_
          refine A_iconst (v := (nI (1))) hg dX11_addsOnly_74 (by decide) ?_
          refine A_iaddN hg dX11_addsOnly_75 ?_
          refine A_vV (kc2 := 0) (ks2 := 0) (As := [.int (nI (r)), .int (nI (9)), .int (nI ((s_rule (s_ins r x (s_rule g r 9) g) r 9) + 1))]) (rest := []) hg lk_RX11_60 in_X11_putsRule se_X11_putsRule rfl dX11_addsOnly_76 ⟨by decide, by decide⟩ rfl rfl ⟨by decide, by decide⟩ hc_28 (by omega) rfl rfl (Nat.le_of_ble_eq_true rfl) (c_X11_putsRule G ex n σ_25 F (s_ins r x (s_rule g r 9) g) r 9 ((s_rule (s_ins r x (s_rule g r 9) g) r 9) + 1) hc_28 hc_26 (by omega) (by omega)) ?_
          rintro σ_31 ⟨hc_29, hf_30⟩
          have hc_32 : σ_31 279 = o11 G F := (hf_30 _ (by omega)).trans hc_28
          refine A_canon (s_addO g r x) hc_29 (fun _ _ => rfl) (fun σ_33 hc_34 hf_35 => ?_)
          have hc_36 : σ_33 279 = o11 G F := (hf_35 _ (by omega)).trans hc_32
          rw [hQ]
          exact A_return hg (by decide) (by decide) rfl dX11_addsOnly_79 ⟨rfl, ⟨rfl, hc_34, (fun i hi => ((hf_35 i (by omega)).trans ((hf_30 i (by omega)).trans ((hf_27 i (by omega)).trans ((hf_22 i (by omega)).trans (hf_4 i (by omega)))))))⟩⟩
        · skip
          refine A_aload_n hg dX11_addsOnly_27 rfl rfl ?_
          refine A_iload_n hg dX11_addsOnly_28 rfl rfl ?_
          refine A_bipush (v := (nI (10))) hg dX11_addsOnly_29 (by decide) ?_
          refine A_iload_n hg dX11_addsOnly_31 rfl rfl ?_
          refine A_iaddN hg dX11_addsOnly_32 ?_
          refine A_aload_n hg dX11_addsOnly_33 rfl rfl ?_
          refine A_iload_n hg dX11_addsOnly_34 rfl rfl ?_
          refine A_bipush (v := (nI (10))) hg dX11_addsOnly_35 (by decide) ?_
          refine A_iload_n hg dX11_addsOnly_37 rfl rfl ?_
          refine A_iaddN hg dX11_addsOnly_38 ?_
          refine A_iconst (v := (nI (1))) hg dX11_addsOnly_39 (by decide) ?_
          refine A_isubN hg dX11_addsOnly_40 (by omega) ?_
          refine A_eV (kc2 := 0) (ks2 := 0) (As := [.int (nI (r)), .int (nI ((10 + j) - 1))]) (rest := [.int (nI (10 + j)), .int (nI (r)), .ref (q_h G + 279)]) hg lk_RX11_85 in_X11_of se_X11_of rfl dX11_addsOnly_41 ⟨by decide, by decide⟩ rfl rfl ⟨by decide, by decide⟩ hc_2 (by omega) rfl rfl (Nat.le_of_ble_eq_true rfl) (c_X11_of G ex n σ_1 F g1 r ((10 + j) - 1) hc_2 hc_3 (by omega) (by omega)) ?_
          refine A_vV (kc2 := 0) (ks2 := 0) (As := [.int (nI (r)), .int (nI (10 + j)), .int (nI (s_rule g1 r ((10 + j) - 1)))]) (rest := []) hg lk_RX11_60 in_X11_putsRule se_X11_putsRule rfl dX11_addsOnly_44 ⟨by decide, by decide⟩ rfl rfl ⟨by decide, by decide⟩ hc_2 (by omega) rfl rfl (Nat.le_of_ble_eq_true rfl) (c_X11_putsRule G ex n σ_1 F g1 r (10 + j) (s_rule g1 r ((10 + j) - 1)) hc_2 hc_3 (by omega) (by omega)) ?_
          rintro σ_39 ⟨hc_37, hf_38⟩
          have hc_40 : σ_39 279 = o11 G F := (hf_38 _ (by omega)).trans hc_2
          refine A_iincD hg dX11_addsOnly_47 (by decide) rfl (by omega) (by decide) (q_c1d rfl) ?_
          refine A_eq (ls2 := [some (.ref (q_h G + 279)), some (.int (nI (r))), some (.int (nI (x))), some (.int (nI (j - 1)))]) (st2 := []) (pc2 := 0) rfl rfl ?_
          refine A_goto (tgt := 8) hg dX11_addsOnly_50 (by decide) ?_
          exact ih8 (j - 1) (va_up g1 (17 + 29 * r + (10 + j)) (s_rule g1 r ((10 + j) - 1))) σ_39 hc_40 hc_37 (fun i hi => ((hf_38 i (by omega)).trans (hf_4 i (by omega)))) (by omega) ((s_ins_s (by omega) (by omega)).trans his) (va_up_lt hgv1 (hgv1 _)) (by omega)
  exact hL8 _ (s_rule g r 9) g σ hc0 hc1 (fun _ _ => rfl) (Nat.le_refl _) rfl hgv (Nat.lt_succ_self _)
end
