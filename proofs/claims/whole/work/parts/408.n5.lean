section
set_option maxRecDepth 100000 in
set_option maxHeartbeats 4000000 in
theorem c_X11_readOnlyNumber (G : GL) (ex : Bool) (n : Nat) (σ : Nat → va_E) (F : Nat → Int32) (g : Nat → Nat) (f : Nat → Nat) (m : Nat) (t : Nat) (r : Nat) (hc0 : σ 279 = o11 G F) (hc1 : σ 292 = q_an G 600 f) (hc2 : σ 280 = q_an G 265 g) (hn : 294 ≤ n) (hF21 : F 21 = nI m) (hm : m ≤ 600) (hbb : ∀ k : Nat, s_byte f m k ≤ 256) (htm : t ≤ m) (hF24 : F 24 = nI 0) (hF26 : F 26 = nI (tk_be f m t)) (hF27 : F 27 = nI t) (hF28 : F 28 = nI (tk_vl f m t)) (hF30 : F 30 = nI (tk_kd f m t)) (hr : r < 4) (hok : rw_ok r g) : Ct G yX11_readOnlyNumber cX11_readOnlyNumber 2 (some .boolean) ⟨3, 0, 0, 64⟩ [.ref (q_h G + 279), .int (nI (r))] ex n σ (fun v9 σ2 => (∃ (F' : Nat → Int32), ∃ (g' : Nat → Nat), ∃ (c : Nat), ∃ (o : Nat), v9 = some (.int (nI (0))) ∧ (rd_oN f m r g t = .inl (c, o)) ∧ (¬ c = 0) ∧ (∀ j : Nat, j ≠ 24 ∧ j ≠ 25 ∧ j ≠ 26 ∧ j ≠ 27 ∧ j ≠ 28 ∧ j ≠ 30 ∧ j ≠ 31 → F' j = F j) ∧ (F' 24 = nI c) ∧ (F' 25 = nI o) ∧ σ2 279 = o11 G F' ∧ σ2 280 = q_an G 265 g' ∧ (∀ i : Nat, i ≠ 279 ∧ i ≠ 280 → σ2 i = σ i)) ∨ (∃ (F' : Nat → Int32), ∃ (t' : Nat), ∃ (g' : Nat → Nat), v9 = some (.int (nI (1))) ∧ (rd_oN f m r g t = .inr (g', t')) ∧ (t' ≤ m) ∧ (t ≤ t') ∧ (∀ j : Nat, j ≠ 26 ∧ j ≠ 27 ∧ j ≠ 28 ∧ j ≠ 30 ∧ j ≠ 31 → F' j = F j) ∧ (F' 26 = nI (tk_be f m t')) ∧ (F' 27 = nI t') ∧ (F' 28 = nI (tk_vl f m t')) ∧ (F' 30 = nI (tk_kd f m t')) ∧ σ2 279 = o11 G F' ∧ σ2 280 = q_an G 265 g' ∧ (∀ i : Nat, i ≠ 279 ∧ i ≠ 280 → σ2 i = σ i))) := by
  refine q_enter [some (.ref (q_h G + 279)), some (.int (nI (r)))] (by decide) (Nat.le_of_ble_eq_true rfl) rfl ?_
  intro K hg
  obtain ⟨Q, hQ⟩ : ∃ Q, Q = q_Q G K ex n 0 0 (fun v9 n' σ' => n' = n ∧ (fun v9 σ2 => (∃ (F' : Nat → Int32), ∃ (g' : Nat → Nat), ∃ (c : Nat), ∃ (o : Nat), v9 = some (.int (nI (0))) ∧ (rd_oN f m r g t = .inl (c, o)) ∧ (¬ c = 0) ∧ (∀ j : Nat, j ≠ 24 ∧ j ≠ 25 ∧ j ≠ 26 ∧ j ≠ 27 ∧ j ≠ 28 ∧ j ≠ 30 ∧ j ≠ 31 → F' j = F j) ∧ (F' 24 = nI c) ∧ (F' 25 = nI o) ∧ σ2 279 = o11 G F' ∧ σ2 280 = q_an G 265 g' ∧ (∀ i : Nat, i ≠ 279 ∧ i ≠ 280 → σ2 i = σ i)) ∨ (∃ (F' : Nat → Int32), ∃ (t' : Nat), ∃ (g' : Nat → Nat), v9 = some (.int (nI (1))) ∧ (rd_oN f m r g t = .inr (g', t')) ∧ (t' ≤ m) ∧ (t ≤ t') ∧ (∀ j : Nat, j ≠ 26 ∧ j ≠ 27 ∧ j ≠ 28 ∧ j ≠ 30 ∧ j ≠ 31 → F' j = F j) ∧ (F' 26 = nI (tk_be f m t')) ∧ (F' 27 = nI t') ∧ (F' 28 = nI (tk_vl f m t')) ∧ (F' 30 = nI (tk_kd f m t')) ∧ σ2 279 = o11 G F' ∧ σ2 280 = q_an G 265 g' ∧ (∀ i : Nat, i ≠ 279 ∧ i ≠ 280 → σ2 i = σ i))) v9 σ') q_noX := ⟨_, rfl⟩
  refine (?_ : AJ G K (q_Q G K ex n 0 0 _ _) 0 0 ex n 0 _ _ σ)
  rw [← hQ]
  have hbl := tk_be_le (f := f) htm
  have hbg := tk_be_ge (f := f) (m := m) (t := t)
  have hkd := tk_kd_lt f m t
  have hvl := tk_vl_lt f m t
  have hw := hok.1
  have hgv := hok.2
  have hw9 := hw.2.1
  refine A_aload_n hg dX11_readOnlyNumber_0 rfl rfl ?_
  refine A_iconst (v := (nI (1))) hg dX11_readOnlyNumber_1 (by decide) ?_
  refine A_bipush (v := (nI (40))) hg dX11_readOnlyNumber_2 (by decide) ?_
  refine A_hV (kc2 := 0) (ks2 := 0) (As := [.int (nI (1)), .int (nI (40))]) (rest := []) hg lk_RX11_298 in_X11_seesNumber se_X11_seesNumber rfl dX11_readOnlyNumber_4 ⟨by decide, by decide⟩ rfl rfl ⟨by decide, by decide⟩ hc0 (by omega) rfl rfl (Nat.le_of_ble_eq_true rfl) (c_X11_seesNumber G ex n σ F f m t 1 40 hc0 (by omega) hF21 (by omega) hbb (by omega) hF24 hF26 hF27 hF28 hF30 (by omega) (by omega)) ?_
  rintro _ σ_5 (⟨rfl, hc0, hc_1, hf_2⟩ | ⟨rfl, hc0, hc_3, hf_4⟩)
  · skip
    refine (?_ : AJ G K Q 0 0 ex n 7 [some (.ref (q_h G + 279)), some (.int (nI (r)))] [.int (nI (0))] σ_5)
    have hc_1 : σ_5 279 = o11 G (upd (upd F 24 (nI (tk_nc f m t 1 40))) 25 (nI (t))) := hc_1
    have hc_6 : σ_5 292 = q_an G 600 f := (hf_2 _ (by omega)).trans hc1
    have hc_7 : σ_5 280 = q_an G 265 g := (hf_2 _ (by omega)).trans hc2
    refine A_if_neN (tgt := 12) hg dX11_readOnlyNumber_7 (by decide) (by decide) (fun c7 => absurd (by decide) c7) (fun c7 => ?_)
    refine A_iconst (v := (nI (0))) hg dX11_readOnlyNumber_10 (by decide) ?_
    rw [hQ]
    exact A_zreturn hg (by decide) (by decide) rfl rfl dX11_readOnlyNumber_11 ⟨rfl, Or.inl (⟨(upd (upd F 24 (nI (tk_nc f m t 1 40))) 25 (nI (t))), g, (tk_nc f m t 1 40), t, rfl, (by unfold rd_oN; rw [if_neg hc0]), hc0, (fun j hj => ((q_upn (by omega)).trans (q_upn (by omega)))), rfl, rfl, hc_1, hc_7, (fun i hi => (hf_2 i (by omega)))⟩)⟩
  · skip
    refine (?_ : AJ G K Q 0 0 ex n 7 [some (.ref (q_h G + 279)), some (.int (nI (r)))] [.int (nI (1))] σ_5)
    have hc_3 : σ_5 279 = o11 G (upd F 31 (nI (tk_vl f m t))) := hc_3
    have hc_8 : σ_5 292 = q_an G 600 f := (hf_4 _ (by omega)).trans hc1
    have hc_9 : σ_5 280 = q_an G 265 g := (hf_4 _ (by omega)).trans hc2
    refine A_if_neN (tgt := 12) hg dX11_readOnlyNumber_7 (by decide) (by decide) (fun c7 => ?_) (fun c7 => absurd c7 (by decide))
    refine A_aload_n hg dX11_readOnlyNumber_12 rfl rfl ?_
    refine A_iload_n hg dX11_readOnlyNumber_13 rfl rfl ?_
    refine A_aload_n hg dX11_readOnlyNumber_14 rfl rfl ?_
    refine A_getf (v := .int (nI (tk_vl f m t))) hg fl_RX11_295 dX11_readOnlyNumber_15 hc_3 (by omega) rfl ?_
    refine A_eV (kc2 := 0) (ks2 := 0) (As := [.int (nI (r)), .int (nI (tk_vl f m t))]) (rest := []) hg lk_RX11_94 in_X11_isInOnly se_X11_isInOnly rfl dX11_readOnlyNumber_18 ⟨by decide, by decide⟩ rfl rfl ⟨by decide, by decide⟩ hc_3 (by omega) rfl rfl (Nat.le_of_ble_eq_true rfl) (c_X11_isInOnly G ex n σ_5 (upd F 31 (nI (tk_vl f m t))) g r (tk_vl f m t) hc_3 hc_9 (by omega) (by omega) (by omega) (by omega)) ?_
    refine A_if_eqB (tgt := 30) hg dX11_readOnlyNumber_21 (by decide) (fun c21 => ?_) (fun c21 => ?_)
    · skip
      refine A_aload_n hg dX11_readOnlyNumber_30 rfl rfl ?_
      refine A_iload_n hg dX11_readOnlyNumber_31 rfl rfl ?_
      refine A_bipush (v := (nI (9))) hg dX11_readOnlyNumber_32 (by decide) ?_
      refine A_eV (kc2 := 0) (ks2 := 0) (As := [.int (nI (r)), .int (nI (9))]) (rest := []) hg lk_RX11_85 in_X11_of se_X11_of rfl dX11_readOnlyNumber_34 ⟨by decide, by decide⟩ rfl rfl ⟨by decide, by decide⟩ hc_3 (by omega) rfl rfl (Nat.le_of_ble_eq_true rfl) (c_X11_of G ex n σ_5 (upd F 31 (nI (tk_vl f m t))) g r 9 hc_3 hc_9 (by omega) (by omega)) ?_
      refine A_bipush (v := (nI (8))) hg dX11_readOnlyNumber_37 (by decide) ?_
      refine A_icmp_neN (tgt := 48) hg dX11_readOnlyNumber_39 (by omega) (by decide) (by decide) (fun c39 => ?_) (fun c39 => ?_)
      · skip
        refine A_aload_n hg dX11_readOnlyNumber_48 rfl rfl ?_
        refine A_iload_n hg dX11_readOnlyNumber_49 rfl rfl ?_
        refine A_aload_n hg dX11_readOnlyNumber_50 rfl rfl ?_
        refine A_getf (v := .int (nI (tk_vl f m t))) hg fl_RX11_295 dX11_readOnlyNumber_51 hc_3 (by omega) rfl ?_
        refine A_vV (kc2 := 0) (ks2 := 0) (As := [.int (nI (r)), .int (nI (tk_vl f m t))]) (rest := []) hg lk_RX11_307 in_X11_addsOnly se_X11_addsOnly rfl dX11_readOnlyNumber_54 ⟨by decide, by decide⟩ rfl rfl ⟨by decide, by decide⟩ hc_3 (by omega) rfl rfl (Nat.le_of_ble_eq_true rfl) (c_X11_addsOnly G ex n σ_5 (upd F 31 (nI (tk_vl f m t))) g r (tk_vl f m t) hc_3 hc_9 (by omega) (by omega) (by omega) hgv (by omega)) ?_
        rintro σ_12 ⟨hc_10, hf_11⟩
        have hc_13 : σ_12 292 = q_an G 600 f := (hf_11 _ (by omega)).trans hc_8
        have hc_14 : σ_12 279 = o11 G (upd F 31 (nI (tk_vl f m t))) := (hf_11 _ (by omega)).trans hc_3
        have hbg0 := hbg
        refine A_aload_n hg dX11_readOnlyNumber_57 rfl rfl ?_
        refine A_vV (kc2 := 0) (ks2 := 0) (As := []) (rest := []) hg lk_RX11_301 in_X11_advanceToken se_X11_advanceToken rfl dX11_readOnlyNumber_58 ⟨by decide, by decide⟩ rfl rfl ⟨by decide, by decide⟩ hc_14 (by omega) rfl rfl (Nat.le_of_ble_eq_true rfl) (c_X11_advanceToken G ex n σ_12 (upd F 31 (nI (tk_vl f m t))) f m (tk_be f m t) hc_14 hc_13 (by omega) hF21 (by omega) hbb (tk_be_le htm) hF26) ?_
        rintro σ_17 ⟨F_t2, t2, ht_t2, htm_t2, hfr_t2, h26_t2, h27_t2, h28_t2, h30_t2, hc_15, hf_16⟩
        have hc_18 : σ_17 292 = q_an G 600 f := (hf_16 _ (by omega)).trans hc_13
        have hc_19 : σ_17 280 = q_an G 265 (s_addO g r (tk_vl f m t)) := (hf_16 _ (by omega)).trans hc_10
        refine A_iconst (v := (nI (1))) hg dX11_readOnlyNumber_61 (by decide) ?_
        rw [hQ]
        exact A_zreturn hg (by decide) (by decide) rfl rfl dX11_readOnlyNumber_62 ⟨rfl, Or.inr ((⟨F_t2, t2, (s_addO g r (tk_vl f m t)), rfl, (by unfold rd_oN; rw [if_pos hc0, if_neg (by rw [c21]; decide), if_neg c39, ht_t2]; rfl), htm_t2, (tk_ge2 ht_t2).1, (fun j hj => ((hfr_t2 j (by omega)).trans (q_upn (by omega)))), h26_t2, h27_t2, h28_t2, h30_t2, hc_15, hc_19, (fun i hi => ((hf_16 i (by omega)).trans ((hf_11 i (by omega)).trans (hf_4 i (by omega)))))⟩))⟩
      · skip
        refine A_aload_n hg dX11_readOnlyNumber_42 rfl rfl ?_
        refine A_iconst (v := (nI (5))) hg dX11_readOnlyNumber_43 (by decide) ?_
        refine A_hV (kc2 := 0) (ks2 := 0) (As := [.int (nI (5))]) (rest := []) hg lk_RX11_292 in_X11_failsAt se_X11_failsAt rfl dX11_readOnlyNumber_44 ⟨by decide, by decide⟩ rfl rfl ⟨by decide, by decide⟩ hc_3 (by omega) rfl rfl (Nat.le_of_ble_eq_true rfl) (c_X11_failsAt G ex n σ_5 (upd F 31 (nI (tk_vl f m t))) t 5 hc_3 (by omega) hF24 hF27) ?_
        rintro _ σ_22 ⟨rfl, hc_20, hf_21⟩
        refine (?_ : AJ G K Q 0 0 ex n 47 [some (.ref (q_h G + 279)), some (.int (nI (r)))] [.int (nI (0))] σ_22)
        have hc_20 : σ_22 279 = o11 G (upd (upd (upd F 24 (nI (5))) 25 (nI (t))) 31 (nI (tk_vl f m t))) := hc_20
        have hc_23 : σ_22 292 = q_an G 600 f := (hf_21 _ (by omega)).trans hc_8
        have hc_24 : σ_22 280 = q_an G 265 g := (hf_21 _ (by omega)).trans hc_9
        rw [hQ]
        exact A_zreturn hg (by decide) (by decide) rfl rfl dX11_readOnlyNumber_47 ⟨rfl, Or.inl (⟨(upd (upd (upd F 24 (nI (5))) 25 (nI (t))) 31 (nI (tk_vl f m t))), g, 5, t, rfl, (by unfold rd_oN; rw [if_pos hc0, if_neg (by rw [c21]; decide), if_pos c39]), (by decide), (fun j hj => ((q_upn (by omega)).trans ((q_upn (by omega)).trans (q_upn (by omega))))), rfl, rfl, hc_20, hc_24, (fun i hi => ((hf_21 i (by omega)).trans (hf_4 i (by omega))))⟩)⟩
    · skip
      refine A_aload_n hg dX11_readOnlyNumber_24 rfl rfl ?_
      refine A_iconst (v := (nI (4))) hg dX11_readOnlyNumber_25 (by decide) ?_
      refine A_hV (kc2 := 0) (ks2 := 0) (As := [.int (nI (4))]) (rest := []) hg lk_RX11_292 in_X11_failsAt se_X11_failsAt rfl dX11_readOnlyNumber_26 ⟨by decide, by decide⟩ rfl rfl ⟨by decide, by decide⟩ hc_3 (by omega) rfl rfl (Nat.le_of_ble_eq_true rfl) (c_X11_failsAt G ex n σ_5 (upd F 31 (nI (tk_vl f m t))) t 4 hc_3 (by omega) hF24 hF27) ?_
      rintro _ σ_27 ⟨rfl, hc_25, hf_26⟩
      refine (?_ : AJ G K Q 0 0 ex n 29 [some (.ref (q_h G + 279)), some (.int (nI (r)))] [.int (nI (0))] σ_27)
      have hc_25 : σ_27 279 = o11 G (upd (upd (upd F 24 (nI (4))) 25 (nI (t))) 31 (nI (tk_vl f m t))) := hc_25
      have hc_28 : σ_27 292 = q_an G 600 f := (hf_26 _ (by omega)).trans hc_8
      have hc_29 : σ_27 280 = q_an G 265 g := (hf_26 _ (by omega)).trans hc_9
      rw [hQ]
      exact A_zreturn hg (by decide) (by decide) rfl rfl dX11_readOnlyNumber_29 ⟨rfl, Or.inl (⟨(upd (upd (upd F 24 (nI (4))) 25 (nI (t))) 31 (nI (tk_vl f m t))), g, 4, t, rfl, (by unfold rd_oN; rw [if_pos hc0, if_pos c21]), (by decide), (fun j hj => ((q_upn (by omega)).trans ((q_upn (by omega)).trans (q_upn (by omega))))), rfl, rfl, hc_25, hc_29, (fun i hi => ((hf_26 i (by omega)).trans (hf_4 i (by omega))))⟩)⟩
set_option maxRecDepth 100000 in
set_option maxHeartbeats 4000000 in
theorem c_X11_readOnly (G : GL) (ex : Bool) (n : Nat) (σ : Nat → va_E) (F : Nat → Int32) (g : Nat → Nat) (f : Nat → Nat) (m : Nat) (t : Nat) (r : Nat) (hc0 : σ 279 = o11 G F) (hc1 : σ 292 = q_an G 600 f) (hc2 : σ 280 = q_an G 265 g) (hn : 294 ≤ n) (hF21 : F 21 = nI m) (hm : m ≤ 600) (hbb : ∀ k : Nat, s_byte f m k ≤ 256) (htm : t ≤ m) (hF24 : F 24 = nI 0) (hF26 : F 26 = nI (tk_be f m t)) (hF27 : F 27 = nI t) (hF28 : F 28 = nI (tk_vl f m t)) (hF30 : F 30 = nI (tk_kd f m t)) (hr : r < 4) (hok : rw_ok r g) : Ct G yX11_readOnly cX11_readOnly 2 (some .boolean) ⟨5, 0, 0, 107⟩ [.ref (q_h G + 279), .int (nI (r))] ex n σ (fun v9 σ2 => (∃ (F' : Nat → Int32), ∃ (g' : Nat → Nat), ∃ (c : Nat), ∃ (o : Nat), v9 = some (.int (nI (0))) ∧ (rd_o f m r g t = .inl (c, o)) ∧ (¬ c = 0) ∧ (∀ j : Nat, j ≠ 24 ∧ j ≠ 25 ∧ j ≠ 26 ∧ j ≠ 27 ∧ j ≠ 28 ∧ j ≠ 30 ∧ j ≠ 31 → F' j = F j) ∧ (F' 24 = nI c) ∧ (F' 25 = nI o) ∧ σ2 279 = o11 G F' ∧ σ2 280 = q_an G 265 g' ∧ (∀ i : Nat, i ≠ 279 ∧ i ≠ 280 → σ2 i = σ i)) ∨ (∃ (F' : Nat → Int32), ∃ (t' : Nat), ∃ (g' : Nat → Nat), v9 = some (.int (nI (1))) ∧ (rd_o f m r g t = .inr (g', t')) ∧ (t' ≤ m) ∧ (t ≤ t') ∧ (∀ j : Nat, j ≠ 26 ∧ j ≠ 27 ∧ j ≠ 28 ∧ j ≠ 30 ∧ j ≠ 31 → F' j = F j) ∧ (F' 26 = nI (tk_be f m t')) ∧ (F' 27 = nI t') ∧ (F' 28 = nI (tk_vl f m t')) ∧ (F' 30 = nI (tk_kd f m t')) ∧ σ2 279 = o11 G F' ∧ σ2 280 = q_an G 265 g' ∧ (∀ i : Nat, i ≠ 279 ∧ i ≠ 280 → σ2 i = σ i))) := by
  refine q_enter [some (.ref (q_h G + 279)), some (.int (nI (r)))] (by decide) (Nat.le_of_ble_eq_true rfl) rfl ?_
  intro K hg
  obtain ⟨Q, hQ⟩ : ∃ Q, Q = q_Q G K ex n 0 0 (fun v9 n' σ' => n' = n ∧ (fun v9 σ2 => (∃ (F' : Nat → Int32), ∃ (g' : Nat → Nat), ∃ (c : Nat), ∃ (o : Nat), v9 = some (.int (nI (0))) ∧ (rd_o f m r g t = .inl (c, o)) ∧ (¬ c = 0) ∧ (∀ j : Nat, j ≠ 24 ∧ j ≠ 25 ∧ j ≠ 26 ∧ j ≠ 27 ∧ j ≠ 28 ∧ j ≠ 30 ∧ j ≠ 31 → F' j = F j) ∧ (F' 24 = nI c) ∧ (F' 25 = nI o) ∧ σ2 279 = o11 G F' ∧ σ2 280 = q_an G 265 g' ∧ (∀ i : Nat, i ≠ 279 ∧ i ≠ 280 → σ2 i = σ i)) ∨ (∃ (F' : Nat → Int32), ∃ (t' : Nat), ∃ (g' : Nat → Nat), v9 = some (.int (nI (1))) ∧ (rd_o f m r g t = .inr (g', t')) ∧ (t' ≤ m) ∧ (t ≤ t') ∧ (∀ j : Nat, j ≠ 26 ∧ j ≠ 27 ∧ j ≠ 28 ∧ j ≠ 30 ∧ j ≠ 31 → F' j = F j) ∧ (F' 26 = nI (tk_be f m t')) ∧ (F' 27 = nI t') ∧ (F' 28 = nI (tk_vl f m t')) ∧ (F' 30 = nI (tk_kd f m t')) ∧ σ2 279 = o11 G F' ∧ σ2 280 = q_an G 265 g' ∧ (∀ i : Nat, i ≠ 279 ∧ i ≠ 280 → σ2 i = σ i))) v9 σ') q_noX := ⟨_, rfl⟩
  refine (?_ : AJ G K (q_Q G K ex n 0 0 _ _) 0 0 ex n 0 _ _ σ)
  rw [← hQ]
  have hbl := tk_be_le (f := f) htm
  have hbg := tk_be_ge (f := f) (m := m) (t := t)
  have hkd := tk_kd_lt f m t
  have hvl := tk_vl_lt f m t
  refine A_aload_n hg dX11_readOnly_0 rfl rfl ?_
  refine A_ldcwS hg (sc_RX11_310 hg.2.2.2.2.2.2.1.1).1 dX11_readOnly_1 ?_
  refine A_eV (kc2 := 0) (ks2 := 0) (As := [.ref (q_sa G RX11 310)]) (rest := []) hg lk_RX11_312 in_X11_isWord se_X11_isWord rfl dX11_readOnly_4 ⟨by decide, by decide⟩ rfl rfl ⟨by decide, by decide⟩ hc0 (by omega) rfl rfl (Nat.le_of_ble_eq_true rfl) (c_X11_isWord G ex n σ F f m t (q_sa G RX11 310) ([111, 110, 108, 121]) hc0 hc1 (by omega) hF21 (by omega) hbb (by omega) hF24 hF26 hF27 hF28 hF30 ((sc_RX11_310 hg.2.2.2.2.2.2.1.1).2)) ?_
  refine A_if_neB (tgt := 12) hg dX11_readOnly_7 (by decide) (fun c7 => ?_) (fun c7 => ?_)
  · skip
    refine A_aload_n hg dX11_readOnly_12 rfl rfl ?_
    refine A_vV (kc2 := 0) (ks2 := 0) (As := []) (rest := []) hg lk_RX11_301 in_X11_advanceToken se_X11_advanceToken rfl dX11_readOnly_13 ⟨by decide, by decide⟩ rfl rfl ⟨by decide, by decide⟩ hc0 (by omega) rfl rfl (Nat.le_of_ble_eq_true rfl) (c_X11_advanceToken G ex n σ F f m (tk_be f m t) hc0 hc1 (by omega) hF21 (by omega) hbb (tk_be_le htm) hF26) ?_
    rintro σ_3 ⟨F_t2, t2, ht_t2, htm_t2, hfr_t2, h26_t2, h27_t2, h28_t2, h30_t2, hc_1, hf_2⟩
    have hc_4 : σ_3 292 = q_an G 600 f := (hf_2 _ (by omega)).trans hc1
    have hc_5 : σ_3 280 = q_an G 265 g := (hf_2 _ (by omega)).trans hc2
    refine A_aload_n hg dX11_readOnly_16 rfl rfl ?_
    refine A_iload_n hg dX11_readOnly_17 rfl rfl ?_
    refine A_hV (kc2 := 0) (ks2 := 0) (As := [.int (nI (r))]) (rest := []) hg lk_RX11_316 in_X11_readOnlyNumber se_X11_readOnlyNumber rfl dX11_readOnly_18 ⟨by decide, by decide⟩ rfl rfl ⟨by decide, by decide⟩ hc_1 (by omega) rfl rfl (Nat.le_of_ble_eq_true rfl) (c_X11_readOnlyNumber G ex n σ_3 F_t2 g f m t2 r hc_1 hc_4 hc_5 (by omega) ((hfr_t2 21 (by decide)).trans hF21) (by omega) hbb (by omega) ((hfr_t2 24 (by decide)).trans hF24) h26_t2 h27_t2 h28_t2 h30_t2 (by omega) hok) ?_
    rintro _ σ_12 (⟨F_t3, g3, c_t3, o_t3, rfl, hR_t3, hc0_t3, hfr_t3, h24_t3, h25_t3, hc_6, hc_7, hf_8⟩ | ⟨F_t3, t3, g3, rfl, hR_t3, htm_t3, hge_t3, hfr_t3, h26_t3, h27_t3, h28_t3, h30_t3, hc_9, hc_10, hf_11⟩)
    · skip
      refine (?_ : AJ G K Q 0 0 ex n 21 [some (.ref (q_h G + 279)), some (.int (nI (r)))] [.int (nI (0))] σ_12)
      have hc_13 : σ_12 292 = q_an G 600 f := (hf_8 _ (by omega)).trans hc_4
      refine A_if_neN (tgt := 26) hg dX11_readOnly_21 (by decide) (by decide) (fun c21 => absurd (by decide) c21) (fun c21 => ?_)
      refine A_iconst (v := (nI (0))) hg dX11_readOnly_24 (by decide) ?_
      rw [hQ]
      exact A_zreturn hg (by decide) (by decide) rfl rfl dX11_readOnly_25 ⟨rfl, Or.inl (⟨F_t3, g3, c_t3, o_t3, rfl, (by unfold rd_o; rw [if_pos c7]; rw [ht_t2] at hR_t3; exact rd_bd_l hR_t3), hc0_t3, (fun j hj => ((hfr_t3 j (by omega)).trans (hfr_t2 j (by omega)))), h24_t3, h25_t3, hc_6, hc_7, (fun i hi => ((hf_8 i (by omega)).trans (hf_2 i (by omega))))⟩)⟩
    · skip
      refine (?_ : AJ G K Q 0 0 ex n 21 [some (.ref (q_h G + 279)), some (.int (nI (r)))] [.int (nI (1))] σ_12)
      have hc_14 : σ_12 292 = q_an G 600 f := (hf_11 _ (by omega)).trans hc_4
      refine A_if_neN (tgt := 26) hg dX11_readOnly_21 (by decide) (by decide) (fun c21 => ?_) (fun c21 => absurd c21 (by decide))
      have hk3 := rd_oN_wf hok hR_t3
      have hg2 := tk_ge2 ht_t2
      have hL26 : ∀ (fu : Nat) (k : Nat) (F5 : Nat → Int32) (t5 : Nat) (g5 : Nat → Nat) (σ_15 : Nat → va_E), (σ_15 292 = q_an G 600 f) → (σ_15 279 = o11 G F5) → (σ_15 280 = q_an G 265 g5) → (∀ i : Nat, i ≠ 279 ∧ i ≠ 280 → σ_15 i = σ i) → (F5 26 = nI (tk_be f m t5)) → (F5 27 = nI t5) → (F5 28 = nI (tk_vl f m t5)) → (F5 30 = nI (tk_kd f m t5)) → (∀ j : Nat, j ≠ 26 ∧ j ≠ 27 ∧ j ≠ 28 ∧ j ≠ 30 ∧ j ≠ 31 → F5 j = F_t3 j) → (t5 ≤ m) → (t ≤ t5) → (rw_ok r g5) → (10 ≤ k + s_rule g5 r 9) → (rd_oL f m r k g5 t5 = rd_oL f m r 9 g3 t3) → k < fu → AJ G K Q 0 0 ex n 26 [some (.ref (q_h G + 279)), some (.int (nI (r)))] [] σ_15 := by
        intro fu
        induction fu with
        | zero => intro k F5 t5 g5 σ_15 hc_16 hc_17 hc_18 hf_19 h5_26 h5_27 h5_28 h5_30 hfr5 htm_t5 hge5 hok5 hmy hpu hm; exact absurd hm (Nat.not_lt_zero _)
        | succ fu ih26 =>
          intro k F5 t5 g5 σ_15 hc_16 hc_17 hc_18 hf_19 h5_26 h5_27 h5_28 h5_30 hfr5 htm_t5 hge5 hok5 hmy hpu hm26
          have hw5 := hok5.1.2.1
          have hkd5 := tk_kd_lt f m t5
          obtain ⟨k, rfl⟩ : ∃ j, k = j + 1 := ⟨k - 1, by omega⟩
          refine A_aload_n hg dX11_readOnly_26 rfl rfl ?_
          refine A_getf (v := .int (nI (tk_kd f m t5))) hg fl_RX11_271 dX11_readOnly_27 hc_17 (by omega) (congrArg (fun z => some (Value.int z)) h5_30) ?_
          refine A_iconst (v := (nI (2))) hg dX11_readOnly_30 (by decide) ?_
          refine A_icmp_neN (tgt := 44) hg dX11_readOnly_31 (by omega) (by decide) (by decide) (fun c31 => ?_) (fun c31 => ?_)
          · skip
            refine A_iconst (v := (nI (1))) hg dX11_readOnly_44 (by decide) ?_
            rw [hQ]
            exact A_zreturn hg (by decide) (by decide) rfl rfl dX11_readOnly_45 ⟨rfl, Or.inr ((⟨F5, t5, g5, rfl, (by unfold rd_o; rw [if_pos c7]; rw [ht_t2] at hR_t3; exact (rd_bd_r hR_t3).trans (hpu.symm.trans (rd_oL_n c31))), htm_t5, (by omega), (fun j hj => ((hfr5 j (by omega)).trans ((hfr_t3 j (by omega)).trans (hfr_t2 j (by omega))))), h5_26, h5_27, h5_28, h5_30, hc_17, hc_18, (fun i hi => (hf_19 i (by omega)))⟩))⟩
          · skip
            refine A_aload_n hg dX11_readOnly_34 rfl rfl ?_
            refine A_iload_n hg dX11_readOnly_35 rfl rfl ?_
            refine A_hV (kc2 := 0) (ks2 := 0) (As := [.int (nI (r))]) (rest := []) hg lk_RX11_316 in_X11_readOnlyNumber se_X11_readOnlyNumber rfl dX11_readOnly_36 ⟨by decide, by decide⟩ rfl rfl ⟨by decide, by decide⟩ hc_17 (by omega) rfl rfl (Nat.le_of_ble_eq_true rfl) (c_X11_readOnlyNumber G ex n σ_15 F5 g5 f m t5 r hc_17 hc_16 hc_18 (by omega) ((hfr5 21 (by decide)).trans ((hfr_t3 21 (by decide)).trans ((hfr_t2 21 (by decide)).trans hF21))) (by omega) hbb (by omega) ((hfr5 24 (by decide)).trans ((hfr_t3 24 (by decide)).trans ((hfr_t2 24 (by decide)).trans hF24))) h5_26 h5_27 h5_28 h5_30 (by omega) hok5) ?_
            rintro _ σ_26 (⟨F_t6, g6, c_t6, o_t6, rfl, hR_t6, hc0_t6, hfr_t6, h24_t6, h25_t6, hc_20, hc_21, hf_22⟩ | ⟨F_t6, t6, g6, rfl, hR_t6, htm_t6, hge_t6, hfr_t6, h26_t6, h27_t6, h28_t6, h30_t6, hc_23, hc_24, hf_25⟩)
            · skip
              refine (?_ : AJ G K Q 0 0 ex n 39 [some (.ref (q_h G + 279)), some (.int (nI (r)))] [.int (nI (0))] σ_26)
              have hc_27 : σ_26 292 = q_an G 600 f := (hf_22 _ (by omega)).trans hc_16
              refine A_if_neN (tgt := 26) hg dX11_readOnly_39 (by decide) (by decide) (fun c39 => absurd (by decide) c39) (fun c39 => ?_)
              refine A_iconst (v := (nI (0))) hg dX11_readOnly_42 (by decide) ?_
              rw [hQ]
              exact A_zreturn hg (by decide) (by decide) rfl rfl dX11_readOnly_43 ⟨rfl, Or.inl (⟨F_t6, g6, c_t6, o_t6, rfl, (by unfold rd_o; rw [if_pos c7]; rw [ht_t2] at hR_t3; exact (rd_bd_r hR_t3).trans (hpu.symm.trans (rd_oL_e c31 hR_t6))), hc0_t6, (fun j hj => ((hfr_t6 j (by omega)).trans ((hfr5 j (by omega)).trans ((hfr_t3 j (by omega)).trans (hfr_t2 j (by omega)))))), h24_t6, h25_t6, hc_20, hc_21, (fun i hi => ((hf_22 i (by omega)).trans (hf_19 i (by omega))))⟩)⟩
            · skip
              refine (?_ : AJ G K Q 0 0 ex n 39 [some (.ref (q_h G + 279)), some (.int (nI (r)))] [.int (nI (1))] σ_26)
              have hc_28 : σ_26 292 = q_an G 600 f := (hf_25 _ (by omega)).trans hc_16
              refine A_if_neN (tgt := 26) hg dX11_readOnly_39 (by decide) (by decide) (fun c39 => ?_) (fun c39 => absurd c39 (by decide))
              exact ih26 k F_t6 t6 g6 σ_26 hc_28 hc_23 hc_24 (fun i hi => ((hf_25 i (by omega)).trans (hf_19 i (by omega)))) h26_t6 h27_t6 h28_t6 h30_t6 (fun j hj => (hfr_t6 j (by omega)).trans (hfr5 j hj)) htm_t6 (by omega) ((rd_oN_wf hok5 hR_t6).1) (by have := (rd_oN_wf hok5 hR_t6).2.2; omega) ((rd_oL_s c31 hR_t6).symm.trans hpu) (by omega)
      exact hL26 _ 9 F_t3 t3 g3 σ_12 hc_14 hc_9 hc_10 (fun i hi => ((hf_11 i (by omega)).trans (hf_2 i (by omega)))) h26_t3 h27_t3 h28_t3 h30_t3 (fun _ _ => rfl) htm_t3 (by omega) hk3.1 (by have := hk3.2.2; omega) rfl (Nat.lt_succ_self _)
  · skip
    refine A_iconst (v := (nI (1))) hg dX11_readOnly_10 (by decide) ?_
    rw [hQ]
    exact A_zreturn hg (by decide) (by decide) rfl rfl dX11_readOnly_11 ⟨rfl, Or.inr ((⟨F, t, g, rfl, (by unfold rd_o; rw [if_neg (by rw [c7]; decide)]), htm, (Nat.le_refl _), (fun _ _ => rfl), hF26, hF27, hF28, hF30, hc0, hc2, (fun _ _ => rfl)⟩))⟩
set_option maxRecDepth 100000 in
set_option maxHeartbeats 4000000 in
theorem c_X11_readBar (G : GL) (ex : Bool) (n : Nat) (σ : Nat → va_E) (F : Nat → Int32) (g : Nat → Nat) (f : Nat → Nat) (m : Nat) (t : Nat) (r : Nat) (hc0 : σ 279 = o11 G F) (hc1 : σ 292 = q_an G 600 f) (hc2 : σ 280 = q_an G 265 g) (hn : 294 ≤ n) (hF21 : F 21 = nI m) (hm : m ≤ 600) (hbb : ∀ k : Nat, s_byte f m k ≤ 256) (htm : t ≤ m) (hF24 : F 24 = nI 0) (hF26 : F 26 = nI (tk_be f m t)) (hF27 : F 27 = nI t) (hF28 : F 28 = nI (tk_vl f m t)) (hF30 : F 30 = nI (tk_kd f m t)) (hr : r < 4) (hok : rw_ok r g) : Ct G yX11_readBar cX11_readBar 3 (some .boolean) ⟨4, 0, 0, 86⟩ [.ref (q_h G + 279), .int (nI (r))] ex n σ (fun v9 σ2 => (∃ (F' : Nat → Int32), ∃ (g' : Nat → Nat), ∃ (c : Nat), ∃ (o : Nat), v9 = some (.int (nI (0))) ∧ (rd_b f m r g t = .inl (c, o)) ∧ (¬ c = 0) ∧ (∀ j : Nat, j ≠ 24 ∧ j ≠ 25 ∧ j ≠ 26 ∧ j ≠ 27 ∧ j ≠ 28 ∧ j ≠ 30 ∧ j ≠ 31 → F' j = F j) ∧ (F' 24 = nI c) ∧ (F' 25 = nI o) ∧ σ2 279 = o11 G F' ∧ σ2 280 = q_an G 265 g' ∧ (∀ i : Nat, i ≠ 279 ∧ i ≠ 280 → σ2 i = σ i)) ∨ (∃ (F' : Nat → Int32), ∃ (t' : Nat), ∃ (g' : Nat → Nat), v9 = some (.int (nI (1))) ∧ (rd_b f m r g t = .inr (g', t')) ∧ (t' ≤ m) ∧ (t ≤ t') ∧ (∀ j : Nat, j ≠ 26 ∧ j ≠ 27 ∧ j ≠ 28 ∧ j ≠ 30 ∧ j ≠ 31 → F' j = F j) ∧ (F' 26 = nI (tk_be f m t')) ∧ (F' 27 = nI t') ∧ (F' 28 = nI (tk_vl f m t')) ∧ (F' 30 = nI (tk_kd f m t')) ∧ σ2 279 = o11 G F' ∧ σ2 280 = q_an G 265 g' ∧ (∀ i : Nat, i ≠ 279 ∧ i ≠ 280 → σ2 i = σ i))) := by
  refine q_enter [some (.ref (q_h G + 279)), some (.int (nI (r))), none] (by decide) (Nat.le_of_ble_eq_true rfl) rfl ?_
  intro K hg
  obtain ⟨Q, hQ⟩ : ∃ Q, Q = q_Q G K ex n 0 0 (fun v9 n' σ' => n' = n ∧ (fun v9 σ2 => (∃ (F' : Nat → Int32), ∃ (g' : Nat → Nat), ∃ (c : Nat), ∃ (o : Nat), v9 = some (.int (nI (0))) ∧ (rd_b f m r g t = .inl (c, o)) ∧ (¬ c = 0) ∧ (∀ j : Nat, j ≠ 24 ∧ j ≠ 25 ∧ j ≠ 26 ∧ j ≠ 27 ∧ j ≠ 28 ∧ j ≠ 30 ∧ j ≠ 31 → F' j = F j) ∧ (F' 24 = nI c) ∧ (F' 25 = nI o) ∧ σ2 279 = o11 G F' ∧ σ2 280 = q_an G 265 g' ∧ (∀ i : Nat, i ≠ 279 ∧ i ≠ 280 → σ2 i = σ i)) ∨ (∃ (F' : Nat → Int32), ∃ (t' : Nat), ∃ (g' : Nat → Nat), v9 = some (.int (nI (1))) ∧ (rd_b f m r g t = .inr (g', t')) ∧ (t' ≤ m) ∧ (t ≤ t') ∧ (∀ j : Nat, j ≠ 26 ∧ j ≠ 27 ∧ j ≠ 28 ∧ j ≠ 30 ∧ j ≠ 31 → F' j = F j) ∧ (F' 26 = nI (tk_be f m t')) ∧ (F' 27 = nI t') ∧ (F' 28 = nI (tk_vl f m t')) ∧ (F' 30 = nI (tk_kd f m t')) ∧ σ2 279 = o11 G F' ∧ σ2 280 = q_an G 265 g' ∧ (∀ i : Nat, i ≠ 279 ∧ i ≠ 280 → σ2 i = σ i))) v9 σ') q_noX := ⟨_, rfl⟩
  refine (?_ : AJ G K (q_Q G K ex n 0 0 _ _) 0 0 ex n 0 _ _ σ)
  rw [← hQ]
  have hbl := tk_be_le (f := f) htm
  have hbg := tk_be_ge (f := f) (m := m) (t := t)
  have hkd := tk_kd_lt f m t
  have hvl := tk_vl_lt f m t
  have hw := hok.1
  have hgv := hok.2
  have hw20 := hw.2.2.2.2.1
  refine A_aload_n hg dX11_readBar_0 rfl rfl ?_
  refine A_iload_n hg dX11_readBar_1 rfl rfl ?_
  refine A_bipush (v := (nI (20))) hg dX11_readBar_2 (by decide) ?_
  refine A_eV (kc2 := 0) (ks2 := 0) (As := [.int (nI (r)), .int (nI (20))]) (rest := []) hg lk_RX11_85 in_X11_of se_X11_of rfl dX11_readBar_4 ⟨by decide, by decide⟩ rfl rfl ⟨by decide, by decide⟩ hc0 (by omega) rfl rfl (Nat.le_of_ble_eq_true rfl) (c_X11_of G ex n σ F g r 20 hc0 hc2 (by omega) (by omega)) ?_
  refine A_iconst (v := (nI (4))) hg dX11_readBar_7 (by decide) ?_
  refine A_icmp_neN (tgt := 17) hg dX11_readBar_8 (by omega) (by decide) (by decide) (fun c8 => ?_) (fun c8 => ?_)
  · skip
    refine A_aload_n hg dX11_readBar_17 rfl rfl ?_
    refine A_vV (kc2 := 0) (ks2 := 0) (As := []) (rest := []) hg lk_RX11_301 in_X11_advanceToken se_X11_advanceToken rfl dX11_readBar_18 ⟨by decide, by decide⟩ rfl rfl ⟨by decide, by decide⟩ hc0 (by omega) rfl rfl (Nat.le_of_ble_eq_true rfl) (c_X11_advanceToken G ex n σ F f m (tk_be f m t) hc0 hc1 (by omega) hF21 (by omega) hbb (tk_be_le htm) hF26) ?_
    rintro σ_3 ⟨F_t2, t2, ht_t2, htm_t2, hfr_t2, h26_t2, h27_t2, h28_t2, h30_t2, hc_1, hf_2⟩
    have hc_4 : σ_3 292 = q_an G 600 f := (hf_2 _ (by omega)).trans hc1
    have hc_5 : σ_3 280 = q_an G 265 g := (hf_2 _ (by omega)).trans hc2
    have hn2 : t2 = tk_nx f m t := ht_t2
    have hg2 := tk_ge2 hn2
    refine A_aload_n hg dX11_readBar_21 rfl rfl ?_
    refine A_iconst (v := (nI (0))) hg dX11_readBar_22 (by decide) ?_
    refine A_bipush (v := (nI (40))) hg dX11_readBar_23 (by decide) ?_
    refine A_hV (kc2 := 0) (ks2 := 0) (As := [.int (nI (0)), .int (nI (40))]) (rest := []) hg lk_RX11_319 in_X11_takesNumber se_X11_takesNumber rfl dX11_readBar_25 ⟨by decide, by decide⟩ rfl rfl ⟨by decide, by decide⟩ hc_1 (by omega) rfl rfl (Nat.le_of_ble_eq_true rfl) (c_X11_takesNumber G ex n σ_3 F_t2 f m t2 0 40 hc_1 hc_4 (by omega) ((hfr_t2 21 (by decide)).trans hF21) (by omega) hbb (by omega) ((hfr_t2 24 (by decide)).trans hF24) h26_t2 h27_t2 h28_t2 h30_t2 (by omega) (by omega)) ?_
    rintro _ σ_10 (⟨rfl, hc0_t3, hc_6, hf_7⟩ | ⟨F_t3, t3, rfl, ht_t3, htm_t3, hfr_t3, h26_t3, h27_t3, h28_t3, h30_t3, h31_t3, hc0_t3, hc_8, hf_9⟩)
    · skip
      refine (?_ : AJ G K Q 0 0 ex n 28 [some (.ref (q_h G + 279)), some (.int (nI (r))), none] [.int (nI (0))] σ_10)
      have hc_6 : σ_10 279 = o11 G (upd (upd F_t2 24 (nI (tk_nc f m t2 0 40))) 25 (nI (t2))) := hc_6
      have hc_11 : σ_10 292 = q_an G 600 f := (hf_7 _ (by omega)).trans hc_4
      have hc_12 : σ_10 280 = q_an G 265 g := (hf_7 _ (by omega)).trans hc_5
      refine A_if_neN (tgt := 33) hg dX11_readBar_28 (by decide) (by decide) (fun c28 => absurd (by decide) c28) (fun c28 => ?_)
      refine A_iconst (v := (nI (0))) hg dX11_readBar_31 (by decide) ?_
      rw [hQ]
      exact A_zreturn hg (by decide) (by decide) rfl rfl dX11_readBar_32 ⟨rfl, Or.inl (⟨(upd (upd F_t2 24 (nI (tk_nc f m t2 0 40))) 25 (nI (t2))), g, (tk_nc f m t2 0 40), t2, rfl, (by unfold rd_b; rw [if_neg c8, ← hn2, if_neg hc0_t3]), hc0_t3, (fun j hj => ((q_upn (by omega)).trans ((q_upn (by omega)).trans (hfr_t2 j (by omega))))), rfl, rfl, hc_6, hc_12, (fun i hi => ((hf_7 i (by omega)).trans (hf_2 i (by omega))))⟩)⟩
    · skip
      refine (?_ : AJ G K Q 0 0 ex n 28 [some (.ref (q_h G + 279)), some (.int (nI (r))), none] [.int (nI (1))] σ_10)
      have hc_13 : σ_10 292 = q_an G 600 f := (hf_9 _ (by omega)).trans hc_4
      have hc_14 : σ_10 280 = q_an G 265 g := (hf_9 _ (by omega)).trans hc_5
      refine A_if_neN (tgt := 33) hg dX11_readBar_28 (by decide) (by decide) (fun c28 => ?_) (fun c28 => absurd c28 (by decide))
      refine A_aload_n hg dX11_readBar_33 rfl rfl ?_
      refine A_getf (v := .int (nI (tk_vl f m t2))) hg fl_RX11_295 dX11_readBar_34 hc_8 (by omega) (congrArg (fun z => some (Value.int z)) h31_t3) ?_
      refine A_istore_n hg dX11_readBar_37 rfl (by decide) (q_c1d rfl) ?_
      refine A_eq (ls2 := [some (.ref (q_h G + 279)), some (.int (nI (r))), some (.int (nI (tk_vl f m t2)))]) (st2 := []) (pc2 := 0) rfl rfl ?_
      refine A_aload_n hg dX11_readBar_38 rfl rfl ?_
      refine A_iload_n hg dX11_readBar_39 rfl rfl ?_
      have hv2 := tk_vl_lt f m t2
      have hg3 := tk_ge2 ht_t3
      refine A_if_neN (tgt := 47) hg dX11_readBar_40 (by omega) (by decide) (fun c40 => ?_) (fun c40 => ?_)
      · skip
        refine A_iconst (v := (nI (0))) hg dX11_readBar_47 (by decide) ?_
        refine A_bipush (v := (nI (40))) hg dX11_readBar_48 (by decide) ?_
        refine A_hV (kc2 := 0) (ks2 := 0) (As := [.int (nI (0)), .int (nI (40))]) (rest := []) hg lk_RX11_298 in_X11_seesNumber se_X11_seesNumber rfl dX11_readBar_50 ⟨by decide, by decide⟩ rfl rfl ⟨by decide, by decide⟩ hc_8 (by omega) rfl rfl (Nat.le_of_ble_eq_true rfl) (c_X11_seesNumber G ex n σ_10 F_t3 f m t3 0 40 hc_8 (by omega) ((hfr_t3 21 (by decide)).trans ((hfr_t2 21 (by decide)).trans hF21)) (by omega) hbb (by omega) ((hfr_t3 24 (by decide)).trans ((hfr_t2 24 (by decide)).trans hF24)) h26_t3 h27_t3 h28_t3 h30_t3 (by omega) (by omega)) ?_
        rintro _ σ_19 (⟨rfl, hc0, hc_15, hf_16⟩ | ⟨rfl, hc0, hc_17, hf_18⟩)
        · skip
          refine (?_ : AJ G K Q 0 0 ex n 53 [some (.ref (q_h G + 279)), some (.int (nI (r))), some (.int (nI (tk_vl f m t2)))] [.int (nI (0))] σ_19)
          have hc_15 : σ_19 279 = o11 G (upd (upd F_t3 24 (nI (tk_nc f m t3 0 40))) 25 (nI (t3))) := hc_15
          have hc_20 : σ_19 292 = q_an G 600 f := (hf_16 _ (by omega)).trans hc_13
          have hc_21 : σ_19 280 = q_an G 265 g := (hf_16 _ (by omega)).trans hc_14
          refine A_if_neN (tgt := 58) hg dX11_readBar_53 (by decide) (by decide) (fun c53 => absurd (by decide) c53) (fun c53 => ?_)
          refine A_iconst (v := (nI (0))) hg dX11_readBar_56 (by decide) ?_
          rw [hQ]
          exact A_zreturn hg (by decide) (by decide) rfl rfl dX11_readBar_57 ⟨rfl, Or.inl (⟨(upd (upd F_t3 24 (nI (tk_nc f m t3 0 40))) 25 (nI (t3))), g, (tk_nc f m t3 0 40), t3, rfl, (by unfold rd_b; rw [if_neg c8, ← hn2, if_pos hc0_t3, ← ht_t3]; unfold rd_b2; first | rw [if_pos c40, if_neg hc0] | rw [if_neg c40, if_neg hc0]), hc0, (fun j hj => ((q_upn (by omega)).trans ((q_upn (by omega)).trans ((hfr_t3 j (by omega)).trans (hfr_t2 j (by omega)))))), rfl, rfl, hc_15, hc_21, (fun i hi => ((hf_16 i (by omega)).trans ((hf_9 i (by omega)).trans (hf_2 i (by omega)))))⟩)⟩
        · skip
          refine (?_ : AJ G K Q 0 0 ex n 53 [some (.ref (q_h G + 279)), some (.int (nI (r))), some (.int (nI (tk_vl f m t2)))] [.int (nI (1))] σ_19)
          have hc_17 : σ_19 279 = o11 G (upd F_t3 31 (nI (tk_vl f m t3))) := hc_17
          have hc_22 : σ_19 292 = q_an G 600 f := (hf_18 _ (by omega)).trans hc_13
          have hc_23 : σ_19 280 = q_an G 265 g := (hf_18 _ (by omega)).trans hc_14
          refine A_if_neN (tgt := 58) hg dX11_readBar_53 (by decide) (by decide) (fun c53 => ?_) (fun c53 => absurd c53 (by decide))
          have hv3 := tk_vl_lt f m t3
          refine A_aload_n hg dX11_readBar_58 rfl rfl ?_
          refine A_iload_n hg dX11_readBar_59 rfl rfl ?_
          refine A_iload_n hg dX11_readBar_60 rfl rfl ?_
          refine A_aload_n hg dX11_readBar_61 rfl rfl ?_
          refine A_getf (v := .int (nI (tk_vl f m t3))) hg fl_RX11_295 dX11_readBar_62 hc_17 (by omega) rfl ?_
          refine A_eV (kc2 := 0) (ks2 := 0) (As := [.int (nI (r)), .int (nI (tk_vl f m t2)), .int (nI (tk_vl f m t3))]) (rest := []) hg lk_RX11_102 in_X11_barOf se_X11_barOf rfl dX11_readBar_65 ⟨by decide, by decide⟩ rfl rfl ⟨by decide, by decide⟩ hc_17 (by omega) rfl rfl (Nat.le_of_ble_eq_true rfl) (c_X11_barOf G ex n σ_19 (upd F_t3 31 (nI (tk_vl f m t3))) g r (tk_vl f m t2) (tk_vl f m t3) hc_17 hc_23 (by omega) (by omega) (by omega) (by omega) (by omega)) ?_
          refine A_iconst (v := (q_d (0))) hg dX11_readBar_68 (by decide) ?_
          refine A_icmp_eqM (tgt := 78) hg dX11_readBar_69 (by have hq := s_first_le (s_barp (s_rule g r) (tk_vl f m t2) (tk_vl f m t3)) (s_rule g r 20); split <;> first | omega | (unfold s_bar; omega)) (by decide) (by decide) (fun c69 => ?_) (fun c69 => ?_)
          · skip
            refine A_aload_n hg dX11_readBar_78 rfl rfl ?_
            refine A_iload_n hg dX11_readBar_79 rfl rfl ?_
            refine A_iload_n hg dX11_readBar_80 rfl rfl ?_
            refine A_aload_n hg dX11_readBar_81 rfl rfl ?_
            refine A_getf (v := .int (nI (tk_vl f m t3))) hg fl_RX11_295 dX11_readBar_82 hc_17 (by omega) rfl ?_
            refine A_vV (kc2 := 0) (ks2 := 0) (As := [.int (nI (r)), .int (nI (tk_vl f m t2)), .int (nI (tk_vl f m t3))]) (rest := []) hg lk_RX11_322 in_X11_addsBar se_X11_addsBar rfl dX11_readBar_85 ⟨by decide, by decide⟩ rfl rfl ⟨by decide, by decide⟩ hc_17 (by omega) rfl rfl (Nat.le_of_ble_eq_true rfl) (c_X11_addsBar G ex n σ_19 (upd F_t3 31 (nI (tk_vl f m t3))) g r (tk_vl f m t2) (tk_vl f m t3) hc_17 hc_23 (by omega) (by omega) (by omega) (by omega)) ?_
            rintro σ_26 ⟨hc_24, hf_25⟩
            have hc_27 : σ_26 292 = q_an G 600 f := (hf_25 _ (by omega)).trans hc_22
            have hc_28 : σ_26 279 = o11 G (upd F_t3 31 (nI (tk_vl f m t3))) := (hf_25 _ (by omega)).trans hc_17
            refine A_canon (s_addBr g r (tk_vl f m t2) (tk_vl f m t3)) hc_24 (fun _ _ => rfl) (fun σ_29 hc_30 hf_31 => ?_)
            have hc_32 : σ_29 292 = q_an G 600 f := (hf_31 _ (by omega)).trans hc_27
            have hc_33 : σ_29 279 = o11 G (upd F_t3 31 (nI (tk_vl f m t3))) := (hf_31 _ (by omega)).trans hc_28
            refine A_aload_n hg dX11_readBar_88 rfl rfl ?_
            refine A_vV (kc2 := 0) (ks2 := 0) (As := []) (rest := []) hg lk_RX11_301 in_X11_advanceToken se_X11_advanceToken rfl dX11_readBar_89 ⟨by decide, by decide⟩ rfl rfl ⟨by decide, by decide⟩ hc_33 (by omega) rfl rfl (Nat.le_of_ble_eq_true rfl) (c_X11_advanceToken G ex n σ_29 (upd F_t3 31 (nI (tk_vl f m t3))) f m (tk_be f m t3) hc_33 hc_32 (by omega) ((hfr_t3 21 (by decide)).trans ((hfr_t2 21 (by decide)).trans hF21)) (by omega) hbb (tk_be_le htm_t3) h26_t3) ?_
            rintro σ_36 ⟨F_t4, t4, ht_t4, htm_t4, hfr_t4, h26_t4, h27_t4, h28_t4, h30_t4, hc_34, hf_35⟩
            have hc_37 : σ_36 292 = q_an G 600 f := (hf_35 _ (by omega)).trans hc_32
            have hc_38 : σ_36 280 = q_an G 265 (s_addBr g r (tk_vl f m t2) (tk_vl f m t3)) := (hf_35 _ (by omega)).trans hc_30
            refine A_iconst (v := (nI (1))) hg dX11_readBar_92 (by decide) ?_
            rw [hQ]
            exact A_zreturn hg (by decide) (by decide) rfl rfl dX11_readBar_93 ⟨rfl, Or.inr ((⟨F_t4, t4, (s_addBr g r (tk_vl f m t2) (tk_vl f m t3)), rfl, (by unfold rd_b; rw [if_neg c8, ← hn2, if_pos hc0_t3, ← ht_t3]; unfold rd_b2; rw [ht_t4]; first | (rw [if_pos c40, if_pos hc0, if_neg (by rw [s_bar_no c69]; decide)]; rfl) | (rw [if_neg c40, if_pos hc0, if_neg (by rw [s_bar_no c69]; decide)]; rfl)), htm_t4, (by have := tk_ge2 (show t4 = tk_nx f m t3 from ht_t4); omega), (fun j hj => ((hfr_t4 j (by omega)).trans ((q_upn (by omega)).trans ((hfr_t3 j (by omega)).trans (hfr_t2 j (by omega)))))), h26_t4, h27_t4, h28_t4, h30_t4, hc_34, hc_38, (fun i hi => ((hf_35 i (by omega)).trans ((hf_31 i (by omega)).trans ((hf_25 i (by omega)).trans ((hf_18 i (by omega)).trans ((hf_9 i (by omega)).trans (hf_2 i (by omega))))))))⟩))⟩
          · skip
            refine A_aload_n hg dX11_readBar_72 rfl rfl ?_
            refine A_iconst (v := (nI (4))) hg dX11_readBar_73 (by decide) ?_
            refine A_hV (kc2 := 0) (ks2 := 0) (As := [.int (nI (4))]) (rest := []) hg lk_RX11_292 in_X11_failsAt se_X11_failsAt rfl dX11_readBar_74 ⟨by decide, by decide⟩ rfl rfl ⟨by decide, by decide⟩ hc_17 (by omega) rfl rfl (Nat.le_of_ble_eq_true rfl) (c_X11_failsAt G ex n σ_19 (upd F_t3 31 (nI (tk_vl f m t3))) t3 4 hc_17 (by omega) ((hfr_t3 24 (by decide)).trans ((hfr_t2 24 (by decide)).trans hF24)) h27_t3) ?_
            rintro _ σ_41 ⟨rfl, hc_39, hf_40⟩
            refine (?_ : AJ G K Q 0 0 ex n 77 [some (.ref (q_h G + 279)), some (.int (nI (r))), some (.int (nI (tk_vl f m t2)))] [.int (nI (0))] σ_41)
            have hc_39 : σ_41 279 = o11 G (upd (upd (upd F_t3 24 (nI (4))) 25 (nI (t3))) 31 (nI (tk_vl f m t3))) := hc_39
            have hc_42 : σ_41 292 = q_an G 600 f := (hf_40 _ (by omega)).trans hc_22
            have hc_43 : σ_41 280 = q_an G 265 g := (hf_40 _ (by omega)).trans hc_23
            rw [hQ]
            exact A_zreturn hg (by decide) (by decide) rfl rfl dX11_readBar_77 ⟨rfl, Or.inl (⟨(upd (upd (upd F_t3 24 (nI (4))) 25 (nI (t3))) 31 (nI (tk_vl f m t3))), g, 4, t3, rfl, (by unfold rd_b; rw [if_neg c8, ← hn2, if_pos hc0_t3, ← ht_t3]; unfold rd_b2; first | rw [if_pos c40, if_pos hc0, if_pos (s_bar_yes c69)] | rw [if_neg c40, if_pos hc0, if_pos (s_bar_yes c69)]), (by decide), (fun j hj => ((q_upn (by omega)).trans ((q_upn (by omega)).trans ((q_upn (by omega)).trans ((hfr_t3 j (by omega)).trans (hfr_t2 j (by omega))))))), rfl, rfl, hc_39, hc_43, (fun i hi => ((hf_40 i (by omega)).trans ((hf_18 i (by omega)).trans ((hf_9 i (by omega)).trans (hf_2 i (by omega))))))⟩)⟩
      · skip
        refine A_iconst (v := (nI (1))) hg dX11_readBar_43 (by decide) ?_
        refine A_goto (tgt := 48) hg dX11_readBar_44 (by decide) ?_
        refine A_bipush (v := (nI (40))) hg dX11_readBar_48 (by decide) ?_
        refine A_hV (kc2 := 0) (ks2 := 0) (As := [.int (nI (1)), .int (nI (40))]) (rest := []) hg lk_RX11_298 in_X11_seesNumber se_X11_seesNumber rfl dX11_readBar_50 ⟨by decide, by decide⟩ rfl rfl ⟨by decide, by decide⟩ hc_8 (by omega) rfl rfl (Nat.le_of_ble_eq_true rfl) (c_X11_seesNumber G ex n σ_10 F_t3 f m t3 1 40 hc_8 (by omega) ((hfr_t3 21 (by decide)).trans ((hfr_t2 21 (by decide)).trans hF21)) (by omega) hbb (by omega) ((hfr_t3 24 (by decide)).trans ((hfr_t2 24 (by decide)).trans hF24)) h26_t3 h27_t3 h28_t3 h30_t3 (by omega) (by omega)) ?_
        rintro _ σ_48 (⟨rfl, hc0, hc_44, hf_45⟩ | ⟨rfl, hc0, hc_46, hf_47⟩)
        · skip
          refine (?_ : AJ G K Q 0 0 ex n 53 [some (.ref (q_h G + 279)), some (.int (nI (r))), some (.int (nI (tk_vl f m t2)))] [.int (nI (0))] σ_48)
          have hc_44 : σ_48 279 = o11 G (upd (upd F_t3 24 (nI (tk_nc f m t3 1 40))) 25 (nI (t3))) := hc_44
          have hc_49 : σ_48 292 = q_an G 600 f := (hf_45 _ (by omega)).trans hc_13
          have hc_50 : σ_48 280 = q_an G 265 g := (hf_45 _ (by omega)).trans hc_14
          refine A_if_neN (tgt := 58) hg dX11_readBar_53 (by decide) (by decide) (fun c53 => absurd (by decide) c53) (fun c53 => ?_)
          refine A_iconst (v := (nI (0))) hg dX11_readBar_56 (by decide) ?_
          rw [hQ]
          exact A_zreturn hg (by decide) (by decide) rfl rfl dX11_readBar_57 ⟨rfl, Or.inl (⟨(upd (upd F_t3 24 (nI (tk_nc f m t3 1 40))) 25 (nI (t3))), g, (tk_nc f m t3 1 40), t3, rfl, (by unfold rd_b; rw [if_neg c8, ← hn2, if_pos hc0_t3, ← ht_t3]; unfold rd_b2; first | rw [if_pos c40, if_neg hc0] | rw [if_neg c40, if_neg hc0]), hc0, (fun j hj => ((q_upn (by omega)).trans ((q_upn (by omega)).trans ((hfr_t3 j (by omega)).trans (hfr_t2 j (by omega)))))), rfl, rfl, hc_44, hc_50, (fun i hi => ((hf_45 i (by omega)).trans ((hf_9 i (by omega)).trans (hf_2 i (by omega)))))⟩)⟩
        · skip
          refine (?_ : AJ G K Q 0 0 ex n 53 [some (.ref (q_h G + 279)), some (.int (nI (r))), some (.int (nI (tk_vl f m t2)))] [.int (nI (1))] σ_48)
          have hc_46 : σ_48 279 = o11 G (upd F_t3 31 (nI (tk_vl f m t3))) := hc_46
          have hc_51 : σ_48 292 = q_an G 600 f := (hf_47 _ (by omega)).trans hc_13
          have hc_52 : σ_48 280 = q_an G 265 g := (hf_47 _ (by omega)).trans hc_14
          refine A_if_neN (tgt := 58) hg dX11_readBar_53 (by decide) (by decide) (fun c53 => ?_) (fun c53 => absurd c53 (by decide))
          have hv3 := tk_vl_lt f m t3
          refine A_aload_n hg dX11_readBar_58 rfl rfl ?_
          refine A_iload_n hg dX11_readBar_59 rfl rfl ?_
          refine A_iload_n hg dX11_readBar_60 rfl rfl ?_
          refine A_aload_n hg dX11_readBar_61 rfl rfl ?_
          refine A_getf (v := .int (nI (tk_vl f m t3))) hg fl_RX11_295 dX11_readBar_62 hc_46 (by omega) rfl ?_
          refine A_eV (kc2 := 0) (ks2 := 0) (As := [.int (nI (r)), .int (nI (tk_vl f m t2)), .int (nI (tk_vl f m t3))]) (rest := []) hg lk_RX11_102 in_X11_barOf se_X11_barOf rfl dX11_readBar_65 ⟨by decide, by decide⟩ rfl rfl ⟨by decide, by decide⟩ hc_46 (by omega) rfl rfl (Nat.le_of_ble_eq_true rfl) (c_X11_barOf G ex n σ_48 (upd F_t3 31 (nI (tk_vl f m t3))) g r (tk_vl f m t2) (tk_vl f m t3) hc_46 hc_52 (by omega) (by omega) (by omega) (by omega) (by omega)) ?_
          refine A_iconst (v := (q_d (0))) hg dX11_readBar_68 (by decide) ?_
          refine A_icmp_eqM (tgt := 78) hg dX11_readBar_69 (by have hq := s_first_le (s_barp (s_rule g r) (tk_vl f m t2) (tk_vl f m t3)) (s_rule g r 20); split <;> first | omega | (unfold s_bar; omega)) (by decide) (by decide) (fun c69 => ?_) (fun c69 => ?_)
          · skip
            refine A_aload_n hg dX11_readBar_78 rfl rfl ?_
            refine A_iload_n hg dX11_readBar_79 rfl rfl ?_
            refine A_iload_n hg dX11_readBar_80 rfl rfl ?_
            refine A_aload_n hg dX11_readBar_81 rfl rfl ?_
            refine A_getf (v := .int (nI (tk_vl f m t3))) hg fl_RX11_295 dX11_readBar_82 hc_46 (by omega) rfl ?_
            refine A_vV (kc2 := 0) (ks2 := 0) (As := [.int (nI (r)), .int (nI (tk_vl f m t2)), .int (nI (tk_vl f m t3))]) (rest := []) hg lk_RX11_322 in_X11_addsBar se_X11_addsBar rfl dX11_readBar_85 ⟨by decide, by decide⟩ rfl rfl ⟨by decide, by decide⟩ hc_46 (by omega) rfl rfl (Nat.le_of_ble_eq_true rfl) (c_X11_addsBar G ex n σ_48 (upd F_t3 31 (nI (tk_vl f m t3))) g r (tk_vl f m t2) (tk_vl f m t3) hc_46 hc_52 (by omega) (by omega) (by omega) (by omega)) ?_
            rintro σ_55 ⟨hc_53, hf_54⟩
            have hc_56 : σ_55 292 = q_an G 600 f := (hf_54 _ (by omega)).trans hc_51
            have hc_57 : σ_55 279 = o11 G (upd F_t3 31 (nI (tk_vl f m t3))) := (hf_54 _ (by omega)).trans hc_46
            refine A_canon (s_addBr g r (tk_vl f m t2) (tk_vl f m t3)) hc_53 (fun _ _ => rfl) (fun σ_58 hc_59 hf_60 => ?_)
            have hc_61 : σ_58 292 = q_an G 600 f := (hf_60 _ (by omega)).trans hc_56
            have hc_62 : σ_58 279 = o11 G (upd F_t3 31 (nI (tk_vl f m t3))) := (hf_60 _ (by omega)).trans hc_57
            refine A_aload_n hg dX11_readBar_88 rfl rfl ?_
            refine A_vV (kc2 := 0) (ks2 := 0) (As := []) (rest := []) hg lk_RX11_301 in_X11_advanceToken se_X11_advanceToken rfl dX11_readBar_89 ⟨by decide, by decide⟩ rfl rfl ⟨by decide, by decide⟩ hc_62 (by omega) rfl rfl (Nat.le_of_ble_eq_true rfl) (c_X11_advanceToken G ex n σ_58 (upd F_t3 31 (nI (tk_vl f m t3))) f m (tk_be f m t3) hc_62 hc_61 (by omega) ((hfr_t3 21 (by decide)).trans ((hfr_t2 21 (by decide)).trans hF21)) (by omega) hbb (tk_be_le htm_t3) h26_t3) ?_
            rintro σ_65 ⟨F_t4, t4, ht_t4, htm_t4, hfr_t4, h26_t4, h27_t4, h28_t4, h30_t4, hc_63, hf_64⟩
            have hc_66 : σ_65 292 = q_an G 600 f := (hf_64 _ (by omega)).trans hc_61
            have hc_67 : σ_65 280 = q_an G 265 (s_addBr g r (tk_vl f m t2) (tk_vl f m t3)) := (hf_64 _ (by omega)).trans hc_59
            refine A_iconst (v := (nI (1))) hg dX11_readBar_92 (by decide) ?_
            rw [hQ]
            exact A_zreturn hg (by decide) (by decide) rfl rfl dX11_readBar_93 ⟨rfl, Or.inr ((⟨F_t4, t4, (s_addBr g r (tk_vl f m t2) (tk_vl f m t3)), rfl, (by unfold rd_b; rw [if_neg c8, ← hn2, if_pos hc0_t3, ← ht_t3]; unfold rd_b2; rw [ht_t4]; first | (rw [if_pos c40, if_pos hc0, if_neg (by rw [s_bar_no c69]; decide)]; rfl) | (rw [if_neg c40, if_pos hc0, if_neg (by rw [s_bar_no c69]; decide)]; rfl)), htm_t4, (by have := tk_ge2 (show t4 = tk_nx f m t3 from ht_t4); omega), (fun j hj => ((hfr_t4 j (by omega)).trans ((q_upn (by omega)).trans ((hfr_t3 j (by omega)).trans (hfr_t2 j (by omega)))))), h26_t4, h27_t4, h28_t4, h30_t4, hc_63, hc_67, (fun i hi => ((hf_64 i (by omega)).trans ((hf_60 i (by omega)).trans ((hf_54 i (by omega)).trans ((hf_47 i (by omega)).trans ((hf_9 i (by omega)).trans (hf_2 i (by omega))))))))⟩))⟩
          · skip
            refine A_aload_n hg dX11_readBar_72 rfl rfl ?_
            refine A_iconst (v := (nI (4))) hg dX11_readBar_73 (by decide) ?_
            refine A_hV (kc2 := 0) (ks2 := 0) (As := [.int (nI (4))]) (rest := []) hg lk_RX11_292 in_X11_failsAt se_X11_failsAt rfl dX11_readBar_74 ⟨by decide, by decide⟩ rfl rfl ⟨by decide, by decide⟩ hc_46 (by omega) rfl rfl (Nat.le_of_ble_eq_true rfl) (c_X11_failsAt G ex n σ_48 (upd F_t3 31 (nI (tk_vl f m t3))) t3 4 hc_46 (by omega) ((hfr_t3 24 (by decide)).trans ((hfr_t2 24 (by decide)).trans hF24)) h27_t3) ?_
            rintro _ σ_70 ⟨rfl, hc_68, hf_69⟩
            refine (?_ : AJ G K Q 0 0 ex n 77 [some (.ref (q_h G + 279)), some (.int (nI (r))), some (.int (nI (tk_vl f m t2)))] [.int (nI (0))] σ_70)
            have hc_68 : σ_70 279 = o11 G (upd (upd (upd F_t3 24 (nI (4))) 25 (nI (t3))) 31 (nI (tk_vl f m t3))) := hc_68
            have hc_71 : σ_70 292 = q_an G 600 f := (hf_69 _ (by omega)).trans hc_51
            have hc_72 : σ_70 280 = q_an G 265 g := (hf_69 _ (by omega)).trans hc_52
            rw [hQ]
            exact A_zreturn hg (by decide) (by decide) rfl rfl dX11_readBar_77 ⟨rfl, Or.inl (⟨(upd (upd (upd F_t3 24 (nI (4))) 25 (nI (t3))) 31 (nI (tk_vl f m t3))), g, 4, t3, rfl, (by unfold rd_b; rw [if_neg c8, ← hn2, if_pos hc0_t3, ← ht_t3]; unfold rd_b2; first | rw [if_pos c40, if_pos hc0, if_pos (s_bar_yes c69)] | rw [if_neg c40, if_pos hc0, if_pos (s_bar_yes c69)]), (by decide), (fun j hj => ((q_upn (by omega)).trans ((q_upn (by omega)).trans ((q_upn (by omega)).trans ((hfr_t3 j (by omega)).trans (hfr_t2 j (by omega))))))), rfl, rfl, hc_68, hc_72, (fun i hi => ((hf_69 i (by omega)).trans ((hf_47 i (by omega)).trans ((hf_9 i (by omega)).trans (hf_2 i (by omega))))))⟩)⟩
  · skip
    refine A_aload_n hg dX11_readBar_11 rfl rfl ?_
    refine A_iconst (v := (nI (5))) hg dX11_readBar_12 (by decide) ?_
    refine A_hV (kc2 := 0) (ks2 := 0) (As := [.int (nI (5))]) (rest := []) hg lk_RX11_292 in_X11_failsAt se_X11_failsAt rfl dX11_readBar_13 ⟨by decide, by decide⟩ rfl rfl ⟨by decide, by decide⟩ hc0 (by omega) rfl rfl (Nat.le_of_ble_eq_true rfl) (c_X11_failsAt G ex n σ F t 5 hc0 (by omega) hF24 hF27) ?_
    rintro _ σ_75 ⟨rfl, hc_73, hf_74⟩
    refine (?_ : AJ G K Q 0 0 ex n 16 [some (.ref (q_h G + 279)), some (.int (nI (r))), none] [.int (nI (0))] σ_75)
    have hc_73 : σ_75 279 = o11 G (upd (upd F 24 (nI (5))) 25 (nI (t))) := hc_73
    have hc_76 : σ_75 292 = q_an G 600 f := (hf_74 _ (by omega)).trans hc1
    have hc_77 : σ_75 280 = q_an G 265 g := (hf_74 _ (by omega)).trans hc2
    rw [hQ]
    exact A_zreturn hg (by decide) (by decide) rfl rfl dX11_readBar_16 ⟨rfl, Or.inl (⟨(upd (upd F 24 (nI (5))) 25 (nI (t))), g, 5, t, rfl, (by unfold rd_b; rw [if_pos c8]), (by decide), (fun j hj => ((q_upn (by omega)).trans (q_upn (by omega)))), rfl, rfl, hc_73, hc_77, (fun i hi => (hf_74 i (by omega)))⟩)⟩
set_option maxRecDepth 100000 in
set_option maxHeartbeats 4000000 in
theorem c_X11_readOwn (G : GL) (ex : Bool) (n : Nat) (σ : Nat → va_E) (F : Nat → Int32) (g : Nat → Nat) (f : Nat → Nat) (m : Nat) (t : Nat) (a : Nat) (bs : List Nat) (r : Nat) (j : Nat) (lo : Nat) (hi : Nat) (hc0 : σ 279 = o11 G F) (hc1 : σ 292 = q_an G 600 f) (hc2 : σ 280 = q_an G 265 g) (hn : 294 ≤ n) (hF21 : F 21 = nI m) (hm : m ≤ 600) (hbb : ∀ k : Nat, s_byte f m k ≤ 256) (htm : t ≤ m) (hF24 : F 24 = nI 0) (hF26 : F 26 = nI (tk_be f m t)) (hF27 : F 27 = nI t) (hF28 : F 28 = nI (tk_vl f m t)) (hF30 : F 30 = nI (tk_kd f m t)) (hs : q_st G a bs) (hr : r < 4) (hj : j < 29) (hlo9 : lo < 2 ^ 31) (hhi9 : hi < 2 ^ 31) : Ct G yX11_readOwn cX11_readOwn 6 (some .boolean) ⟨5, 0, 0, 107⟩ [.ref (q_h G + 279), .ref (a), .int (nI (r)), .int (nI (j)), .int (nI (lo)), .int (nI (hi))] ex n σ (fun v9 σ2 => (∃ (F' : Nat → Int32), ∃ (g' : Nat → Nat), ∃ (c : Nat), ∃ (o : Nat), v9 = some (.int (nI (0))) ∧ (rd_w f m bs r j lo hi g t = .inl (c, o)) ∧ (¬ c = 0) ∧ (∀ j : Nat, j ≠ 24 ∧ j ≠ 25 ∧ j ≠ 26 ∧ j ≠ 27 ∧ j ≠ 28 ∧ j ≠ 30 ∧ j ≠ 31 → F' j = F j) ∧ (F' 24 = nI c) ∧ (F' 25 = nI o) ∧ σ2 279 = o11 G F' ∧ σ2 280 = q_an G 265 g' ∧ (∀ i : Nat, i ≠ 279 ∧ i ≠ 280 → σ2 i = σ i)) ∨ (∃ (F' : Nat → Int32), ∃ (t' : Nat), ∃ (g' : Nat → Nat), v9 = some (.int (nI (1))) ∧ (rd_w f m bs r j lo hi g t = .inr (g', t')) ∧ (t' ≤ m) ∧ (t ≤ t') ∧ (∀ j : Nat, j ≠ 26 ∧ j ≠ 27 ∧ j ≠ 28 ∧ j ≠ 30 ∧ j ≠ 31 → F' j = F j) ∧ (F' 26 = nI (tk_be f m t')) ∧ (F' 27 = nI t') ∧ (F' 28 = nI (tk_vl f m t')) ∧ (F' 30 = nI (tk_kd f m t')) ∧ σ2 279 = o11 G F' ∧ σ2 280 = q_an G 265 g' ∧ (∀ i : Nat, i ≠ 279 ∧ i ≠ 280 → σ2 i = σ i))) := by
  refine q_enter [some (.ref (q_h G + 279)), some (.ref (a)), some (.int (nI (r))), some (.int (nI (j))), some (.int (nI (lo))), some (.int (nI (hi)))] (by decide) (Nat.le_of_ble_eq_true rfl) rfl ?_
  intro K hg
  obtain ⟨Q, hQ⟩ : ∃ Q, Q = q_Q G K ex n 0 0 (fun v9 n' σ' => n' = n ∧ (fun v9 σ2 => (∃ (F' : Nat → Int32), ∃ (g' : Nat → Nat), ∃ (c : Nat), ∃ (o : Nat), v9 = some (.int (nI (0))) ∧ (rd_w f m bs r j lo hi g t = .inl (c, o)) ∧ (¬ c = 0) ∧ (∀ j : Nat, j ≠ 24 ∧ j ≠ 25 ∧ j ≠ 26 ∧ j ≠ 27 ∧ j ≠ 28 ∧ j ≠ 30 ∧ j ≠ 31 → F' j = F j) ∧ (F' 24 = nI c) ∧ (F' 25 = nI o) ∧ σ2 279 = o11 G F' ∧ σ2 280 = q_an G 265 g' ∧ (∀ i : Nat, i ≠ 279 ∧ i ≠ 280 → σ2 i = σ i)) ∨ (∃ (F' : Nat → Int32), ∃ (t' : Nat), ∃ (g' : Nat → Nat), v9 = some (.int (nI (1))) ∧ (rd_w f m bs r j lo hi g t = .inr (g', t')) ∧ (t' ≤ m) ∧ (t ≤ t') ∧ (∀ j : Nat, j ≠ 26 ∧ j ≠ 27 ∧ j ≠ 28 ∧ j ≠ 30 ∧ j ≠ 31 → F' j = F j) ∧ (F' 26 = nI (tk_be f m t')) ∧ (F' 27 = nI t') ∧ (F' 28 = nI (tk_vl f m t')) ∧ (F' 30 = nI (tk_kd f m t')) ∧ σ2 279 = o11 G F' ∧ σ2 280 = q_an G 265 g' ∧ (∀ i : Nat, i ≠ 279 ∧ i ≠ 280 → σ2 i = σ i))) v9 σ') q_noX := ⟨_, rfl⟩
  refine (?_ : AJ G K (q_Q G K ex n 0 0 _ _) 0 0 ex n 0 _ _ σ)
  rw [← hQ]
  have hbl := tk_be_le (f := f) htm
  have hbg := tk_be_ge (f := f) (m := m) (t := t)
  have hkd := tk_kd_lt f m t
  have hvl := tk_vl_lt f m t
  refine A_aload_n hg dX11_readOwn_0 rfl rfl ?_
  refine A_aload_n hg dX11_readOwn_1 rfl rfl ?_
  refine A_eV (kc2 := 0) (ks2 := 0) (As := [.ref (a)]) (rest := []) hg lk_RX11_312 in_X11_isWord se_X11_isWord rfl dX11_readOwn_2 ⟨by decide, by decide⟩ rfl rfl ⟨by decide, by decide⟩ hc0 (by omega) rfl rfl (Nat.le_of_ble_eq_true rfl) (c_X11_isWord G ex n σ F f m t a bs hc0 hc1 (by omega) hF21 (by omega) hbb (by omega) hF24 hF26 hF27 hF28 hF30 hs) ?_
  refine A_if_neB (tgt := 10) hg dX11_readOwn_5 (by decide) (fun c5 => ?_) (fun c5 => ?_)
  · skip
    refine A_aload_n hg dX11_readOwn_10 rfl rfl ?_
    refine A_vV (kc2 := 0) (ks2 := 0) (As := []) (rest := []) hg lk_RX11_301 in_X11_advanceToken se_X11_advanceToken rfl dX11_readOwn_11 ⟨by decide, by decide⟩ rfl rfl ⟨by decide, by decide⟩ hc0 (by omega) rfl rfl (Nat.le_of_ble_eq_true rfl) (c_X11_advanceToken G ex n σ F f m (tk_be f m t) hc0 hc1 (by omega) hF21 (by omega) hbb (tk_be_le htm) hF26) ?_
    rintro σ_3 ⟨F_t2, t2, ht_t2, htm_t2, hfr_t2, h26_t2, h27_t2, h28_t2, h30_t2, hc_1, hf_2⟩
    have hc_4 : σ_3 292 = q_an G 600 f := (hf_2 _ (by omega)).trans hc1
    have hc_5 : σ_3 280 = q_an G 265 g := (hf_2 _ (by omega)).trans hc2
    have hn2 : t2 = tk_nx f m t := ht_t2
    have hg2 := tk_ge2 hn2
    refine A_aload_n hg dX11_readOwn_14 rfl rfl ?_
    refine A_iload hg dX11_readOwn_15 rfl ?_
    refine A_iload hg dX11_readOwn_17 rfl ?_
    refine A_hV (kc2 := 0) (ks2 := 0) (As := [.int (nI (lo)), .int (nI (hi))]) (rest := []) hg lk_RX11_319 in_X11_takesNumber se_X11_takesNumber rfl dX11_readOwn_19 ⟨by decide, by decide⟩ rfl rfl ⟨by decide, by decide⟩ hc_1 (by omega) rfl rfl (Nat.le_of_ble_eq_true rfl) (c_X11_takesNumber G ex n σ_3 F_t2 f m t2 lo hi hc_1 hc_4 (by omega) ((hfr_t2 21 (by decide)).trans hF21) (by omega) hbb (by omega) ((hfr_t2 24 (by decide)).trans hF24) h26_t2 h27_t2 h28_t2 h30_t2 (by omega) (by omega)) ?_
    rintro _ σ_10 (⟨rfl, hc0_t3, hc_6, hf_7⟩ | ⟨F_t3, t3, rfl, ht_t3, htm_t3, hfr_t3, h26_t3, h27_t3, h28_t3, h30_t3, h31_t3, hc0_t3, hc_8, hf_9⟩)
    · skip
      refine (?_ : AJ G K Q 0 0 ex n 22 [some (.ref (q_h G + 279)), some (.ref (a)), some (.int (nI (r))), some (.int (nI (j))), some (.int (nI (lo))), some (.int (nI (hi)))] [.int (nI (0))] σ_10)
      have hc_6 : σ_10 279 = o11 G (upd (upd F_t2 24 (nI (tk_nc f m t2 lo hi))) 25 (nI (t2))) := hc_6
      have hc_11 : σ_10 292 = q_an G 600 f := (hf_7 _ (by omega)).trans hc_4
      have hc_12 : σ_10 280 = q_an G 265 g := (hf_7 _ (by omega)).trans hc_5
      refine A_if_neN (tgt := 27) hg dX11_readOwn_22 (by decide) (by decide) (fun c22 => absurd (by decide) c22) (fun c22 => ?_)
      refine A_iconst (v := (nI (0))) hg dX11_readOwn_25 (by decide) ?_
      rw [hQ]
      exact A_zreturn hg (by decide) (by decide) rfl rfl dX11_readOwn_26 ⟨rfl, Or.inl (⟨(upd (upd F_t2 24 (nI (tk_nc f m t2 lo hi))) 25 (nI (t2))), g, (tk_nc f m t2 lo hi), t2, rfl, (by unfold rd_w; rw [if_pos c5, ← hn2, if_neg hc0_t3]), hc0_t3, (fun j hj => ((q_upn (by omega)).trans ((q_upn (by omega)).trans (hfr_t2 j (by omega))))), rfl, rfl, hc_6, hc_12, (fun i hi => ((hf_7 i (by omega)).trans (hf_2 i (by omega))))⟩)⟩
    · skip
      refine (?_ : AJ G K Q 0 0 ex n 22 [some (.ref (q_h G + 279)), some (.ref (a)), some (.int (nI (r))), some (.int (nI (j))), some (.int (nI (lo))), some (.int (nI (hi)))] [.int (nI (1))] σ_10)
      have hc_13 : σ_10 292 = q_an G 600 f := (hf_9 _ (by omega)).trans hc_4
      have hc_14 : σ_10 280 = q_an G 265 g := (hf_9 _ (by omega)).trans hc_5
      refine A_if_neN (tgt := 27) hg dX11_readOwn_22 (by decide) (by decide) (fun c22 => ?_) (fun c22 => absurd c22 (by decide))
      have hg3 := tk_ge2 ht_t3
      refine A_aload_n hg dX11_readOwn_27 rfl rfl ?_
      refine A_iload_n hg dX11_readOwn_28 rfl rfl ?_
      refine A_iload_n hg dX11_readOwn_29 rfl rfl ?_
      refine A_aload_n hg dX11_readOwn_30 rfl rfl ?_
      refine A_getf (v := .int (nI (tk_vl f m t2))) hg fl_RX11_295 dX11_readOwn_31 hc_8 (by omega) (congrArg (fun z => some (Value.int z)) h31_t3) ?_
      refine A_vV (kc2 := 0) (ks2 := 0) (As := [.int (nI (r)), .int (nI (j)), .int (nI (tk_vl f m t2))]) (rest := []) hg lk_RX11_60 in_X11_putsRule se_X11_putsRule rfl dX11_readOwn_34 ⟨by decide, by decide⟩ rfl rfl ⟨by decide, by decide⟩ hc_8 (by omega) rfl rfl (Nat.le_of_ble_eq_true rfl) (c_X11_putsRule G ex n σ_10 F_t3 g r j (tk_vl f m t2) hc_8 hc_14 (by omega) (by omega)) ?_
      rintro σ_17 ⟨hc_15, hf_16⟩
      have hc_18 : σ_17 292 = q_an G 600 f := (hf_16 _ (by omega)).trans hc_13
      have hc_19 : σ_17 279 = o11 G F_t3 := (hf_16 _ (by omega)).trans hc_8
      refine A_iconst (v := (nI (1))) hg dX11_readOwn_37 (by decide) ?_
      rw [hQ]
      exact A_zreturn hg (by decide) (by decide) rfl rfl dX11_readOwn_38 ⟨rfl, Or.inr ((⟨F_t3, t3, (va_up g (17 + 29 * r + j) (tk_vl f m t2)), rfl, (by unfold rd_w; rw [if_pos c5, ← hn2, if_pos hc0_t3, ← ht_t3]), htm_t3, (by omega), (fun j hj => ((hfr_t3 j (by omega)).trans (hfr_t2 j (by omega)))), h26_t3, h27_t3, h28_t3, h30_t3, hc_19, hc_15, (fun i hi => ((hf_16 i (by omega)).trans ((hf_9 i (by omega)).trans (hf_2 i (by omega)))))⟩))⟩
  · skip
    refine A_iconst (v := (nI (1))) hg dX11_readOwn_8 (by decide) ?_
    rw [hQ]
    exact A_zreturn hg (by decide) (by decide) rfl rfl dX11_readOwn_9 ⟨rfl, Or.inr ((⟨F, t, g, rfl, (by unfold rd_w; rw [if_neg (by rw [c5]; decide)]), htm, (Nat.le_refl _), (fun _ _ => rfl), hF26, hF27, hF28, hF30, hc0, hc2, (fun _ _ => rfl)⟩))⟩
end
