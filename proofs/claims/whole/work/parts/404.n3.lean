section
set_option maxRecDepth 100000 in
set_option maxHeartbeats 4000000 in
theorem c_X11_failsAt (G : GL) (ex : Bool) (n : Nat) (σ : Nat → va_E) (F : Nat → Int32) (t : Nat) (c : Nat) (hc0 : σ 279 = o11 G F) (hn : 294 ≤ n) (hF24 : F 24 = nI 0) (hF27 : F 27 = nI t) : Ct G yX11_failsAt cX11_failsAt 2 (some .boolean) ⟨0, 0, 0, 0⟩ [.ref (q_h G + 279), .int (nI (c))] ex n σ (fun v9 σ2 => v9 = some (.int (nI (0))) ∧ σ2 279 = o11 G (upd (upd F 24 (nI (c))) 25 (nI (t))) ∧ (∀ i : Nat, i ≠ 279 → σ2 i = σ i)) := by
  refine q_enter [some (.ref (q_h G + 279)), some (.int (nI (c)))] (by decide) (Nat.le_of_ble_eq_true rfl) rfl ?_
  intro K hg
  obtain ⟨Q, hQ⟩ : ∃ Q, Q = q_Q G K ex n 0 0 (fun v9 n' σ' => n' = n ∧ (fun v9 σ2 => v9 = some (.int (nI (0))) ∧ σ2 279 = o11 G (upd (upd F 24 (nI (c))) 25 (nI (t))) ∧ (∀ i : Nat, i ≠ 279 → σ2 i = σ i)) v9 σ') q_noX := ⟨_, rfl⟩
  refine (?_ : AJ G K (q_Q G K ex n 0 0 _ _) 0 0 ex n 0 _ _ σ)
  rw [← hQ]
  refine A_aload_n hg dX11_failsAt_0 rfl rfl ?_
  refine A_getf (v := .int (nI (0))) hg fl_RX11_277 dX11_failsAt_1 hc0 (by omega) (congrArg (fun z => some (Value.int z)) hF24) ?_
  refine A_if_neN (tgt := 20) hg dX11_failsAt_4 (by decide) (by decide) (fun c4 => absurd (by decide) c4) (fun c4 => ?_)
  refine A_aload_n hg dX11_failsAt_7 rfl rfl ?_
  refine A_iload_n hg dX11_failsAt_8 rfl rfl ?_
  refine A_putf hg fl_RX11_277 dX11_failsAt_9 hc0 (by omega) (Nat.le_of_ble_eq_true rfl) rfl rfl rfl (fun σ_1 hc_2 hf_3 => ?_)
  have hc_2 : σ_1 279 = o11 G (upd F 24 (nI (c))) := hc_2
  refine A_aload_n hg dX11_failsAt_12 rfl rfl ?_
  refine A_aload_n hg dX11_failsAt_13 rfl rfl ?_
  refine A_getf (v := .int (nI (t))) hg fl_RX11_265 dX11_failsAt_14 hc_2 (by omega) (congrArg (fun z => some (Value.int z)) hF27) ?_
  refine A_putf hg fl_RX11_280 dX11_failsAt_17 hc_2 (by omega) (Nat.le_of_ble_eq_true rfl) rfl rfl rfl (fun σ_4 hc_5 hf_6 => ?_)
  have hc_5 : σ_4 279 = o11 G (upd (upd F 24 (nI (c))) 25 (nI (t))) := hc_5
  refine A_iconst (v := (nI (0))) hg dX11_failsAt_20 (by decide) ?_
  rw [hQ]
  exact A_zreturn hg (by decide) (by decide) rfl rfl dX11_failsAt_21 ⟨rfl, ⟨rfl, hc_5, (fun i hi => ((hf_6 i (by omega)).trans (hf_3 i (by omega))))⟩⟩
set_option maxRecDepth 100000 in
set_option maxHeartbeats 4000000 in
theorem c_X11_seesNumber (G : GL) (ex : Bool) (n : Nat) (σ : Nat → va_E) (F : Nat → Int32) (f : Nat → Nat) (m : Nat) (t : Nat) (lo : Nat) (hi : Nat) (hc0 : σ 279 = o11 G F) (hn : 294 ≤ n) (hF21 : F 21 = nI m) (hm : m ≤ 600) (hbb : ∀ k : Nat, s_byte f m k ≤ 256) (htm : t ≤ m) (hF24 : F 24 = nI 0) (hF26 : F 26 = nI (tk_be f m t)) (hF27 : F 27 = nI t) (hF28 : F 28 = nI (tk_vl f m t)) (hF30 : F 30 = nI (tk_kd f m t)) (hlo9 : lo < 2 ^ 31) (hhi9 : hi < 2 ^ 31) : Ct G yX11_seesNumber cX11_seesNumber 3 (some .boolean) ⟨1, 0, 0, 22⟩ [.ref (q_h G + 279), .int (nI (lo)), .int (nI (hi))] ex n σ (fun v9 σ2 => (v9 = some (.int (nI (0))) ∧ (¬ tk_nc f m t lo hi = 0) ∧ σ2 279 = o11 G (upd (upd F 24 (nI (tk_nc f m t lo hi))) 25 (nI (t))) ∧ (∀ i : Nat, i ≠ 279 → σ2 i = σ i)) ∨ (v9 = some (.int (nI (1))) ∧ (tk_nc f m t lo hi = 0) ∧ σ2 279 = o11 G (upd F 31 (nI (tk_vl f m t))) ∧ (∀ i : Nat, i ≠ 279 → σ2 i = σ i))) := by
  refine q_enter [some (.ref (q_h G + 279)), some (.int (nI (lo))), some (.int (nI (hi)))] (by decide) (Nat.le_of_ble_eq_true rfl) rfl ?_
  intro K hg
  obtain ⟨Q, hQ⟩ : ∃ Q, Q = q_Q G K ex n 0 0 (fun v9 n' σ' => n' = n ∧ (fun v9 σ2 => (v9 = some (.int (nI (0))) ∧ (¬ tk_nc f m t lo hi = 0) ∧ σ2 279 = o11 G (upd (upd F 24 (nI (tk_nc f m t lo hi))) 25 (nI (t))) ∧ (∀ i : Nat, i ≠ 279 → σ2 i = σ i)) ∨ (v9 = some (.int (nI (1))) ∧ (tk_nc f m t lo hi = 0) ∧ σ2 279 = o11 G (upd F 31 (nI (tk_vl f m t))) ∧ (∀ i : Nat, i ≠ 279 → σ2 i = σ i))) v9 σ') q_noX := ⟨_, rfl⟩
  refine (?_ : AJ G K (q_Q G K ex n 0 0 _ _) 0 0 ex n 0 _ _ σ)
  rw [← hQ]
  have hbl := tk_be_le (f := f) htm
  have hbg := tk_be_ge (f := f) (m := m) (t := t)
  have hkd := tk_kd_lt f m t
  have hvl := tk_vl_lt f m t
  refine A_aload_n hg dX11_seesNumber_0 rfl rfl ?_
  refine A_getf (v := .int (nI (tk_kd f m t))) hg fl_RX11_271 dX11_seesNumber_1 hc0 (by omega) (congrArg (fun z => some (Value.int z)) hF30) ?_
  refine A_iconst (v := (nI (2))) hg dX11_seesNumber_4 (by decide) ?_
  refine A_icmp_neN (tgt := 21) hg dX11_seesNumber_5 (by omega) (by decide) (by decide) (fun c5 => ?_) (fun c5 => ?_)
  · skip
    refine A_aload_n hg dX11_seesNumber_21 rfl rfl ?_
    refine A_iconst (v := (nI (1))) hg dX11_seesNumber_22 (by decide) ?_
    refine A_hV (kc2 := 0) (ks2 := 0) (As := [.int (nI (1))]) (rest := []) hg lk_RX11_292 in_X11_failsAt se_X11_failsAt rfl dX11_seesNumber_23 ⟨by decide, by decide⟩ rfl rfl ⟨by decide, by decide⟩ hc0 (by omega) rfl rfl (Nat.le_of_ble_eq_true rfl) (c_X11_failsAt G ex n σ F t 1 hc0 (by omega) hF24 hF27) ?_
    rintro _ σ_3 ⟨rfl, hc_1, hf_2⟩
    refine (?_ : AJ G K Q 0 0 ex n 26 [some (.ref (q_h G + 279)), some (.int (nI (lo))), some (.int (nI (hi)))] [.int (nI (0))] σ_3)
    have hc_1 : σ_3 279 = o11 G (upd (upd F 24 (nI (1))) 25 (nI (t))) := hc_1
    have hn1 : tk_nc f m t lo hi = 1 := tk_nc_1 (by first | exact fun z => c5 z.1 | exact fun z => c18 z.2)
    have hz : σ_3 279 = o11 G (upd (upd F 24 (nI (tk_nc f m t lo hi))) 25 (nI t)) := by rw [hn1]; exact hc_1
    rw [hQ]
    exact A_zreturn hg (by decide) (by decide) rfl rfl dX11_seesNumber_26 ⟨rfl, Or.inl (⟨rfl, (by rw [hn1]; decide), hz, (fun i hi => (hf_2 i (by omega)))⟩)⟩
  · skip
    refine A_aload_n hg dX11_seesNumber_8 rfl rfl ?_
    refine A_getf (v := .int (nI (tk_be f m t))) hg fl_RX11_262 dX11_seesNumber_9 hc0 (by omega) (congrArg (fun z => some (Value.int z)) hF26) ?_
    refine A_aload_n hg dX11_seesNumber_12 rfl rfl ?_
    refine A_getf (v := .int (nI (t))) hg fl_RX11_265 dX11_seesNumber_13 hc0 (by omega) (congrArg (fun z => some (Value.int z)) hF27) ?_
    refine A_isubN hg dX11_seesNumber_16 (by omega) ?_
    refine A_iconst (v := (nI (3))) hg dX11_seesNumber_17 (by decide) ?_
    refine A_icmp_leN (tgt := 27) hg dX11_seesNumber_18 (by omega) (by decide) (by decide) (fun c18 => ?_) (fun c18 => ?_)
    · skip
      refine A_aload_n hg dX11_seesNumber_27 rfl rfl ?_
      refine A_getf (v := .int (nI (tk_vl f m t))) hg fl_RX11_268 dX11_seesNumber_28 hc0 (by omega) (congrArg (fun z => some (Value.int z)) hF28) ?_
      refine A_iload_n hg dX11_seesNumber_31 rfl rfl ?_
      refine A_iload_n hg dX11_seesNumber_32 rfl rfl ?_
      refine A_eS (kc2 := 0) (ks2 := 0) (As := [.int (nI (tk_vl f m t)), .int (nI (lo)), .int (nI (hi))]) (rest := []) hg lk_RX11_77 st_X11_inRange dX11_seesNumber_33 ⟨by decide, by decide⟩ rfl rfl ⟨by decide, by decide⟩ rfl rfl (Nat.le_of_ble_eq_true rfl) (c_X11_inRange G ex n σ (nI (tk_vl f m t)) (nI (lo)) (nI (hi))) ?_
      refine A_top (w := .int (q_b (decide (lo ≤ tk_vl f m t ∧ tk_vl f m t ≤ hi)))) (congrArg (fun z => Value.int (q_b z)) (tk_inN (by omega) lo hi hlo9 hhi9)) ?_
      refine A_if_neB (tgt := 45) hg dX11_seesNumber_36 (by decide) (fun c36 => ?_) (fun c36 => ?_)
      · skip
        refine A_aload_n hg dX11_seesNumber_45 rfl rfl ?_
        refine A_aload_n hg dX11_seesNumber_46 rfl rfl ?_
        refine A_getf (v := .int (nI (tk_vl f m t))) hg fl_RX11_268 dX11_seesNumber_47 hc0 (by omega) (congrArg (fun z => some (Value.int z)) hF28) ?_
        refine A_putf hg fl_RX11_295 dX11_seesNumber_50 hc0 (by omega) (Nat.le_of_ble_eq_true rfl) rfl rfl rfl (fun σ_4 hc_5 hf_6 => ?_)
        have hc_5 : σ_4 279 = o11 G (upd F 31 (nI (tk_vl f m t))) := hc_5
        refine A_iconst (v := (nI (1))) hg dX11_seesNumber_53 (by decide) ?_
        rw [hQ]
        exact A_zreturn hg (by decide) (by decide) rfl rfl dX11_seesNumber_54 ⟨rfl, Or.inr ((⟨rfl, (tk_nc_ok c5 c18 c36), hc_5, (fun i hi => (hf_6 i (by omega)))⟩))⟩
      · skip
        refine A_aload_n hg dX11_seesNumber_39 rfl rfl ?_
        refine A_iconst (v := (nI (2))) hg dX11_seesNumber_40 (by decide) ?_
        refine A_hV (kc2 := 0) (ks2 := 0) (As := [.int (nI (2))]) (rest := []) hg lk_RX11_292 in_X11_failsAt se_X11_failsAt rfl dX11_seesNumber_41 ⟨by decide, by decide⟩ rfl rfl ⟨by decide, by decide⟩ hc0 (by omega) rfl rfl (Nat.le_of_ble_eq_true rfl) (c_X11_failsAt G ex n σ F t 2 hc0 (by omega) hF24 hF27) ?_
        rintro _ σ_9 ⟨rfl, hc_7, hf_8⟩
        refine (?_ : AJ G K Q 0 0 ex n 44 [some (.ref (q_h G + 279)), some (.int (nI (lo))), some (.int (nI (hi)))] [.int (nI (0))] σ_9)
        have hc_7 : σ_9 279 = o11 G (upd (upd F 24 (nI (2))) 25 (nI (t))) := hc_7
        have hn1 : tk_nc f m t lo hi = 2 := tk_nc_2 c5 c18 c36
        have hz : σ_9 279 = o11 G (upd (upd F 24 (nI (tk_nc f m t lo hi))) 25 (nI t)) := by rw [hn1]; exact hc_7
        rw [hQ]
        exact A_zreturn hg (by decide) (by decide) rfl rfl dX11_seesNumber_44 ⟨rfl, Or.inl (⟨rfl, (by rw [hn1]; decide), hz, (fun i hi => (hf_8 i (by omega)))⟩)⟩
    · skip
      refine A_aload_n hg dX11_seesNumber_21 rfl rfl ?_
      refine A_iconst (v := (nI (1))) hg dX11_seesNumber_22 (by decide) ?_
      refine A_hV (kc2 := 0) (ks2 := 0) (As := [.int (nI (1))]) (rest := []) hg lk_RX11_292 in_X11_failsAt se_X11_failsAt rfl dX11_seesNumber_23 ⟨by decide, by decide⟩ rfl rfl ⟨by decide, by decide⟩ hc0 (by omega) rfl rfl (Nat.le_of_ble_eq_true rfl) (c_X11_failsAt G ex n σ F t 1 hc0 (by omega) hF24 hF27) ?_
      rintro _ σ_12 ⟨rfl, hc_10, hf_11⟩
      refine (?_ : AJ G K Q 0 0 ex n 26 [some (.ref (q_h G + 279)), some (.int (nI (lo))), some (.int (nI (hi)))] [.int (nI (0))] σ_12)
      have hc_10 : σ_12 279 = o11 G (upd (upd F 24 (nI (1))) 25 (nI (t))) := hc_10
      have hn1 : tk_nc f m t lo hi = 1 := tk_nc_1 (by first | exact fun z => c5 z.1 | exact fun z => c18 z.2)
      have hz : σ_12 279 = o11 G (upd (upd F 24 (nI (tk_nc f m t lo hi))) 25 (nI t)) := by rw [hn1]; exact hc_10
      rw [hQ]
      exact A_zreturn hg (by decide) (by decide) rfl rfl dX11_seesNumber_26 ⟨rfl, Or.inl (⟨rfl, (by rw [hn1]; decide), hz, (fun i hi => (hf_11 i (by omega)))⟩)⟩
end
