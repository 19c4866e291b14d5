section
set_option maxRecDepth 100000 in
set_option maxHeartbeats 4000000 in
theorem c_X6_clear (G : GL) (ex : Bool) (n : Nat) (σ : Nat → va_E) (pb : Nat) (b : Nat) (sk : Nat) (hc0 : σ pb = o6 G (pb) (nI (b)) (nI (sk))) (hpb : pb + 5 < n) : Ct G yX6_clear cX6_clear 1 none ⟨0, 0, 0, 0⟩ [.ref (q_h G + pb)] ex n σ (fun v9 σ2 => v9 = none ∧ σ2 pb = o6 G (pb) (nI (0)) (nI (0)) ∧ (∀ i : Nat, i ≠ pb → σ2 i = σ i)) := by
  refine q_enter [some (.ref (q_h G + pb))] (by decide) (Nat.le_of_ble_eq_true rfl) rfl ?_
  intro K hg
  obtain ⟨Q, hQ⟩ : ∃ Q, Q = q_Q G K ex n 0 0 (fun v9 n' σ' => n' = n ∧ (fun v9 σ2 => v9 = none ∧ σ2 pb = o6 G (pb) (nI (0)) (nI (0)) ∧ (∀ i : Nat, i ≠ pb → σ2 i = σ i)) v9 σ') q_noX := ⟨_, rfl⟩
  refine (?_ : AJ G K (q_Q G K ex n 0 0 _ _) 0 0 ex n 0 _ _ σ)
  rw [← hQ]
  refine A_aload_n hg dX6_clear_0 rfl rfl ?_
  refine A_iconst (v := (nI (0))) hg dX6_clear_1 (by decide) ?_
  refine A_putf hg fl_RX6_9 dX6_clear_2 hc0 (by omega) (Nat.le_of_ble_eq_true rfl) rfl rfl rfl (fun σ_1 hc_2 hf_3 => ?_)
  have hc_2 : σ_1 pb = o6 G (pb) (nI (0)) (nI (sk)) := hc_2
  refine A_aload_n hg dX6_clear_5 rfl rfl ?_
  refine A_iconst (v := (nI (0))) hg dX6_clear_6 (by decide) ?_
  refine A_putf hg fl_RX6_15 dX6_clear_7 hc_2 (by omega) (Nat.le_of_ble_eq_true rfl) rfl rfl rfl (fun σ_4 hc_5 hf_6 => ?_)
  have hc_5 : σ_4 pb = o6 G (pb) (nI (0)) (nI (0)) := hc_5
  rw [hQ]
  exact A_return hg (by decide) (by decide) rfl dX6_clear_10 ⟨rfl, ⟨rfl, hc_5, (fun i hi => ((hf_6 i (by omega)).trans (hf_3 i (by omega))))⟩⟩
set_option maxRecDepth 100000 in
set_option maxHeartbeats 4000000 in
theorem c_X6_many (G : GL) (ex : Bool) (n : Nat) (σ : Nat → va_E) (pb : Nat) (b : Nat) (sk : Nat) (hc0 : σ pb = o6 G (pb) (nI (b)) (nI (sk))) (hpb : pb + 5 < n) : Ct G yX6_many cX6_many 1 (some .int) ⟨0, 0, 0, 0⟩ [.ref (q_h G + pb)] ex n σ (fun v9 σ2 => σ2 = σ ∧ v9 = some (.int (nI (b + sk)))) := by
  refine q_enter [some (.ref (q_h G + pb))] (by decide) (Nat.le_of_ble_eq_true rfl) rfl ?_
  intro K hg
  obtain ⟨Q, hQ⟩ : ∃ Q, Q = q_Q G K ex n 0 0 (fun v9 n' σ' => n' = n ∧ (fun v9 σ2 => σ2 = σ ∧ v9 = some (.int (nI (b + sk)))) v9 σ') q_noX := ⟨_, rfl⟩
  refine (?_ : AJ G K (q_Q G K ex n 0 0 _ _) 0 0 ex n 0 _ _ σ)
  rw [← hQ]
  refine A_aload_n hg dX6_many_0 rfl rfl ?_
  refine A_getf (v := .int (nI (b))) hg fl_RX6_9 dX6_many_1 hc0 (by omega) rfl ?_
  refine A_aload_n hg dX6_many_4 rfl rfl ?_
  refine A_getf (v := .int (nI (sk))) hg fl_RX6_15 dX6_many_5 hc0 (by omega) rfl ?_
  refine A_iaddN hg dX6_many_8 ?_
  rw [hQ]
  exact A_ireturn hg (by decide) (by decide) rfl dX6_many_9 ⟨rfl, ⟨rfl, rfl⟩⟩
set_option maxRecDepth 100000 in
set_option maxHeartbeats 4000000 in
theorem c_X6_isBoard (G : GL) (ex : Bool) (n : Nat) (σ : Nat → va_E) (pb : Nat) (b : Nat) (sk : Nat) (p : Nat) (hc0 : σ pb = o6 G (pb) (nI (b)) (nI (sk))) (hpb : pb + 5 < n) (hb4 : b ≤ 4) (hp31 : p < 2 ^ 31) : Ct G yX6_isBoard cX6_isBoard 2 (some .boolean) ⟨0, 0, 0, 0⟩ [.ref (q_h G + pb), .int (nI (p))] ex n σ (fun v9 σ2 => σ2 = σ ∧ v9 = some (.int (q_b (decide (p < b))))) := by
  refine q_enter [some (.ref (q_h G + pb)), some (.int (nI (p)))] (by decide) (Nat.le_of_ble_eq_true rfl) rfl ?_
  intro K hg
  obtain ⟨Q, hQ⟩ : ∃ Q, Q = q_Q G K ex n 0 0 (fun v9 n' σ' => n' = n ∧ (fun v9 σ2 => σ2 = σ ∧ v9 = some (.int (q_b (decide (p < b))))) v9 σ') q_noX := ⟨_, rfl⟩
  refine (?_ : AJ G K (q_Q G K ex n 0 0 _ _) 0 0 ex n 0 _ _ σ)
  rw [← hQ]
  refine A_iload_n hg dX6_isBoard_0 rfl rfl ?_
  refine A_aload_n hg dX6_isBoard_1 rfl rfl ?_
  refine A_getf (v := .int (nI (b))) hg fl_RX6_9 dX6_isBoard_2 hc0 (by omega) rfl ?_
  refine A_icmp_geN (tgt := 12) hg dX6_isBoard_5 (by omega) (by omega) (by decide) (fun c5 => ?_) (fun c5 => ?_)
  · skip
    refine A_iconst (v := (nI (0))) hg dX6_isBoard_12 (by decide) ?_
    rw [hQ]
    exact A_zreturn hg (by decide) (by decide) rfl rfl dX6_isBoard_13 ⟨rfl, ⟨rfl, (q_rf (decide_eq_false (by omega)))⟩⟩
  · skip
    refine A_iconst (v := (nI (1))) hg dX6_isBoard_8 (by decide) ?_
    refine A_goto (tgt := 13) hg dX6_isBoard_9 (by decide) ?_
    rw [hQ]
    exact A_zreturn hg (by decide) (by decide) rfl rfl dX6_isBoard_13 ⟨rfl, ⟨rfl, (q_rt (decide_eq_true (by omega)))⟩⟩
set_option maxRecDepth 100000 in
set_option maxHeartbeats 4000000 in
theorem c_X6_at (G : GL) (ex : Bool) (n : Nat) (σ : Nat → va_E) (pb : Nat) (b : Nat) (sk : Nat) (q : Nat) (f : Nat → Nat) (p : Nat) (hc0 : σ pb = o6 G (pb) (nI (b)) (nI (sk))) (hc1 : σ q = q_an G 8 f) (hpb : pb + 5 < n) (hq : q < n) (hb4 : b ≤ 4) (hp8 : p < b + 4) : Ct G yX6_at cX6_at 4 (some .int) ⟨0, 0, 0, 0⟩ [.ref (q_h G + pb), .ref (q_h G + q), .int (nI (p))] ex n σ (fun v9 σ2 => σ2 = σ ∧ v9 = some (.int (nI (f (x_pl b p))))) := by
  refine q_enter [some (.ref (q_h G + pb)), some (.ref (q_h G + q)), some (.int (nI (p))), none] (by decide) (Nat.le_of_ble_eq_true rfl) rfl ?_
  intro K hg
  obtain ⟨Q, hQ⟩ : ∃ Q, Q = q_Q G K ex n 0 0 (fun v9 n' σ' => n' = n ∧ (fun v9 σ2 => σ2 = σ ∧ v9 = some (.int (nI (f (x_pl b p))))) v9 σ') q_noX := ⟨_, rfl⟩
  refine (?_ : AJ G K (q_Q G K ex n 0 0 _ _) 0 0 ex n 0 _ _ σ)
  rw [← hQ]
  refine A_iload_n hg dX6_at_0 rfl rfl ?_
  refine A_aload_n hg dX6_at_1 rfl rfl ?_
  refine A_getf (v := .int (nI (b))) hg fl_RX6_9 dX6_at_2 hc0 (by omega) rfl ?_
  refine A_icmp_geN (tgt := 12) hg dX6_at_5 (by omega) (by omega) (by decide) (fun c5 => ?_) (fun c5 => ?_)
  · skip
    refine A_iconst (v := (nI (4))) hg dX6_at_12 (by decide) ?_
    refine A_iload_n hg dX6_at_13 rfl rfl ?_
    refine A_iaddN hg dX6_at_14 ?_
    refine A_aload_n hg dX6_at_15 rfl rfl ?_
    refine A_getf (v := .int (nI (b))) hg fl_RX6_9 dX6_at_16 hc0 (by omega) rfl ?_
    refine A_isubN hg dX6_at_19 (by omega) ?_
    refine A_istore_n hg dX6_at_20 rfl (by decide) (q_c1d rfl) ?_
    refine A_eq (ls2 := [some (.ref (q_h G + pb)), some (.ref (q_h G + q)), some (.int (nI (p))), some (.int (nI ((4 + p) - b)))]) (st2 := []) (pc2 := 0) rfl rfl ?_
    refine A_iload_n hg dX6_at_21 rfl rfl ?_
    refine A_if_ltN (tgt := 37) hg dX6_at_22 (by omega) (by decide) ?_
    refine A_iload_n hg dX6_at_25 rfl rfl ?_
    refine A_aload_n hg dX6_at_26 rfl rfl ?_
    refine A_alen (t := 0) (len := 8) hg dX6_at_27 hc1 (by decide) (by omega) ?_
    refine A_icmp_geN (tgt := 37) hg dX6_at_28 (by omega) (by decide) (by decide) (fun c28 => absurd c28 (by omega)) (fun c28 => ?_)
    refine A_aload_n hg dX6_at_31 rfl rfl ?_
    refine A_iload_n hg dX6_at_32 rfl rfl ?_
    refine A_iald (j := ((4 + p) - b)) hg dX6_at_33 hc1 (by omega) (by omega) (by decide) ?_
    refine A_goto (tgt := 38) hg dX6_at_34 (by decide) ?_
    rw [hQ]
    exact A_ireturn hg (by decide) (by decide) rfl dX6_at_38 ⟨rfl, ⟨rfl, (by first | rw [x_pl_b (show p < b by omega)] | rw [x_pl_s (show ¬ p < b by omega)])⟩⟩
  · skip
    refine A_iload_n hg dX6_at_8 rfl rfl ?_
    refine A_goto (tgt := 20) hg dX6_at_9 (by decide) ?_
    refine A_istore_n hg dX6_at_20 rfl (by decide) (q_c1d rfl) ?_
    refine A_eq (ls2 := [some (.ref (q_h G + pb)), some (.ref (q_h G + q)), some (.int (nI (p))), some (.int (nI (p)))]) (st2 := []) (pc2 := 0) rfl rfl ?_
    refine A_iload_n hg dX6_at_21 rfl rfl ?_
    refine A_if_ltN (tgt := 37) hg dX6_at_22 (by omega) (by decide) ?_
    refine A_iload_n hg dX6_at_25 rfl rfl ?_
    refine A_aload_n hg dX6_at_26 rfl rfl ?_
    refine A_alen (t := 0) (len := 8) hg dX6_at_27 hc1 (by decide) (by omega) ?_
    refine A_icmp_geN (tgt := 37) hg dX6_at_28 (by omega) (by decide) (by decide) (fun c28 => absurd c28 (by omega)) (fun c28 => ?_)
    refine A_aload_n hg dX6_at_31 rfl rfl ?_
    refine A_iload_n hg dX6_at_32 rfl rfl ?_
    refine A_iald (j := p) hg dX6_at_33 hc1 (by omega) (by omega) (by decide) ?_
    refine A_goto (tgt := 38) hg dX6_at_34 (by decide) ?_
    rw [hQ]
    exact A_ireturn hg (by decide) (by decide) rfl dX6_at_38 ⟨rfl, ⟨rfl, (by first | rw [x_pl_b (show p < b by omega)] | rw [x_pl_s (show ¬ p < b by omega)])⟩⟩
set_option maxRecDepth 100000 in
set_option maxHeartbeats 4000000 in
theorem c_X6_kindOf (G : GL) (ex : Bool) (n : Nat) (σ : Nat → va_E) (pb : Nat) (b : Nat) (sk : Nat) (kd : Nat → Nat) (p : Nat) (hc0 : σ pb = o6 G (pb) (nI (b)) (nI (sk))) (hc1 : σ (pb + 1) = q_an G 8 kd) (hpb : pb + 5 < n) (hb4 : b ≤ 4) (hp8 : p < b + 4) : Ct G yX6_kindOf cX6_kindOf 2 (some .int) ⟨1, 0, 0, 23⟩ [.ref (q_h G + pb), .int (nI (p))] ex n σ (fun v9 σ2 => σ2 = σ ∧ v9 = some (.int (nI (kd (x_pl b p))))) := by
  refine q_enter [some (.ref (q_h G + pb)), some (.int (nI (p)))] (by decide) (Nat.le_of_ble_eq_true rfl) rfl ?_
  intro K hg
  obtain ⟨Q, hQ⟩ : ∃ Q, Q = q_Q G K ex n 0 0 (fun v9 n' σ' => n' = n ∧ (fun v9 σ2 => σ2 = σ ∧ v9 = some (.int (nI (kd (x_pl b p))))) v9 σ') q_noX := ⟨_, rfl⟩
  refine (?_ : AJ G K (q_Q G K ex n 0 0 _ _) 0 0 ex n 0 _ _ σ)
  rw [← hQ]
  refine A_aload_n hg dX6_kindOf_0 rfl rfl ?_
  refine A_aload_n hg dX6_kindOf_1 rfl rfl ?_
  refine A_getf (v := .ref (q_h G + (pb + 1))) hg fl_RX6_18 dX6_kindOf_2 hc0 (by omega) rfl ?_
  refine A_iload_n hg dX6_kindOf_5 rfl rfl ?_
  refine A_eV (kc2 := 0) (ks2 := 0) (As := [.ref (q_h G + (pb + 1)), .int (nI (p))]) (rest := []) hg lk_RX6_44 in_X6_at se_X6_at rfl dX6_kindOf_6 ⟨by decide, by decide⟩ rfl rfl ⟨by decide, by decide⟩ hc0 (by omega) rfl rfl (Nat.le_of_ble_eq_true rfl) (c_X6_at G ex n σ pb b sk (pb + 1) kd p hc0 hc1 (by omega) (by omega) (by omega) (by omega)) ?_
  rw [hQ]
  exact A_ireturn hg (by decide) (by decide) rfl dX6_kindOf_9 ⟨rfl, ⟨rfl, rfl⟩⟩
set_option maxRecDepth 100000 in
set_option maxHeartbeats 4000000 in
theorem c_X6_firstOf (G : GL) (ex : Bool) (n : Nat) (σ : Nat → va_E) (pb : Nat) (b : Nat) (sk : Nat) (fi : Nat → Nat) (p : Nat) (hc0 : σ pb = o6 G (pb) (nI (b)) (nI (sk))) (hc1 : σ (pb + 2) = q_an G 8 fi) (hpb : pb + 5 < n) (hb4 : b ≤ 4) (hp8 : p < b + 4) : Ct G yX6_firstOf cX6_firstOf 2 (some .int) ⟨1, 0, 0, 23⟩ [.ref (q_h G + pb), .int (nI (p))] ex n σ (fun v9 σ2 => σ2 = σ ∧ v9 = some (.int (nI (fi (x_pl b p))))) := by
  refine q_enter [some (.ref (q_h G + pb)), some (.int (nI (p)))] (by decide) (Nat.le_of_ble_eq_true rfl) rfl ?_
  intro K hg
  obtain ⟨Q, hQ⟩ : ∃ Q, Q = q_Q G K ex n 0 0 (fun v9 n' σ' => n' = n ∧ (fun v9 σ2 => σ2 = σ ∧ v9 = some (.int (nI (fi (x_pl b p))))) v9 σ') q_noX := ⟨_, rfl⟩
  refine (?_ : AJ G K (q_Q G K ex n 0 0 _ _) 0 0 ex n 0 _ _ σ)
  rw [← hQ]
  refine A_aload_n hg dX6_firstOf_0 rfl rfl ?_
  refine A_aload_n hg dX6_firstOf_1 rfl rfl ?_
  refine A_getf (v := .ref (q_h G + (pb + 2))) hg fl_RX6_22 dX6_firstOf_2 hc0 (by omega) rfl ?_
  refine A_iload_n hg dX6_firstOf_5 rfl rfl ?_
  refine A_eV (kc2 := 0) (ks2 := 0) (As := [.ref (q_h G + (pb + 2)), .int (nI (p))]) (rest := []) hg lk_RX6_44 in_X6_at se_X6_at rfl dX6_firstOf_6 ⟨by decide, by decide⟩ rfl rfl ⟨by decide, by decide⟩ hc0 (by omega) rfl rfl (Nat.le_of_ble_eq_true rfl) (c_X6_at G ex n σ pb b sk (pb + 2) fi p hc0 hc1 (by omega) (by omega) (by omega) (by omega)) ?_
  rw [hQ]
  exact A_ireturn hg (by decide) (by decide) rfl dX6_firstOf_9 ⟨rfl, ⟨rfl, rfl⟩⟩
set_option maxRecDepth 100000 in
set_option maxHeartbeats 4000000 in
theorem c_X6_secondOf (G : GL) (ex : Bool) (n : Nat) (σ : Nat → va_E) (pb : Nat) (b : Nat) (sk : Nat) (se : Nat → Nat) (p : Nat) (hc0 : σ pb = o6 G (pb) (nI (b)) (nI (sk))) (hc1 : σ (pb + 3) = q_an G 8 se) (hpb : pb + 5 < n) (hb4 : b ≤ 4) (hp8 : p < b + 4) : Ct G yX6_secondOf cX6_secondOf 2 (some .int) ⟨1, 0, 0, 23⟩ [.ref (q_h G + pb), .int (nI (p))] ex n σ (fun v9 σ2 => σ2 = σ ∧ v9 = some (.int (nI (se (x_pl b p))))) := by
  refine q_enter [some (.ref (q_h G + pb)), some (.int (nI (p)))] (by decide) (Nat.le_of_ble_eq_true rfl) rfl ?_
  intro K hg
  obtain ⟨Q, hQ⟩ : ∃ Q, Q = q_Q G K ex n 0 0 (fun v9 n' σ' => n' = n ∧ (fun v9 σ2 => σ2 = σ ∧ v9 = some (.int (nI (se (x_pl b p))))) v9 σ') q_noX := ⟨_, rfl⟩
  refine (?_ : AJ G K (q_Q G K ex n 0 0 _ _) 0 0 ex n 0 _ _ σ)
  rw [← hQ]
  refine A_aload_n hg dX6_secondOf_0 rfl rfl ?_
  refine A_aload_n hg dX6_secondOf_1 rfl rfl ?_
  refine A_getf (v := .ref (q_h G + (pb + 3))) hg fl_RX6_25 dX6_secondOf_2 hc0 (by omega) rfl ?_
  refine A_iload_n hg dX6_secondOf_5 rfl rfl ?_
  refine A_eV (kc2 := 0) (ks2 := 0) (As := [.ref (q_h G + (pb + 3)), .int (nI (p))]) (rest := []) hg lk_RX6_44 in_X6_at se_X6_at rfl dX6_secondOf_6 ⟨by decide, by decide⟩ rfl rfl ⟨by decide, by decide⟩ hc0 (by omega) rfl rfl (Nat.le_of_ble_eq_true rfl) (c_X6_at G ex n σ pb b sk (pb + 3) se p hc0 hc1 (by omega) (by omega) (by omega) (by omega)) ?_
  rw [hQ]
  exact A_ireturn hg (by decide) (by decide) rfl dX6_secondOf_9 ⟨rfl, ⟨rfl, rfl⟩⟩
set_option maxRecDepth 100000 in
set_option maxHeartbeats 4000000 in
theorem c_X6_toldFirstOf (G : GL) (ex : Bool) (n : Nat) (σ : Nat → va_E) (pb : Nat) (b : Nat) (sk : Nat) (tf : Nat → Nat) (p : Nat) (hc0 : σ pb = o6 G (pb) (nI (b)) (nI (sk))) (hc1 : σ (pb + 4) = q_an G 8 tf) (hpb : pb + 5 < n) (hb4 : b ≤ 4) (hp8 : p < b + 4) : Ct G yX6_toldFirstOf cX6_toldFirstOf 2 (some .int) ⟨1, 0, 0, 23⟩ [.ref (q_h G + pb), .int (nI (p))] ex n σ (fun v9 σ2 => σ2 = σ ∧ v9 = some (.int (nI (tf (x_pl b p))))) := by
  refine q_enter [some (.ref (q_h G + pb)), some (.int (nI (p)))] (by decide) (Nat.le_of_ble_eq_true rfl) rfl ?_
  intro K hg
  obtain ⟨Q, hQ⟩ : ∃ Q, Q = q_Q G K ex n 0 0 (fun v9 n' σ' => n' = n ∧ (fun v9 σ2 => σ2 = σ ∧ v9 = some (.int (nI (tf (x_pl b p))))) v9 σ') q_noX := ⟨_, rfl⟩
  refine (?_ : AJ G K (q_Q G K ex n 0 0 _ _) 0 0 ex n 0 _ _ σ)
  rw [← hQ]
  refine A_aload_n hg dX6_toldFirstOf_0 rfl rfl ?_
  refine A_aload_n hg dX6_toldFirstOf_1 rfl rfl ?_
  refine A_getf (v := .ref (q_h G + (pb + 4))) hg fl_RX6_28 dX6_toldFirstOf_2 hc0 (by omega) rfl ?_
  refine A_iload_n hg dX6_toldFirstOf_5 rfl rfl ?_
  refine A_eV (kc2 := 0) (ks2 := 0) (As := [.ref (q_h G + (pb + 4)), .int (nI (p))]) (rest := []) hg lk_RX6_44 in_X6_at se_X6_at rfl dX6_toldFirstOf_6 ⟨by decide, by decide⟩ rfl rfl ⟨by decide, by decide⟩ hc0 (by omega) rfl rfl (Nat.le_of_ble_eq_true rfl) (c_X6_at G ex n σ pb b sk (pb + 4) tf p hc0 hc1 (by omega) (by omega) (by omega) (by omega)) ?_
  rw [hQ]
  exact A_ireturn hg (by decide) (by decide) rfl dX6_toldFirstOf_9 ⟨rfl, ⟨rfl, rfl⟩⟩
set_option maxRecDepth 100000 in
set_option maxHeartbeats 4000000 in
theorem c_X6_toldSecondOf (G : GL) (ex : Bool) (n : Nat) (σ : Nat → va_E) (pb : Nat) (b : Nat) (sk : Nat) (ts : Nat → Nat) (p : Nat) (hc0 : σ pb = o6 G (pb) (nI (b)) (nI (sk))) (hc1 : σ (pb + 5) = q_an G 8 ts) (hpb : pb + 5 < n) (hb4 : b ≤ 4) (hp8 : p < b + 4) : Ct G yX6_toldSecondOf cX6_toldSecondOf 2 (some .int) ⟨1, 0, 0, 23⟩ [.ref (q_h G + pb), .int (nI (p))] ex n σ (fun v9 σ2 => σ2 = σ ∧ v9 = some (.int (nI (ts (x_pl b p))))) := by
  refine q_enter [some (.ref (q_h G + pb)), some (.int (nI (p)))] (by decide) (Nat.le_of_ble_eq_true rfl) rfl ?_
  intro K hg
  obtain ⟨Q, hQ⟩ : ∃ Q, Q = q_Q G K ex n 0 0 (fun v9 n' σ' => n' = n ∧ (fun v9 σ2 => σ2 = σ ∧ v9 = some (.int (nI (ts (x_pl b p))))) v9 σ') q_noX := ⟨_, rfl⟩
  refine (?_ : AJ G K (q_Q G K ex n 0 0 _ _) 0 0 ex n 0 _ _ σ)
  rw [← hQ]
  refine A_aload_n hg dX6_toldSecondOf_0 rfl rfl ?_
  refine A_aload_n hg dX6_toldSecondOf_1 rfl rfl ?_
  refine A_getf (v := .ref (q_h G + (pb + 5))) hg fl_RX6_31 dX6_toldSecondOf_2 hc0 (by omega) rfl ?_
  refine A_iload_n hg dX6_toldSecondOf_5 rfl rfl ?_
  refine A_eV (kc2 := 0) (ks2 := 0) (As := [.ref (q_h G + (pb + 5)), .int (nI (p))]) (rest := []) hg lk_RX6_44 in_X6_at se_X6_at rfl dX6_toldSecondOf_6 ⟨by decide, by decide⟩ rfl rfl ⟨by decide, by decide⟩ hc0 (by omega) rfl rfl (Nat.le_of_ble_eq_true rfl) (c_X6_at G ex n σ pb b sk (pb + 5) ts p hc0 hc1 (by omega) (by omega) (by omega) (by omega)) ?_
  rw [hQ]
  exact A_ireturn hg (by decide) (by decide) rfl dX6_toldSecondOf_9 ⟨rfl, ⟨rfl, rfl⟩⟩
set_option maxRecDepth 100000 in
set_option maxHeartbeats 4000000 in
theorem c_X6_putTold (G : GL) (ex : Bool) (n : Nat) (σ : Nat → va_E) (pb : Nat) (b : Nat) (sk : Nat) (kd : Nat → Nat) (fi : Nat → Nat) (se : Nat → Nat) (tf : Nat → Nat) (ts : Nat → Nat) (p : Nat) (kx : Nat) (fx : Nat) (sx : Nat) (hc0 : σ pb = o6 G (pb) (nI (b)) (nI (sk))) (hc1 : σ (pb + 1) = q_an G 8 kd) (hc2 : σ (pb + 2) = q_an G 8 fi) (hc3 : σ (pb + 3) = q_an G 8 se) (hc4 : σ (pb + 4) = q_an G 8 tf) (hc5 : σ (pb + 5) = q_an G 8 ts) (hpb : pb + 5 < n) (hp8 : p < 8) : Ct G yX6_putTold cX6_putTold 5 none ⟨0, 0, 0, 0⟩ [.ref (q_h G + pb), .int (nI (p)), .int (nI (kx)), .int (nI (fx)), .int (nI (sx))] ex n σ (fun v9 σ2 => v9 = none ∧ σ2 (pb + 1) = q_an G 8 (va_up kd p kx) ∧ σ2 (pb + 2) = q_an G 8 (va_up fi p fx) ∧ σ2 (pb + 3) = q_an G 8 (va_up se p sx) ∧ σ2 (pb + 4) = q_an G 8 (va_up tf p fx) ∧ σ2 (pb + 5) = q_an G 8 (va_up ts p sx) ∧ (∀ i : Nat, i ≤ pb ∨ pb + 5 < i → σ2 i = σ i)) := by
  refine q_enter [some (.ref (q_h G + pb)), some (.int (nI (p))), some (.int (nI (kx))), some (.int (nI (fx))), some (.int (nI (sx)))] (by decide) (Nat.le_of_ble_eq_true rfl) rfl ?_
  intro K hg
  obtain ⟨Q, hQ⟩ : ∃ Q, Q = q_Q G K ex n 0 0 (fun v9 n' σ' => n' = n ∧ (fun v9 σ2 => v9 = none ∧ σ2 (pb + 1) = q_an G 8 (va_up kd p kx) ∧ σ2 (pb + 2) = q_an G 8 (va_up fi p fx) ∧ σ2 (pb + 3) = q_an G 8 (va_up se p sx) ∧ σ2 (pb + 4) = q_an G 8 (va_up tf p fx) ∧ σ2 (pb + 5) = q_an G 8 (va_up ts p sx) ∧ (∀ i : Nat, i ≤ pb ∨ pb + 5 < i → σ2 i = σ i)) v9 σ') q_noX := ⟨_, rfl⟩
  refine (?_ : AJ G K (q_Q G K ex n 0 0 _ _) 0 0 ex n 0 _ _ σ)
  rw [← hQ]
  refine A_iload_n hg dX6_putTold_0 rfl rfl ?_
  refine A_if_ltN (tgt := 50) hg dX6_putTold_1 (by omega) (by decide) ?_
  refine A_iload_n hg dX6_putTold_4 rfl rfl ?_
  refine A_aload_n hg dX6_putTold_5 rfl rfl ?_
  refine A_getf (v := .ref (q_h G + (pb + 1))) hg fl_RX6_18 dX6_putTold_6 hc0 (by omega) rfl ?_
  refine A_alen (t := 0) (len := 8) hg dX6_putTold_9 hc1 (by decide) (by omega) ?_
  refine A_icmp_geN (tgt := 50) hg dX6_putTold_10 (by omega) (by decide) (by decide) (fun c10 => absurd c10 (by omega)) (fun c10 => ?_)
  refine A_aload_n hg dX6_putTold_13 rfl rfl ?_
  refine A_getf (v := .ref (q_h G + (pb + 1))) hg fl_RX6_18 dX6_putTold_14 hc0 (by omega) rfl ?_
  refine A_iload_n hg dX6_putTold_17 rfl rfl ?_
  refine A_iload_n hg dX6_putTold_18 rfl rfl ?_
  refine A_iast (j := p) (x := kx) hg dX6_putTold_19 hc1 (by omega) (by omega) (by decide) (fun σ_1 hc_2 hf_3 => ?_)
  have hc_4 : σ_1 pb = o6 G (pb) (nI (b)) (nI (sk)) := (hf_3 _ (by omega)).trans hc0
  have hc_5 : σ_1 (pb + 2) = q_an G 8 fi := (hf_3 _ (by omega)).trans hc2
  have hc_6 : σ_1 (pb + 3) = q_an G 8 se := (hf_3 _ (by omega)).trans hc3
  have hc_7 : σ_1 (pb + 4) = q_an G 8 tf := (hf_3 _ (by omega)).trans hc4
  have hc_8 : σ_1 (pb + 5) = q_an G 8 ts := (hf_3 _ (by omega)).trans hc5
  refine A_aload_n hg dX6_putTold_20 rfl rfl ?_
  refine A_getf (v := .ref (q_h G + (pb + 2))) hg fl_RX6_22 dX6_putTold_21 hc_4 (by omega) rfl ?_
  refine A_iload_n hg dX6_putTold_24 rfl rfl ?_
  refine A_iload_n hg dX6_putTold_25 rfl rfl ?_
  refine A_iast (j := p) (x := fx) hg dX6_putTold_26 hc_5 (by omega) (by omega) (by decide) (fun σ_9 hc_10 hf_11 => ?_)
  have hc_12 : σ_9 pb = o6 G (pb) (nI (b)) (nI (sk)) := (hf_11 _ (by omega)).trans hc_4
  have hc_13 : σ_9 (pb + 3) = q_an G 8 se := (hf_11 _ (by omega)).trans hc_6
  have hc_14 : σ_9 (pb + 4) = q_an G 8 tf := (hf_11 _ (by omega)).trans hc_7
  have hc_15 : σ_9 (pb + 5) = q_an G 8 ts := (hf_11 _ (by omega)).trans hc_8
  have hc_16 : σ_9 (pb + 1) = q_an G 8 (va_up kd p kx) := (hf_11 _ (by omega)).trans hc_2
  refine A_aload_n hg dX6_putTold_27 rfl rfl ?_
  refine A_getf (v := .ref (q_h G + (pb + 3))) hg fl_RX6_25 dX6_putTold_28 hc_12 (by omega) rfl ?_
  refine A_iload_n hg dX6_putTold_31 rfl rfl ?_
  refine A_iload hg dX6_putTold_32 rfl ?_
  refine A_iast (j := p) (x := sx) hg dX6_putTold_34 hc_13 (by omega) (by omega) (by decide) (fun σ_17 hc_18 hf_19 => ?_)
  have hc_20 : σ_17 pb = o6 G (pb) (nI (b)) (nI (sk)) := (hf_19 _ (by omega)).trans hc_12
  have hc_21 : σ_17 (pb + 4) = q_an G 8 tf := (hf_19 _ (by omega)).trans hc_14
  have hc_22 : σ_17 (pb + 5) = q_an G 8 ts := (hf_19 _ (by omega)).trans hc_15
  have hc_23 : σ_17 (pb + 1) = q_an G 8 (va_up kd p kx) := (hf_19 _ (by omega)).trans hc_16
  have hc_24 : σ_17 (pb + 2) = q_an G 8 (va_up fi p fx) := (hf_19 _ (by omega)).trans hc_10
  refine A_aload_n hg dX6_putTold_35 rfl rfl ?_
  refine A_getf (v := .ref (q_h G + (pb + 4))) hg fl_RX6_28 dX6_putTold_36 hc_20 (by omega) rfl ?_
  refine A_iload_n hg dX6_putTold_39 rfl rfl ?_
  refine A_iload_n hg dX6_putTold_40 rfl rfl ?_
  refine A_iast (j := p) (x := fx) hg dX6_putTold_41 hc_21 (by omega) (by omega) (by decide) (fun σ_25 hc_26 hf_27 => ?_)
  have hc_28 : σ_25 pb = o6 G (pb) (nI (b)) (nI (sk)) := (hf_27 _ (by omega)).trans hc_20
  have hc_29 : σ_25 (pb + 5) = q_an G 8 ts := (hf_27 _ (by omega)).trans hc_22
  have hc_30 : σ_25 (pb + 1) = q_an G 8 (va_up kd p kx) := (hf_27 _ (by omega)).trans hc_23
  have hc_31 : σ_25 (pb + 2) = q_an G 8 (va_up fi p fx) := (hf_27 _ (by omega)).trans hc_24
  have hc_32 : σ_25 (pb + 3) = q_an G 8 (va_up se p sx) := (hf_27 _ (by omega)).trans hc_18
  refine A_aload_n hg dX6_putTold_42 rfl rfl ?_
  refine A_getf (v := .ref (q_h G + (pb + 5))) hg fl_RX6_31 dX6_putTold_43 hc_28 (by omega) rfl ?_
  refine A_iload_n hg dX6_putTold_46 rfl rfl ?_
  refine A_iload hg dX6_putTold_47 rfl ?_
  refine A_iast (j := p) (x := sx) hg dX6_putTold_49 hc_29 (by omega) (by omega) (by decide) (fun σ_33 hc_34 hf_35 => ?_)
  have hc_36 : σ_33 pb = o6 G (pb) (nI (b)) (nI (sk)) := (hf_35 _ (by omega)).trans hc_28
  have hc_37 : σ_33 (pb + 1) = q_an G 8 (va_up kd p kx) := (hf_35 _ (by omega)).trans hc_30
  have hc_38 : σ_33 (pb + 2) = q_an G 8 (va_up fi p fx) := (hf_35 _ (by omega)).trans hc_31
  have hc_39 : σ_33 (pb + 3) = q_an G 8 (va_up se p sx) := (hf_35 _ (by omega)).trans hc_32
  have hc_40 : σ_33 (pb + 4) = q_an G 8 (va_up tf p fx) := (hf_35 _ (by omega)).trans hc_26
  rw [hQ]
  exact A_return hg (by decide) (by decide) rfl dX6_putTold_50 ⟨rfl, ⟨rfl, hc_37, hc_38, hc_39, hc_40, hc_34, (fun i hi => ((hf_35 i (by omega)).trans ((hf_27 i (by omega)).trans ((hf_19 i (by omega)).trans ((hf_11 i (by omega)).trans (hf_3 i (by omega)))))))⟩⟩
set_option maxRecDepth 100000 in
set_option maxHeartbeats 4000000 in
theorem c_X6_addBoard (G : GL) (ex : Bool) (n : Nat) (σ : Nat → va_E) (pb : Nat) (b : Nat) (sk : Nat) (kd : Nat → Nat) (fi : Nat → Nat) (se : Nat → Nat) (tf : Nat → Nat) (ts : Nat → Nat) (r : Nat) (x : Nat) (y : Nat) (hc0 : σ pb = o6 G (pb) (nI (b)) (nI (sk))) (hc1 : σ (pb + 1) = q_an G 8 kd) (hc2 : σ (pb + 2) = q_an G 8 fi) (hc3 : σ (pb + 3) = q_an G 8 se) (hc4 : σ (pb + 4) = q_an G 8 tf) (hc5 : σ (pb + 5) = q_an G 8 ts) (hpb : pb + 5 < n) (hb4 : b < 4) : Ct G yX6_addBoard cX6_addBoard 4 none ⟨1, 0, 0, 24⟩ [.ref (q_h G + pb), .int (nI (r)), .int (nI (x)), .int (nI (y))] ex n σ (fun v9 σ2 => v9 = none ∧ σ2 pb = o6 G (pb) (nI (b + 1)) (nI (sk)) ∧ σ2 (pb + 1) = q_an G 8 (va_up kd b r) ∧ σ2 (pb + 2) = q_an G 8 (va_up fi b x) ∧ σ2 (pb + 3) = q_an G 8 (va_up se b y) ∧ σ2 (pb + 4) = q_an G 8 (va_up tf b x) ∧ σ2 (pb + 5) = q_an G 8 (va_up ts b y) ∧ (∀ i : Nat, i < pb ∨ pb + 5 < i → σ2 i = σ i)) := by
  refine q_enter [some (.ref (q_h G + pb)), some (.int (nI (r))), some (.int (nI (x))), some (.int (nI (y)))] (by decide) (Nat.le_of_ble_eq_true rfl) rfl ?_
  intro K hg
  obtain ⟨Q, hQ⟩ : ∃ Q, Q = q_Q G K ex n 0 0 (fun v9 n' σ' => n' = n ∧ (fun v9 σ2 => v9 = none ∧ σ2 pb = o6 G (pb) (nI (b + 1)) (nI (sk)) ∧ σ2 (pb + 1) = q_an G 8 (va_up kd b r) ∧ σ2 (pb + 2) = q_an G 8 (va_up fi b x) ∧ σ2 (pb + 3) = q_an G 8 (va_up se b y) ∧ σ2 (pb + 4) = q_an G 8 (va_up tf b x) ∧ σ2 (pb + 5) = q_an G 8 (va_up ts b y) ∧ (∀ i : Nat, i < pb ∨ pb + 5 < i → σ2 i = σ i)) v9 σ') q_noX := ⟨_, rfl⟩
  refine (?_ : AJ G K (q_Q G K ex n 0 0 _ _) 0 0 ex n 0 _ _ σ)
  rw [← hQ]
  refine A_aload_n hg dX6_addBoard_0 rfl rfl ?_
  refine A_getf (v := .int (nI (b))) hg fl_RX6_9 dX6_addBoard_1 hc0 (by omega) rfl ?_
  refine A_iconst (v := (nI (4))) hg dX6_addBoard_4 (by decide) ?_
  refine A_icmp_geN (tgt := 29) hg dX6_addBoard_5 (by omega) (by decide) (by decide) (fun c5 => absurd c5 (by omega)) (fun c5 => ?_)
  refine A_aload_n hg dX6_addBoard_8 rfl rfl ?_
  refine A_aload_n hg dX6_addBoard_9 rfl rfl ?_
  refine A_getf (v := .int (nI (b))) hg fl_RX6_9 dX6_addBoard_10 hc0 (by omega) rfl ?_
  refine A_iload_n hg dX6_addBoard_13 rfl rfl ?_
  refine A_iload_n hg dX6_addBoard_14 rfl rfl ?_
  refine A_iload_n hg dX6_addBoard_15 rfl rfl ?_
  refine A_vV (kc2 := 0) (ks2 := 0) (As := [.int (nI (b)), .int (nI (r)), .int (nI (x)), .int (nI (y))]) (rest := []) hg lk_RX6_40 in_X6_putTold se_X6_putTold rfl dX6_addBoard_16 ⟨by decide, by decide⟩ rfl rfl ⟨by decide, by decide⟩ hc0 (by omega) rfl rfl (Nat.le_of_ble_eq_true rfl) (c_X6_putTold G ex n σ pb b sk kd fi se tf ts b r x y hc0 hc1 hc2 hc3 hc4 hc5 (by omega) (by omega)) ?_
  rintro σ_7 ⟨hc_1, hc_2, hc_3, hc_4, hc_5, hf_6⟩
  have hc_8 : σ_7 pb = o6 G (pb) (nI (b)) (nI (sk)) := (hf_6 _ (by omega)).trans hc0
  refine A_aload_n hg dX6_addBoard_19 rfl rfl ?_
  refine A_dup hg dX6_addBoard_20 rfl ?_
  refine A_getf (v := .int (nI (b))) hg fl_RX6_9 dX6_addBoard_21 hc_8 (by omega) rfl ?_
  refine A_iconst (v := (nI (1))) hg dX6_addBoard_24 (by decide) ?_
  refine A_iaddN hg dX6_addBoard_25 ?_
  refine A_putf hg fl_RX6_9 dX6_addBoard_26 hc_8 (by omega) (Nat.le_of_ble_eq_true rfl) rfl rfl rfl (fun σ_9 hc_10 hf_11 => ?_)
  have hc_10 : σ_9 pb = o6 G (pb) (nI (b + 1)) (nI (sk)) := hc_10
  have hc_12 : σ_9 (pb + 1) = q_an G 8 (va_up kd b r) := (hf_11 _ (by omega)).trans hc_1
  have hc_13 : σ_9 (pb + 2) = q_an G 8 (va_up fi b x) := (hf_11 _ (by omega)).trans hc_2
  have hc_14 : σ_9 (pb + 3) = q_an G 8 (va_up se b y) := (hf_11 _ (by omega)).trans hc_3
  have hc_15 : σ_9 (pb + 4) = q_an G 8 (va_up tf b x) := (hf_11 _ (by omega)).trans hc_4
  have hc_16 : σ_9 (pb + 5) = q_an G 8 (va_up ts b y) := (hf_11 _ (by omega)).trans hc_5
  rw [hQ]
  exact A_return hg (by decide) (by decide) rfl dX6_addBoard_29 ⟨rfl, ⟨rfl, hc_10, hc_12, hc_13, hc_14, hc_15, hc_16, (fun i hi => ((hf_11 i (by omega)).trans (hf_6 i (by omega))))⟩⟩
set_option maxRecDepth 100000 in
set_option maxHeartbeats 4000000 in
theorem c_X6_addStick (G : GL) (ex : Bool) (n : Nat) (σ : Nat → va_E) (pb : Nat) (b : Nat) (sk : Nat) (kd : Nat → Nat) (fi : Nat → Nat) (se : Nat → Nat) (tf : Nat → Nat) (ts : Nat → Nat) (x : Nat) (y : Nat) (hc0 : σ pb = o6 G (pb) (nI (b)) (nI (sk))) (hc1 : σ (pb + 1) = q_an G 8 kd) (hc2 : σ (pb + 2) = q_an G 8 fi) (hc3 : σ (pb + 3) = q_an G 8 se) (hc4 : σ (pb + 4) = q_an G 8 tf) (hc5 : σ (pb + 5) = q_an G 8 ts) (hpb : pb + 5 < n) (hs4 : sk < 4) : Ct G yX6_addStick cX6_addStick 3 none ⟨1, 0, 0, 24⟩ [.ref (q_h G + pb), .int (nI (x)), .int (nI (y))] ex n σ (fun v9 σ2 => v9 = none ∧ σ2 pb = o6 G (pb) (nI (b)) (nI (sk + 1)) ∧ σ2 (pb + 1) = q_an G 8 (va_up kd (4 + sk) y) ∧ σ2 (pb + 2) = q_an G 8 (va_up fi (4 + sk) x) ∧ σ2 (pb + 3) = q_an G 8 (va_up se (4 + sk) 0) ∧ σ2 (pb + 4) = q_an G 8 (va_up tf (4 + sk) x) ∧ σ2 (pb + 5) = q_an G 8 (va_up ts (4 + sk) 0) ∧ (∀ i : Nat, i < pb ∨ pb + 5 < i → σ2 i = σ i)) := by
  refine q_enter [some (.ref (q_h G + pb)), some (.int (nI (x))), some (.int (nI (y)))] (by decide) (Nat.le_of_ble_eq_true rfl) rfl ?_
  intro K hg
  obtain ⟨Q, hQ⟩ : ∃ Q, Q = q_Q G K ex n 0 0 (fun v9 n' σ' => n' = n ∧ (fun v9 σ2 => v9 = none ∧ σ2 pb = o6 G (pb) (nI (b)) (nI (sk + 1)) ∧ σ2 (pb + 1) = q_an G 8 (va_up kd (4 + sk) y) ∧ σ2 (pb + 2) = q_an G 8 (va_up fi (4 + sk) x) ∧ σ2 (pb + 3) = q_an G 8 (va_up se (4 + sk) 0) ∧ σ2 (pb + 4) = q_an G 8 (va_up tf (4 + sk) x) ∧ σ2 (pb + 5) = q_an G 8 (va_up ts (4 + sk) 0) ∧ (∀ i : Nat, i < pb ∨ pb + 5 < i → σ2 i = σ i)) v9 σ') q_noX := ⟨_, rfl⟩
  refine (?_ : AJ G K (q_Q G K ex n 0 0 _ _) 0 0 ex n 0 _ _ σ)
  rw [← hQ]
  refine A_aload_n hg dX6_addStick_0 rfl rfl ?_
  refine A_getf (v := .int (nI (sk))) hg fl_RX6_15 dX6_addStick_1 hc0 (by omega) rfl ?_
  refine A_iconst (v := (nI (4))) hg dX6_addStick_4 (by decide) ?_
  refine A_icmp_geN (tgt := 31) hg dX6_addStick_5 (by omega) (by decide) (by decide) (fun c5 => absurd c5 (by omega)) (fun c5 => ?_)
  refine A_aload_n hg dX6_addStick_8 rfl rfl ?_
  refine A_iconst (v := (nI (4))) hg dX6_addStick_9 (by decide) ?_
  refine A_aload_n hg dX6_addStick_10 rfl rfl ?_
  refine A_getf (v := .int (nI (sk))) hg fl_RX6_15 dX6_addStick_11 hc0 (by omega) rfl ?_
  refine A_iaddN hg dX6_addStick_14 ?_
  refine A_iload_n hg dX6_addStick_15 rfl rfl ?_
  refine A_iload_n hg dX6_addStick_16 rfl rfl ?_
  refine A_iconst (v := (nI (0))) hg dX6_addStick_17 (by decide) ?_
  refine A_vV (kc2 := 0) (ks2 := 0) (As := [.int (nI (4 + sk)), .int (nI (y)), .int (nI (x)), .int (nI (0))]) (rest := []) hg lk_RX6_40 in_X6_putTold se_X6_putTold rfl dX6_addStick_18 ⟨by decide, by decide⟩ rfl rfl ⟨by decide, by decide⟩ hc0 (by omega) rfl rfl (Nat.le_of_ble_eq_true rfl) (c_X6_putTold G ex n σ pb b sk kd fi se tf ts (4 + sk) y x 0 hc0 hc1 hc2 hc3 hc4 hc5 (by omega) (by omega)) ?_
  rintro σ_7 ⟨hc_1, hc_2, hc_3, hc_4, hc_5, hf_6⟩
  have hc_8 : σ_7 pb = o6 G (pb) (nI (b)) (nI (sk)) := (hf_6 _ (by omega)).trans hc0
  refine A_aload_n hg dX6_addStick_21 rfl rfl ?_
  refine A_dup hg dX6_addStick_22 rfl ?_
  refine A_getf (v := .int (nI (sk))) hg fl_RX6_15 dX6_addStick_23 hc_8 (by omega) rfl ?_
  refine A_iconst (v := (nI (1))) hg dX6_addStick_26 (by decide) ?_
  refine A_iaddN hg dX6_addStick_27 ?_
  refine A_putf hg fl_RX6_15 dX6_addStick_28 hc_8 (by omega) (Nat.le_of_ble_eq_true rfl) rfl rfl rfl (fun σ_9 hc_10 hf_11 => ?_)
  have hc_10 : σ_9 pb = o6 G (pb) (nI (b)) (nI (sk + 1)) := hc_10
  have hc_12 : σ_9 (pb + 1) = q_an G 8 (va_up kd (4 + sk) y) := (hf_11 _ (by omega)).trans hc_1
  have hc_13 : σ_9 (pb + 2) = q_an G 8 (va_up fi (4 + sk) x) := (hf_11 _ (by omega)).trans hc_2
  have hc_14 : σ_9 (pb + 3) = q_an G 8 (va_up se (4 + sk) 0) := (hf_11 _ (by omega)).trans hc_3
  have hc_15 : σ_9 (pb + 4) = q_an G 8 (va_up tf (4 + sk) x) := (hf_11 _ (by omega)).trans hc_4
  have hc_16 : σ_9 (pb + 5) = q_an G 8 (va_up ts (4 + sk) 0) := (hf_11 _ (by omega)).trans hc_5
  rw [hQ]
  exact A_return hg (by decide) (by decide) rfl dX6_addStick_31 ⟨rfl, ⟨rfl, hc_10, hc_12, hc_13, hc_14, hc_15, hc_16, (fun i hi => ((hf_11 i (by omega)).trans (hf_6 i (by omega))))⟩⟩
set_option maxRecDepth 100000 in
set_option maxHeartbeats 4000000 in
theorem c_X6_take (G : GL) (ex : Bool) (n : Nat) (σ : Nat → va_E) (pb : Nat) (b : Nat) (sk : Nat) (fi : Nat → Nat) (se : Nat → Nat) (p : Nat) (k : Nat) (l : Nat) (hc0 : σ pb = o6 G (pb) (nI (b)) (nI (sk))) (hc1 : σ (pb + 2) = q_an G 8 fi) (hc2 : σ (pb + 3) = q_an G 8 se) (hpb : pb + 5 < n) (hb4 : b ≤ 4) (hp8 : p < b + 4) (hk : k ≤ fi (x_pl b p)) (hl : l ≤ se (x_pl b p)) : Ct G yX6_take cX6_take 5 none ⟨0, 0, 0, 0⟩ [.ref (q_h G + pb), .int (nI (p)), .int (nI (k)), .int (nI (l))] ex n σ (fun v9 σ2 => v9 = none ∧ σ2 (pb + 2) = q_an G 8 (va_up fi (x_pl b p) (fi (x_pl b p) - k)) ∧ σ2 (pb + 3) = q_an G 8 (va_up se (x_pl b p) (se (x_pl b p) - l)) ∧ (∀ i : Nat, i ≠ pb + 2 ∧ i ≠ pb + 3 → σ2 i = σ i)) := by
  refine q_enter [some (.ref (q_h G + pb)), some (.int (nI (p))), some (.int (nI (k))), some (.int (nI (l))), none] (by decide) (Nat.le_of_ble_eq_true rfl) rfl ?_
  intro K hg
  obtain ⟨Q, hQ⟩ : ∃ Q, Q = q_Q G K ex n 0 0 (fun v9 n' σ' => n' = n ∧ (fun v9 σ2 => v9 = none ∧ σ2 (pb + 2) = q_an G 8 (va_up fi (x_pl b p) (fi (x_pl b p) - k)) ∧ σ2 (pb + 3) = q_an G 8 (va_up se (x_pl b p) (se (x_pl b p) - l)) ∧ (∀ i : Nat, i ≠ pb + 2 ∧ i ≠ pb + 3 → σ2 i = σ i)) v9 σ') q_noX := ⟨_, rfl⟩
  refine (?_ : AJ G K (q_Q G K ex n 0 0 _ _) 0 0 ex n 0 _ _ σ)
  rw [← hQ]
  refine A_iload_n hg dX6_take_0 rfl rfl ?_
  refine A_aload_n hg dX6_take_1 rfl rfl ?_
  refine A_getf (v := .int (nI (b))) hg fl_RX6_9 dX6_take_2 hc0 (by omega) rfl ?_
  refine A_icmp_geN (tgt := 12) hg dX6_take_5 (by omega) (by omega) (by decide) (fun c5 => ?_) (fun c5 => ?_)
  · skip
    refine A_iconst (v := (nI (4))) hg dX6_take_12 (by decide) ?_
    refine A_iload_n hg dX6_take_13 rfl rfl ?_
    refine A_iaddN hg dX6_take_14 ?_
    refine A_aload_n hg dX6_take_15 rfl rfl ?_
    refine A_getf (v := .int (nI (b))) hg fl_RX6_9 dX6_take_16 hc0 (by omega) rfl ?_
    refine A_isubN hg dX6_take_19 (by omega) ?_
    refine A_istore hg dX6_take_20 (by decide) (q_c1d rfl) ?_
    refine A_eq (ls2 := [some (.ref (q_h G + pb)), some (.int (nI (p))), some (.int (nI (k))), some (.int (nI (l))), some (.int (nI ((4 + p) - b)))]) (st2 := []) (pc2 := 0) rfl rfl ?_
    have epl : x_pl b p = (4 + p) - b := by first | rw [x_pl_b (show p < b by omega)] | rw [x_pl_s (show ¬ p < b by omega)]
    rw [epl] at hk hl
    refine A_iload hg dX6_take_22 rfl ?_
    refine A_if_ltN (tgt := 59) hg dX6_take_24 (by omega) (by decide) ?_
    refine A_iload hg dX6_take_27 rfl ?_
    refine A_aload_n hg dX6_take_29 rfl rfl ?_
    refine A_getf (v := .ref (q_h G + (pb + 2))) hg fl_RX6_22 dX6_take_30 hc0 (by omega) rfl ?_
    refine A_alen (t := 0) (len := 8) hg dX6_take_33 hc1 (by decide) (by omega) ?_
    refine A_icmp_geN (tgt := 59) hg dX6_take_34 (by omega) (by decide) (by decide) (fun c34 => absurd c34 (by omega)) (fun c34 => ?_)
    refine A_aload_n hg dX6_take_37 rfl rfl ?_
    refine A_getf (v := .ref (q_h G + (pb + 2))) hg fl_RX6_22 dX6_take_38 hc0 (by omega) rfl ?_
    refine A_iload hg dX6_take_41 rfl ?_
    refine A_dup2 hg dX6_take_43 rfl rfl ?_
    refine A_iald (j := ((4 + p) - b)) hg dX6_take_44 hc1 (by omega) (by omega) (by decide) ?_
    refine A_iload_n hg dX6_take_45 rfl rfl ?_
    refine A_isubN hg dX6_take_46 (by omega) ?_
    refine A_iast (j := ((4 + p) - b)) (x := ((fi ((4 + p) - b)) - k)) hg dX6_take_47 hc1 (by omega) (by omega) (by decide) (fun σ_1 hc_2 hf_3 => ?_)
    have hc_4 : σ_1 pb = o6 G (pb) (nI (b)) (nI (sk)) := (hf_3 _ (by omega)).trans hc0
    have hc_5 : σ_1 (pb + 3) = q_an G 8 se := (hf_3 _ (by omega)).trans hc2
    refine A_aload_n hg dX6_take_48 rfl rfl ?_
    refine A_getf (v := .ref (q_h G + (pb + 3))) hg fl_RX6_25 dX6_take_49 hc_4 (by omega) rfl ?_
    refine A_iload hg dX6_take_52 rfl ?_
    refine A_dup2 hg dX6_take_54 rfl rfl ?_
    refine A_iald (j := ((4 + p) - b)) hg dX6_take_55 hc_5 (by omega) (by omega) (by decide) ?_
    refine A_iload_n hg dX6_take_56 rfl rfl ?_
    refine A_isubN hg dX6_take_57 (by omega) ?_
    refine A_iast (j := ((4 + p) - b)) (x := ((se ((4 + p) - b)) - l)) hg dX6_take_58 hc_5 (by omega) (by omega) (by decide) (fun σ_6 hc_7 hf_8 => ?_)
    have hc_9 : σ_6 pb = o6 G (pb) (nI (b)) (nI (sk)) := (hf_8 _ (by omega)).trans hc_4
    have hc_10 : σ_6 (pb + 2) = q_an G 8 (va_up fi ((4 + p) - b) ((fi ((4 + p) - b)) - k)) := (hf_8 _ (by omega)).trans hc_2
    refine A_canon (va_up fi (x_pl b p) (fi (x_pl b p) - k)) hc_10 (fun jj _ => by rw [epl]) (fun σ_11 hc_12 hf_13 => ?_)
    have hc_14 : σ_11 pb = o6 G (pb) (nI (b)) (nI (sk)) := (hf_13 _ (by omega)).trans hc_9
    have hc_15 : σ_11 (pb + 3) = q_an G 8 (va_up se ((4 + p) - b) ((se ((4 + p) - b)) - l)) := (hf_13 _ (by omega)).trans hc_7
    refine A_canon (va_up se (x_pl b p) (se (x_pl b p) - l)) hc_15 (fun jj _ => by rw [epl]) (fun σ_16 hc_17 hf_18 => ?_)
    have hc_19 : σ_16 pb = o6 G (pb) (nI (b)) (nI (sk)) := (hf_18 _ (by omega)).trans hc_14
    have hc_20 : σ_16 (pb + 2) = q_an G 8 (va_up fi (x_pl b p) (fi (x_pl b p) - k)) := (hf_18 _ (by omega)).trans hc_12
    rw [hQ]
    exact A_return hg (by decide) (by decide) rfl dX6_take_59 ⟨rfl, ⟨rfl, hc_20, hc_17, (fun i hi => ((hf_18 i (by omega)).trans ((hf_13 i (by omega)).trans ((hf_8 i (by omega)).trans (hf_3 i (by omega))))))⟩⟩
  · skip
    refine A_iload_n hg dX6_take_8 rfl rfl ?_
    refine A_goto (tgt := 20) hg dX6_take_9 (by decide) ?_
    refine A_istore hg dX6_take_20 (by decide) (q_c1d rfl) ?_
    refine A_eq (ls2 := [some (.ref (q_h G + pb)), some (.int (nI (p))), some (.int (nI (k))), some (.int (nI (l))), some (.int (nI (p)))]) (st2 := []) (pc2 := 0) rfl rfl ?_
    have epl : x_pl b p = p := by first | rw [x_pl_b (show p < b by omega)] | rw [x_pl_s (show ¬ p < b by omega)]
    rw [epl] at hk hl
    refine A_iload hg dX6_take_22 rfl ?_
    refine A_if_ltN (tgt := 59) hg dX6_take_24 (by omega) (by decide) ?_
    refine A_iload hg dX6_take_27 rfl ?_
    refine A_aload_n hg dX6_take_29 rfl rfl ?_
    refine A_getf (v := .ref (q_h G + (pb + 2))) hg fl_RX6_22 dX6_take_30 hc0 (by omega) rfl ?_
    refine A_alen (t := 0) (len := 8) hg dX6_take_33 hc1 (by decide) (by omega) ?_
    refine A_icmp_geN (tgt := 59) hg dX6_take_34 (by omega) (by decide) (by decide) (fun c34 => absurd c34 (by omega)) (fun c34 => ?_)
    refine A_aload_n hg dX6_take_37 rfl rfl ?_
    refine A_getf (v := .ref (q_h G + (pb + 2))) hg fl_RX6_22 dX6_take_38 hc0 (by omega) rfl ?_
    refine A_iload hg dX6_take_41 rfl ?_
    refine A_dup2 hg dX6_take_43 rfl rfl ?_
    refine A_iald (j := p) hg dX6_take_44 hc1 (by omega) (by omega) (by decide) ?_
    refine A_iload_n hg dX6_take_45 rfl rfl ?_
    refine A_isubN hg dX6_take_46 (by omega) ?_
    refine A_iast (j := p) (x := ((fi p) - k)) hg dX6_take_47 hc1 (by omega) (by omega) (by decide) (fun σ_21 hc_22 hf_23 => ?_)
    have hc_24 : σ_21 pb = o6 G (pb) (nI (b)) (nI (sk)) := (hf_23 _ (by omega)).trans hc0
    have hc_25 : σ_21 (pb + 3) = q_an G 8 se := (hf_23 _ (by omega)).trans hc2
    refine A_aload_n hg dX6_take_48 rfl rfl ?_
    refine A_getf (v := .ref (q_h G + (pb + 3))) hg fl_RX6_25 dX6_take_49 hc_24 (by omega) rfl ?_
    refine A_iload hg dX6_take_52 rfl ?_
    refine A_dup2 hg dX6_take_54 rfl rfl ?_
    refine A_iald (j := p) hg dX6_take_55 hc_25 (by omega) (by omega) (by decide) ?_
    refine A_iload_n hg dX6_take_56 rfl rfl ?_
    refine A_isubN hg dX6_take_57 (by omega) ?_
    refine A_iast (j := p) (x := ((se p) - l)) hg dX6_take_58 hc_25 (by omega) (by omega) (by decide) (fun σ_26 hc_27 hf_28 => ?_)
    have hc_29 : σ_26 pb = o6 G (pb) (nI (b)) (nI (sk)) := (hf_28 _ (by omega)).trans hc_24
    have hc_30 : σ_26 (pb + 2) = q_an G 8 (va_up fi p ((fi p) - k)) := (hf_28 _ (by omega)).trans hc_22
    refine A_canon (va_up fi (x_pl b p) (fi (x_pl b p) - k)) hc_30 (fun jj _ => by rw [epl]) (fun σ_31 hc_32 hf_33 => ?_)
    have hc_34 : σ_31 pb = o6 G (pb) (nI (b)) (nI (sk)) := (hf_33 _ (by omega)).trans hc_29
    have hc_35 : σ_31 (pb + 3) = q_an G 8 (va_up se p ((se p) - l)) := (hf_33 _ (by omega)).trans hc_27
    refine A_canon (va_up se (x_pl b p) (se (x_pl b p) - l)) hc_35 (fun jj _ => by rw [epl]) (fun σ_36 hc_37 hf_38 => ?_)
    have hc_39 : σ_36 pb = o6 G (pb) (nI (b)) (nI (sk)) := (hf_38 _ (by omega)).trans hc_34
    have hc_40 : σ_36 (pb + 2) = q_an G 8 (va_up fi (x_pl b p) (fi (x_pl b p) - k)) := (hf_38 _ (by omega)).trans hc_32
    rw [hQ]
    exact A_return hg (by decide) (by decide) rfl dX6_take_59 ⟨rfl, ⟨rfl, hc_40, hc_37, (fun i hi => ((hf_38 i (by omega)).trans ((hf_33 i (by omega)).trans ((hf_28 i (by omega)).trans (hf_23 i (by omega))))))⟩⟩
set_option maxRecDepth 100000 in
set_option maxHeartbeats 4000000 in
theorem c_X6_standAsTold (G : GL) (ex : Bool) (n : Nat) (σ : Nat → va_E) (pb : Nat) (b : Nat) (sk : Nat) (kd : Nat → Nat) (fi : Nat → Nat) (se : Nat → Nat) (tf : Nat → Nat) (ts : Nat → Nat) (hc0 : σ pb = o6 G (pb) (nI (b)) (nI (sk))) (hc1 : σ (pb + 1) = q_an G 8 kd) (hc2 : σ (pb + 2) = q_an G 8 fi) (hc3 : σ (pb + 3) = q_an G 8 se) (hc4 : σ (pb + 4) = q_an G 8 tf) (hc5 : σ (pb + 5) = q_an G 8 ts) (hpb : pb + 5 < n) : Ct G yX6_standAsTold cX6_standAsTold 1 none ⟨1, 0, 0, 30⟩ [.ref (q_h G + pb)] ex n σ (fun v9 σ2 => v9 = none ∧ σ2 (pb + 2) = q_an G 8 tf ∧ σ2 (pb + 3) = q_an G 8 ts ∧ (∀ i : Nat, i ≠ pb + 2 ∧ i ≠ pb + 3 → σ2 i = σ i)) := by
  refine q_enter [some (.ref (q_h G + pb))] (by decide) (Nat.le_of_ble_eq_true rfl) rfl ?_
  intro K hg
  obtain ⟨Q, hQ⟩ : ∃ Q, Q = q_Q G K ex n 0 0 (fun v9 n' σ' => n' = n ∧ (fun v9 σ2 => v9 = none ∧ σ2 (pb + 2) = q_an G 8 tf ∧ σ2 (pb + 3) = q_an G 8 ts ∧ (∀ i : Nat, i ≠ pb + 2 ∧ i ≠ pb + 3 → σ2 i = σ i)) v9 σ') q_noX := ⟨_, rfl⟩
  refine (?_ : AJ G K (q_Q G K ex n 0 0 _ _) 0 0 ex n 0 _ _ σ)
  rw [← hQ]
  refine A_aload_n hg dX6_standAsTold_0 rfl rfl ?_
  refine A_getf (v := .ref (q_h G + (pb + 4))) hg fl_RX6_28 dX6_standAsTold_1 hc0 (by omega) rfl ?_
  refine A_iconst (v := (nI (0))) hg dX6_standAsTold_4 (by decide) ?_
  refine A_aload_n hg dX6_standAsTold_5 rfl rfl ?_
  refine A_getf (v := .ref (q_h G + (pb + 2))) hg fl_RX6_22 dX6_standAsTold_6 hc0 (by omega) rfl ?_
  refine A_iconst (v := (nI (0))) hg dX6_standAsTold_9 (by decide) ?_
  refine A_aload_n hg dX6_standAsTold_10 rfl rfl ?_
  refine A_getf (v := .ref (q_h G + (pb + 2))) hg fl_RX6_22 dX6_standAsTold_11 hc0 (by omega) rfl ?_
  refine A_alen (t := 0) (len := 8) hg dX6_standAsTold_14 hc2 (by decide) (by omega) ?_
  refine A_copy (x := 0) (y := 0) (z := 8) hg (q_mt 638 (by decide +kernel)) (q_mt 633 (by decide +kernel)) (q_mt 632 (by decide +kernel)) (q_mt 19 (by decide +kernel)) dX6_standAsTold_15 ⟨by decide, by decide⟩ (Nat.le_of_ble_eq_true rfl) hc4 hc2 (by omega) (by omega) (by omega) (by omega) (by decide) (by decide) (by decide) (fun σ_1 hc_2 hf_3 => ?_)
  have hc_4 : σ_1 pb = o6 G (pb) (nI (b)) (nI (sk)) := (hf_3 _ (by omega)).trans hc0
  have hc_5 : σ_1 (pb + 1) = q_an G 8 kd := (hf_3 _ (by omega)).trans hc1
  have hc_6 : σ_1 (pb + 3) = q_an G 8 se := (hf_3 _ (by omega)).trans hc3
  have hc_7 : σ_1 (pb + 4) = q_an G 8 tf := (hf_3 _ (by omega)).trans hc4
  have hc_8 : σ_1 (pb + 5) = q_an G 8 ts := (hf_3 _ (by omega)).trans hc5
  refine A_aload_n hg dX6_standAsTold_18 rfl rfl ?_
  refine A_getf (v := .ref (q_h G + (pb + 5))) hg fl_RX6_31 dX6_standAsTold_19 hc_4 (by omega) rfl ?_
  refine A_iconst (v := (nI (0))) hg dX6_standAsTold_22 (by decide) ?_
  refine A_aload_n hg dX6_standAsTold_23 rfl rfl ?_
  refine A_getf (v := .ref (q_h G + (pb + 3))) hg fl_RX6_25 dX6_standAsTold_24 hc_4 (by omega) rfl ?_
  refine A_iconst (v := (nI (0))) hg dX6_standAsTold_27 (by decide) ?_
  refine A_aload_n hg dX6_standAsTold_28 rfl rfl ?_
  refine A_getf (v := .ref (q_h G + (pb + 3))) hg fl_RX6_25 dX6_standAsTold_29 hc_4 (by omega) rfl ?_
  refine A_alen (t := 0) (len := 8) hg dX6_standAsTold_32 hc_6 (by decide) (by omega) ?_
  refine A_copy (x := 0) (y := 0) (z := 8) hg (q_mt 638 (by decide +kernel)) (q_mt 633 (by decide +kernel)) (q_mt 632 (by decide +kernel)) (q_mt 19 (by decide +kernel)) dX6_standAsTold_33 ⟨by decide, by decide⟩ (Nat.le_of_ble_eq_true rfl) hc_8 hc_6 (by omega) (by omega) (by omega) (by omega) (by decide) (by decide) (by decide) (fun σ_9 hc_10 hf_11 => ?_)
  have hc_12 : σ_9 pb = o6 G (pb) (nI (b)) (nI (sk)) := (hf_11 _ (by omega)).trans hc_4
  have hc_13 : σ_9 (pb + 1) = q_an G 8 kd := (hf_11 _ (by omega)).trans hc_5
  have hc_14 : σ_9 (pb + 4) = q_an G 8 tf := (hf_11 _ (by omega)).trans hc_7
  have hc_15 : σ_9 (pb + 5) = q_an G 8 ts := (hf_11 _ (by omega)).trans hc_8
  have hc_16 : σ_9 (pb + 2) = q_an G 8 (va_cpy tf fi 0 0 8) := (hf_11 _ (by omega)).trans hc_2
  refine A_canon tf hc_16 (fun jj hj => by unfold va_cpy; rw [if_pos (by omega)]; congr 1; omega) (fun σ_17 hc_18 hf_19 => ?_)
  have hc_20 : σ_17 pb = o6 G (pb) (nI (b)) (nI (sk)) := (hf_19 _ (by omega)).trans hc_12
  have hc_21 : σ_17 (pb + 1) = q_an G 8 kd := (hf_19 _ (by omega)).trans hc_13
  have hc_22 : σ_17 (pb + 4) = q_an G 8 tf := (hf_19 _ (by omega)).trans hc_14
  have hc_23 : σ_17 (pb + 5) = q_an G 8 ts := (hf_19 _ (by omega)).trans hc_15
  have hc_24 : σ_17 (pb + 3) = q_an G 8 (va_cpy ts se 0 0 8) := (hf_19 _ (by omega)).trans hc_10
  refine A_canon ts hc_24 (fun jj hj => by unfold va_cpy; rw [if_pos (by omega)]; congr 1; omega) (fun σ_25 hc_26 hf_27 => ?_)
  have hc_28 : σ_25 pb = o6 G (pb) (nI (b)) (nI (sk)) := (hf_27 _ (by omega)).trans hc_20
  have hc_29 : σ_25 (pb + 1) = q_an G 8 kd := (hf_27 _ (by omega)).trans hc_21
  have hc_30 : σ_25 (pb + 4) = q_an G 8 tf := (hf_27 _ (by omega)).trans hc_22
  have hc_31 : σ_25 (pb + 5) = q_an G 8 ts := (hf_27 _ (by omega)).trans hc_23
  have hc_32 : σ_25 (pb + 2) = q_an G 8 tf := (hf_27 _ (by omega)).trans hc_18
  rw [hQ]
  exact A_return hg (by decide) (by decide) rfl dX6_standAsTold_36 ⟨rfl, ⟨rfl, hc_32, hc_26, (fun i hi => ((hf_27 i (by omega)).trans ((hf_19 i (by omega)).trans ((hf_11 i (by omega)).trans (hf_3 i (by omega))))))⟩⟩
set_option maxRecDepth 100000 in
set_option maxHeartbeats 4000000 in
theorem c_X6_units (G : GL) (ex : Bool) (n : Nat) (σ : Nat → va_E) (pb : Nat) (b : Nat) (sk : Nat) (fi : Nat → Nat) (se : Nat → Nat) (hc0 : σ pb = o6 G (pb) (nI (b)) (nI (sk))) (hc1 : σ (pb + 2) = q_an G 8 fi) (hc2 : σ (pb + 3) = q_an G 8 se) (hpb : pb + 5 < n) (hb4 : b ≤ 4) (hs4 : sk ≤ 4) : Ct G yX6_units cX6_units 3 (some .int) ⟨2, 0, 0, 44⟩ [.ref (q_h G + pb)] ex n σ (fun v9 σ2 => σ2 = σ ∧ v9 = some (.int (nI (x_us fi se b (b + sk))))) := by
  refine q_enter [some (.ref (q_h G + pb)), none, none] (by decide) (Nat.le_of_ble_eq_true rfl) rfl ?_
  intro K hg
  obtain ⟨Q, hQ⟩ : ∃ Q, Q = q_Q G K ex n 0 0 (fun v9 n' σ' => n' = n ∧ (fun v9 σ2 => σ2 = σ ∧ v9 = some (.int (nI (x_us fi se b (b + sk))))) v9 σ') q_noX := ⟨_, rfl⟩
  refine (?_ : AJ G K (q_Q G K ex n 0 0 _ _) 0 0 ex n 0 _ _ σ)
  rw [← hQ]
  refine A_iconst (v := (nI (0))) hg dX6_units_0 (by decide) ?_
  refine A_istore_n hg dX6_units_1 rfl (by decide) (q_c1d rfl) ?_
  refine A_eq (ls2 := [some (.ref (q_h G + pb)), some (.int (nI (0))), none]) (st2 := []) (pc2 := 0) rfl rfl ?_
  refine A_iconst (v := (nI (0))) hg dX6_units_2 (by decide) ?_
  refine A_istore_n hg dX6_units_3 rfl (by decide) (q_c1d rfl) ?_
  refine A_eq (ls2 := [some (.ref (q_h G + pb)), some (.int (nI (0))), some (.int (nI (0)))]) (st2 := []) (pc2 := 0) rfl rfl ?_
  have hL4 : ∀ (fu : Nat) (p : Nat) (a : Nat), (p ≤ b + sk) → (a = x_us fi se b p) → (b + sk - p) < fu → AJ G K Q 0 0 ex n 4 [some (.ref (q_h G + pb)), some (.int (nI (a))), some (.int (nI (p)))] [] σ := by
    intro fu
    induction fu with
    | zero => intro p a hp ha hm; exact absurd hm (Nat.not_lt_zero _)
    | succ fu ih4 =>
      intro p a hp ha hm4
      refine A_iload_n hg dX6_units_4 rfl rfl ?_
      refine A_aload_n hg dX6_units_5 rfl rfl ?_
      refine A_eV (kc2 := 0) (ks2 := 0) (As := []) (rest := [.int (nI (p))]) hg lk_RX6_48 in_X6_many se_X6_many rfl dX6_units_6 ⟨by decide, by decide⟩ rfl rfl ⟨by decide, by decide⟩ hc0 (by omega) rfl rfl (Nat.le_of_ble_eq_true rfl) (c_X6_many G ex n σ pb b sk hc0 (by omega)) ?_
      refine A_icmp_geN (tgt := 32) hg dX6_units_9 (by omega) (by omega) (by decide) (fun c9 => ?_) (fun c9 => ?_)
      · skip
        refine A_iload_n hg dX6_units_32 rfl rfl ?_
        rw [hQ]
        exact A_ireturn hg (by decide) (by decide) rfl dX6_units_33 ⟨rfl, ⟨rfl, (by rw [ha, show p = b + sk by omega])⟩⟩
      · skip
        refine A_iload_n hg dX6_units_12 rfl rfl ?_
        refine A_aload_n hg dX6_units_13 rfl rfl ?_
        refine A_iload_n hg dX6_units_14 rfl rfl ?_
        refine A_eV (kc2 := 0) (ks2 := 0) (As := [.int (nI (p))]) (rest := [.int (nI (a))]) hg lk_RX6_52 in_X6_firstOf se_X6_firstOf rfl dX6_units_15 ⟨by decide, by decide⟩ rfl rfl ⟨by decide, by decide⟩ hc0 (by omega) rfl rfl (Nat.le_of_ble_eq_true rfl) (c_X6_firstOf G ex n σ pb b sk fi p hc0 hc1 (by omega) (by omega) (by omega)) ?_
        refine A_aload_n hg dX6_units_18 rfl rfl ?_
        refine A_iload_n hg dX6_units_19 rfl rfl ?_
        refine A_eV (kc2 := 0) (ks2 := 0) (As := [.int (nI (p))]) (rest := [.int (nI (fi (x_pl b p))), .int (nI (a))]) hg lk_RX6_56 in_X6_secondOf se_X6_secondOf rfl dX6_units_20 ⟨by decide, by decide⟩ rfl rfl ⟨by decide, by decide⟩ hc0 (by omega) rfl rfl (Nat.le_of_ble_eq_true rfl) (c_X6_secondOf G ex n σ pb b sk se p hc0 hc2 (by omega) (by omega) (by omega)) ?_
        refine A_iaddN hg dX6_units_23 ?_
        refine A_iaddN hg dX6_units_24 ?_
        refine A_istore_n hg dX6_units_25 rfl (by decide) (q_c1d rfl) ?_
        refine A_eq (ls2 := [some (.ref (q_h G + pb)), some (.int (nI (a + ((fi (x_pl b p)) + (se (x_pl b p)))))), some (.int (nI (p)))]) (st2 := []) (pc2 := 0) rfl rfl ?_
        refine A_iincN (k' := 1) hg dX6_units_26 (by decide) rfl (by decide) (q_c1d rfl) ?_
        refine A_eq (ls2 := [some (.ref (q_h G + pb)), some (.int (nI (a + ((fi (x_pl b p)) + (se (x_pl b p)))))), some (.int (nI (p + 1)))]) (st2 := []) (pc2 := 0) rfl rfl ?_
        refine A_goto (tgt := 4) hg dX6_units_29 (by decide) ?_
        exact ih4 (p + 1) (a + ((fi (x_pl b p)) + (se (x_pl b p)))) (by omega) (by rw [ha]; rfl) (by omega)
  exact hL4 _ 0 0 (Nat.zero_le _) rfl (Nat.lt_succ_self _)
set_option maxRecDepth 100000 in
set_option maxHeartbeats 4000000 in
theorem c_X6_boardsWith (G : GL) (ex : Bool) (n : Nat) (σ : Nat → va_E) (pb : Nat) (b : Nat) (sk : Nat) (kd : Nat → Nat) (r : Nat) (hc0 : σ pb = o6 G (pb) (nI (b)) (nI (sk))) (hc1 : σ (pb + 1) = q_an G 8 kd) (hpb : pb + 5 < n) (hb4 : b ≤ 4) (hkb : ∀ j : Nat, j < b → kd j < 2 ^ 31) (hr31 : r < 2 ^ 31) : Ct G yX6_boardsWith cX6_boardsWith 4 (some .int) ⟨2, 0, 0, 44⟩ [.ref (q_h G + pb), .int (nI (r))] ex n σ (fun v9 σ2 => σ2 = σ ∧ v9 = some (.int (nI (s_cnt (fun j => kd j == r) b)))) := by
  refine q_enter [some (.ref (q_h G + pb)), some (.int (nI (r))), none, none] (by decide) (Nat.le_of_ble_eq_true rfl) rfl ?_
  intro K hg
  obtain ⟨Q, hQ⟩ : ∃ Q, Q = q_Q G K ex n 0 0 (fun v9 n' σ' => n' = n ∧ (fun v9 σ2 => σ2 = σ ∧ v9 = some (.int (nI (s_cnt (fun j => kd j == r) b)))) v9 σ') q_noX := ⟨_, rfl⟩
  refine (?_ : AJ G K (q_Q G K ex n 0 0 _ _) 0 0 ex n 0 _ _ σ)
  rw [← hQ]
  refine A_iconst (v := (nI (0))) hg dX6_boardsWith_0 (by decide) ?_
  refine A_istore_n hg dX6_boardsWith_1 rfl (by decide) (q_c1d rfl) ?_
  refine A_eq (ls2 := [some (.ref (q_h G + pb)), some (.int (nI (r))), some (.int (nI (0))), none]) (st2 := []) (pc2 := 0) rfl rfl ?_
  refine A_iconst (v := (nI (0))) hg dX6_boardsWith_2 (by decide) ?_
  refine A_istore_n hg dX6_boardsWith_3 rfl (by decide) (q_c1d rfl) ?_
  refine A_eq (ls2 := [some (.ref (q_h G + pb)), some (.int (nI (r))), some (.int (nI (0))), some (.int (nI (0)))]) (st2 := []) (pc2 := 0) rfl rfl ?_
  have hL4 : ∀ (fu : Nat) (p : Nat) (a : Nat), (p ≤ b) → (a = s_cnt (fun j => kd j == r) p) → (b - p) < fu → AJ G K Q 0 0 ex n 4 [some (.ref (q_h G + pb)), some (.int (nI (r))), some (.int (nI (a))), some (.int (nI (p)))] [] σ := by
    intro fu
    induction fu with
    | zero => intro p a hp ha hm; exact absurd hm (Nat.not_lt_zero _)
    | succ fu ih4 =>
      intro p a hp ha hm4
      refine A_iload_n hg dX6_boardsWith_4 rfl rfl ?_
      refine A_aload_n hg dX6_boardsWith_5 rfl rfl ?_
      refine A_getf (v := .int (nI (b))) hg fl_RX6_9 dX6_boardsWith_6 hc0 (by omega) rfl ?_
      refine A_icmp_geN (tgt := 30) hg dX6_boardsWith_9 (by omega) (by omega) (by decide) (fun c9 => ?_) (fun c9 => ?_)
      · skip
        refine A_iload_n hg dX6_boardsWith_30 rfl rfl ?_
        rw [hQ]
        exact A_ireturn hg (by decide) (by decide) rfl dX6_boardsWith_31 ⟨rfl, ⟨rfl, (by rw [ha, show p = b by omega])⟩⟩
      · skip
        refine A_aload_n hg dX6_boardsWith_12 rfl rfl ?_
        refine A_iload_n hg dX6_boardsWith_13 rfl rfl ?_
        refine A_eV (kc2 := 0) (ks2 := 0) (As := [.int (nI (p))]) (rest := []) hg lk_RX6_59 in_X6_kindOf se_X6_kindOf rfl dX6_boardsWith_14 ⟨by decide, by decide⟩ rfl rfl ⟨by decide, by decide⟩ hc0 (by omega) rfl rfl (Nat.le_of_ble_eq_true rfl) (c_X6_kindOf G ex n σ pb b sk kd p hc0 hc1 (by omega) (by omega) (by omega)) ?_
        refine A_top (w := .int (nI (kd p))) (by rw [x_pl_b (show p < b by omega)]) ?_
        refine A_iload_n hg dX6_boardsWith_17 rfl rfl ?_
        refine A_icmp_neN (tgt := 24) hg dX6_boardsWith_18 (by first | exact hr31 | exact hkb p (by omega)) (by first | exact hr31 | exact hkb p (by omega)) (by decide) (fun c18 => ?_) (fun c18 => ?_)
        · skip
          refine A_iincN (k' := 1) hg dX6_boardsWith_24 (by decide) rfl (by decide) (q_c1d rfl) ?_
          refine A_eq (ls2 := [some (.ref (q_h G + pb)), some (.int (nI (r))), some (.int (nI (a))), some (.int (nI (p + 1)))]) (st2 := []) (pc2 := 0) rfl rfl ?_
          refine A_goto (tgt := 4) hg dX6_boardsWith_27 (by decide) ?_
          exact ih4 (p + 1) a (by omega) (by rw [s_cnt_f (P := fun j => kd j == r) (beq_eq_false_iff_ne.mpr c18)]; exact ha) (by omega)
        · skip
          refine A_iincN (k' := 1) hg dX6_boardsWith_21 (by decide) rfl (by decide) (q_c1d rfl) ?_
          refine A_eq (ls2 := [some (.ref (q_h G + pb)), some (.int (nI (r))), some (.int (nI (a + 1))), some (.int (nI (p)))]) (st2 := []) (pc2 := 0) rfl rfl ?_
          refine A_iincN (k' := 1) hg dX6_boardsWith_24 (by decide) rfl (by decide) (q_c1d rfl) ?_
          refine A_eq (ls2 := [some (.ref (q_h G + pb)), some (.int (nI (r))), some (.int (nI (a + 1))), some (.int (nI (p + 1)))]) (st2 := []) (pc2 := 0) rfl rfl ?_
          refine A_goto (tgt := 4) hg dX6_boardsWith_27 (by decide) ?_
          exact ih4 (p + 1) (a + 1) (by omega) (by rw [s_cnt_t (P := fun j => kd j == r) (beq_iff_eq.mpr c18), ha]) (by omega)
  exact hL4 _ 0 0 (Nat.zero_le _) rfl (Nat.lt_succ_self _)
set_option maxRecDepth 100000 in
set_option maxHeartbeats 4000000 in
theorem c_X6_copyFrom (G : GL) (ex : Bool) (n : Nat) (σ : Nat → va_E) (pb : Nat) (b : Nat) (sk : Nat) (kd : Nat → Nat) (fi : Nat → Nat) (se : Nat → Nat) (tf : Nat → Nat) (ts : Nat → Nat) (p2 : Nat) (b2 : Nat) (sk2 : Nat) (kd2 : Nat → Nat) (fi2 : Nat → Nat) (se2 : Nat → Nat) (tf2 : Nat → Nat) (ts2 : Nat → Nat) (hc0 : σ pb = o6 G (pb) (nI (b)) (nI (sk))) (hc1 : σ (pb + 1) = q_an G 8 kd) (hc2 : σ (pb + 2) = q_an G 8 fi) (hc3 : σ (pb + 3) = q_an G 8 se) (hc4 : σ (pb + 4) = q_an G 8 tf) (hc5 : σ (pb + 5) = q_an G 8 ts) (hc6 : σ p2 = o6 G (p2) (nI (b2)) (nI (sk2))) (hc7 : σ (p2 + 1) = q_an G 8 kd2) (hc8 : σ (p2 + 2) = q_an G 8 fi2) (hc9 : σ (p2 + 3) = q_an G 8 se2) (hc10 : σ (p2 + 4) = q_an G 8 tf2) (hc11 : σ (p2 + 5) = q_an G 8 ts2) (hpb : pb + 5 < n) (hp2 : p2 + 5 < n) (hap : pb + 5 < p2 ∨ p2 + 5 < pb) : Ct G yX6_copyFrom cX6_copyFrom 2 none ⟨1, 0, 0, 30⟩ [.ref (q_h G + pb), .ref (q_h G + p2)] ex n σ (fun v9 σ2 => v9 = none ∧ σ2 pb = o6 G (pb) (nI (b2)) (nI (sk2)) ∧ σ2 (pb + 1) = q_an G 8 kd2 ∧ σ2 (pb + 2) = q_an G 8 fi2 ∧ σ2 (pb + 3) = q_an G 8 se2 ∧ σ2 (pb + 4) = q_an G 8 tf2 ∧ σ2 (pb + 5) = q_an G 8 ts2 ∧ (∀ i : Nat, i < pb ∨ pb + 5 < i → σ2 i = σ i)) := by
  refine q_enter [some (.ref (q_h G + pb)), some (.ref (q_h G + p2))] (by decide) (Nat.le_of_ble_eq_true rfl) rfl ?_
  intro K hg
  obtain ⟨Q, hQ⟩ : ∃ Q, Q = q_Q G K ex n 0 0 (fun v9 n' σ' => n' = n ∧ (fun v9 σ2 => v9 = none ∧ σ2 pb = o6 G (pb) (nI (b2)) (nI (sk2)) ∧ σ2 (pb + 1) = q_an G 8 kd2 ∧ σ2 (pb + 2) = q_an G 8 fi2 ∧ σ2 (pb + 3) = q_an G 8 se2 ∧ σ2 (pb + 4) = q_an G 8 tf2 ∧ σ2 (pb + 5) = q_an G 8 ts2 ∧ (∀ i : Nat, i < pb ∨ pb + 5 < i → σ2 i = σ i)) v9 σ') q_noX := ⟨_, rfl⟩
  refine (?_ : AJ G K (q_Q G K ex n 0 0 _ _) 0 0 ex n 0 _ _ σ)
  rw [← hQ]
  refine A_aload_n hg dX6_copyFrom_0 rfl rfl ?_
  refine A_aload_n hg dX6_copyFrom_1 rfl rfl ?_
  refine A_getf (v := .int (nI (b2))) hg fl_RX6_9 dX6_copyFrom_2 hc6 (by omega) rfl ?_
  refine A_putf hg fl_RX6_9 dX6_copyFrom_5 hc0 (by omega) (Nat.le_of_ble_eq_true rfl) rfl rfl rfl (fun σ_1 hc_2 hf_3 => ?_)
  have hc_2 : σ_1 pb = o6 G (pb) (nI (b2)) (nI (sk)) := hc_2
  have hc_4 : σ_1 (pb + 1) = q_an G 8 kd := (hf_3 _ (by omega)).trans hc1
  have hc_5 : σ_1 (pb + 2) = q_an G 8 fi := (hf_3 _ (by omega)).trans hc2
  have hc_6 : σ_1 (pb + 3) = q_an G 8 se := (hf_3 _ (by omega)).trans hc3
  have hc_7 : σ_1 (pb + 4) = q_an G 8 tf := (hf_3 _ (by omega)).trans hc4
  have hc_8 : σ_1 (pb + 5) = q_an G 8 ts := (hf_3 _ (by omega)).trans hc5
  have hc_9 : σ_1 p2 = o6 G (p2) (nI (b2)) (nI (sk2)) := (hf_3 _ (by omega)).trans hc6
  have hc_10 : σ_1 (p2 + 1) = q_an G 8 kd2 := (hf_3 _ (by omega)).trans hc7
  have hc_11 : σ_1 (p2 + 2) = q_an G 8 fi2 := (hf_3 _ (by omega)).trans hc8
  have hc_12 : σ_1 (p2 + 3) = q_an G 8 se2 := (hf_3 _ (by omega)).trans hc9
  have hc_13 : σ_1 (p2 + 4) = q_an G 8 tf2 := (hf_3 _ (by omega)).trans hc10
  have hc_14 : σ_1 (p2 + 5) = q_an G 8 ts2 := (hf_3 _ (by omega)).trans hc11
  refine A_aload_n hg dX6_copyFrom_8 rfl rfl ?_
  refine A_aload_n hg dX6_copyFrom_9 rfl rfl ?_
  refine A_getf (v := .int (nI (sk2))) hg fl_RX6_15 dX6_copyFrom_10 hc_9 (by omega) rfl ?_
  refine A_putf hg fl_RX6_15 dX6_copyFrom_13 hc_2 (by omega) (Nat.le_of_ble_eq_true rfl) rfl rfl rfl (fun σ_15 hc_16 hf_17 => ?_)
  have hc_16 : σ_15 pb = o6 G (pb) (nI (b2)) (nI (sk2)) := hc_16
  have hc_18 : σ_15 (pb + 1) = q_an G 8 kd := (hf_17 _ (by omega)).trans hc_4
  have hc_19 : σ_15 (pb + 2) = q_an G 8 fi := (hf_17 _ (by omega)).trans hc_5
  have hc_20 : σ_15 (pb + 3) = q_an G 8 se := (hf_17 _ (by omega)).trans hc_6
  have hc_21 : σ_15 (pb + 4) = q_an G 8 tf := (hf_17 _ (by omega)).trans hc_7
  have hc_22 : σ_15 (pb + 5) = q_an G 8 ts := (hf_17 _ (by omega)).trans hc_8
  have hc_23 : σ_15 p2 = o6 G (p2) (nI (b2)) (nI (sk2)) := (hf_17 _ (by omega)).trans hc_9
  have hc_24 : σ_15 (p2 + 1) = q_an G 8 kd2 := (hf_17 _ (by omega)).trans hc_10
  have hc_25 : σ_15 (p2 + 2) = q_an G 8 fi2 := (hf_17 _ (by omega)).trans hc_11
  have hc_26 : σ_15 (p2 + 3) = q_an G 8 se2 := (hf_17 _ (by omega)).trans hc_12
  have hc_27 : σ_15 (p2 + 4) = q_an G 8 tf2 := (hf_17 _ (by omega)).trans hc_13
  have hc_28 : σ_15 (p2 + 5) = q_an G 8 ts2 := (hf_17 _ (by omega)).trans hc_14
  refine A_aload_n hg dX6_copyFrom_16 rfl rfl ?_
  refine A_getf (v := .ref (q_h G + (p2 + 1))) hg fl_RX6_18 dX6_copyFrom_17 hc_23 (by omega) rfl ?_
  refine A_iconst (v := (nI (0))) hg dX6_copyFrom_20 (by decide) ?_
  refine A_aload_n hg dX6_copyFrom_21 rfl rfl ?_
  refine A_getf (v := .ref (q_h G + (pb + 1))) hg fl_RX6_18 dX6_copyFrom_22 hc_16 (by omega) rfl ?_
  refine A_iconst (v := (nI (0))) hg dX6_copyFrom_25 (by decide) ?_
  refine A_aload_n hg dX6_copyFrom_26 rfl rfl ?_
  refine A_getf (v := .ref (q_h G + (pb + 1))) hg fl_RX6_18 dX6_copyFrom_27 hc_16 (by omega) rfl ?_
  refine A_alen (t := 0) (len := 8) hg dX6_copyFrom_30 hc_18 (by decide) (by omega) ?_
  refine A_copy (x := 0) (y := 0) (z := 8) hg (q_mt 638 (by decide +kernel)) (q_mt 633 (by decide +kernel)) (q_mt 632 (by decide +kernel)) (q_mt 19 (by decide +kernel)) dX6_copyFrom_31 ⟨by decide, by decide⟩ (Nat.le_of_ble_eq_true rfl) hc_24 hc_18 (by omega) (by omega) (by omega) (by omega) (by decide) (by decide) (by decide) (fun σ_29 hc_30 hf_31 => ?_)
  have hc_32 : σ_29 (pb + 2) = q_an G 8 fi := (hf_31 _ (by omega)).trans hc_19
  have hc_33 : σ_29 (pb + 3) = q_an G 8 se := (hf_31 _ (by omega)).trans hc_20
  have hc_34 : σ_29 (pb + 4) = q_an G 8 tf := (hf_31 _ (by omega)).trans hc_21
  have hc_35 : σ_29 (pb + 5) = q_an G 8 ts := (hf_31 _ (by omega)).trans hc_22
  have hc_36 : σ_29 p2 = o6 G (p2) (nI (b2)) (nI (sk2)) := (hf_31 _ (by omega)).trans hc_23
  have hc_37 : σ_29 (p2 + 1) = q_an G 8 kd2 := (hf_31 _ (by omega)).trans hc_24
  have hc_38 : σ_29 (p2 + 2) = q_an G 8 fi2 := (hf_31 _ (by omega)).trans hc_25
  have hc_39 : σ_29 (p2 + 3) = q_an G 8 se2 := (hf_31 _ (by omega)).trans hc_26
  have hc_40 : σ_29 (p2 + 4) = q_an G 8 tf2 := (hf_31 _ (by omega)).trans hc_27
  have hc_41 : σ_29 (p2 + 5) = q_an G 8 ts2 := (hf_31 _ (by omega)).trans hc_28
  have hc_42 : σ_29 pb = o6 G (pb) (nI (b2)) (nI (sk2)) := (hf_31 _ (by omega)).trans hc_16
  refine A_aload_n hg dX6_copyFrom_34 rfl rfl ?_
  refine A_getf (v := .ref (q_h G + (p2 + 2))) hg fl_RX6_22 dX6_copyFrom_35 hc_36 (by omega) rfl ?_
  refine A_iconst (v := (nI (0))) hg dX6_copyFrom_38 (by decide) ?_
  refine A_aload_n hg dX6_copyFrom_39 rfl rfl ?_
  refine A_getf (v := .ref (q_h G + (pb + 2))) hg fl_RX6_22 dX6_copyFrom_40 hc_42 (by omega) rfl ?_
  refine A_iconst (v := (nI (0))) hg dX6_copyFrom_43 (by decide) ?_
  refine A_aload_n hg dX6_copyFrom_44 rfl rfl ?_
  refine A_getf (v := .ref (q_h G + (pb + 2))) hg fl_RX6_22 dX6_copyFrom_45 hc_42 (by omega) rfl ?_
  refine A_alen (t := 0) (len := 8) hg dX6_copyFrom_48 hc_32 (by decide) (by omega) ?_
  refine A_copy (x := 0) (y := 0) (z := 8) hg (q_mt 638 (by decide +kernel)) (q_mt 633 (by decide +kernel)) (q_mt 632 (by decide +kernel)) (q_mt 19 (by decide +kernel)) dX6_copyFrom_49 ⟨by decide, by decide⟩ (Nat.le_of_ble_eq_true rfl) hc_38 hc_32 (by omega) (by omega) (by omega) (by omega) (by decide) (by decide) (by decide) (fun σ_43 hc_44 hf_45 => ?_)
  have hc_46 : σ_43 (pb + 3) = q_an G 8 se := (hf_45 _ (by omega)).trans hc_33
  have hc_47 : σ_43 (pb + 4) = q_an G 8 tf := (hf_45 _ (by omega)).trans hc_34
  have hc_48 : σ_43 (pb + 5) = q_an G 8 ts := (hf_45 _ (by omega)).trans hc_35
  have hc_49 : σ_43 p2 = o6 G (p2) (nI (b2)) (nI (sk2)) := (hf_45 _ (by omega)).trans hc_36
  have hc_50 : σ_43 (p2 + 1) = q_an G 8 kd2 := (hf_45 _ (by omega)).trans hc_37
  have hc_51 : σ_43 (p2 + 2) = q_an G 8 fi2 := (hf_45 _ (by omega)).trans hc_38
  have hc_52 : σ_43 (p2 + 3) = q_an G 8 se2 := (hf_45 _ (by omega)).trans hc_39
  have hc_53 : σ_43 (p2 + 4) = q_an G 8 tf2 := (hf_45 _ (by omega)).trans hc_40
  have hc_54 : σ_43 (p2 + 5) = q_an G 8 ts2 := (hf_45 _ (by omega)).trans hc_41
  have hc_55 : σ_43 pb = o6 G (pb) (nI (b2)) (nI (sk2)) := (hf_45 _ (by omega)).trans hc_42
  have hc_56 : σ_43 (pb + 1) = q_an G 8 (va_cpy kd2 kd 0 0 8) := (hf_45 _ (by omega)).trans hc_30
  refine A_aload_n hg dX6_copyFrom_52 rfl rfl ?_
  refine A_getf (v := .ref (q_h G + (p2 + 3))) hg fl_RX6_25 dX6_copyFrom_53 hc_49 (by omega) rfl ?_
  refine A_iconst (v := (nI (0))) hg dX6_copyFrom_56 (by decide) ?_
  refine A_aload_n hg dX6_copyFrom_57 rfl rfl ?_
  refine A_getf (v := .ref (q_h G + (pb + 3))) hg fl_RX6_25 dX6_copyFrom_58 hc_55 (by omega) rfl ?_
  refine A_iconst (v := (nI (0))) hg dX6_copyFrom_61 (by decide) ?_
  refine A_aload_n hg dX6_copyFrom_62 rfl rfl ?_
  refine A_getf (v := .ref (q_h G + (pb + 3))) hg fl_RX6_25 dX6_copyFrom_63 hc_55 (by omega) rfl ?_
  refine A_alen (t := 0) (len := 8) hg dX6_copyFrom_66 hc_46 (by decide) (by omega) ?_
  refine A_copy (x := 0) (y := 0) (z := 8) hg (q_mt 638 (by decide +kernel)) (q_mt 633 (by decide +kernel)) (q_mt 632 (by decide +kernel)) (q_mt 19 (by decide +kernel)) dX6_copyFrom_67 ⟨by decide, by decide⟩ (Nat.le_of_ble_eq_true rfl) hc_52 hc_46 (by omega) (by omega) (by omega) (by omega) (by decide) (by decide) (by decide) (fun σ_57 hc_58 hf_59 => ?_)
  have hc_60 : σ_57 (pb + 4) = q_an G 8 tf := (hf_59 _ (by omega)).trans hc_47
  have hc_61 : σ_57 (pb + 5) = q_an G 8 ts := (hf_59 _ (by omega)).trans hc_48
  have hc_62 : σ_57 p2 = o6 G (p2) (nI (b2)) (nI (sk2)) := (hf_59 _ (by omega)).trans hc_49
  have hc_63 : σ_57 (p2 + 1) = q_an G 8 kd2 := (hf_59 _ (by omega)).trans hc_50
  have hc_64 : σ_57 (p2 + 2) = q_an G 8 fi2 := (hf_59 _ (by omega)).trans hc_51
  have hc_65 : σ_57 (p2 + 3) = q_an G 8 se2 := (hf_59 _ (by omega)).trans hc_52
  have hc_66 : σ_57 (p2 + 4) = q_an G 8 tf2 := (hf_59 _ (by omega)).trans hc_53
  have hc_67 : σ_57 (p2 + 5) = q_an G 8 ts2 := (hf_59 _ (by omega)).trans hc_54
  have hc_68 : σ_57 pb = o6 G (pb) (nI (b2)) (nI (sk2)) := (hf_59 _ (by omega)).trans hc_55
  have hc_69 : σ_57 (pb + 1) = q_an G 8 (va_cpy kd2 kd 0 0 8) := (hf_59 _ (by omega)).trans hc_56
  have hc_70 : σ_57 (pb + 2) = q_an G 8 (va_cpy fi2 fi 0 0 8) := (hf_59 _ (by omega)).trans hc_44
  refine A_aload_n hg dX6_copyFrom_70 rfl rfl ?_
  refine A_getf (v := .ref (q_h G + (p2 + 4))) hg fl_RX6_28 dX6_copyFrom_71 hc_62 (by omega) rfl ?_
  refine A_iconst (v := (nI (0))) hg dX6_copyFrom_74 (by decide) ?_
  refine A_aload_n hg dX6_copyFrom_75 rfl rfl ?_
  refine A_getf (v := .ref (q_h G + (pb + 4))) hg fl_RX6_28 dX6_copyFrom_76 hc_68 (by omega) rfl ?_
  refine A_iconst (v := (nI (0))) hg dX6_copyFrom_79 (by decide) ?_
  refine A_aload_n hg dX6_copyFrom_80 rfl rfl ?_
  refine A_getf (v := .ref (q_h G + (pb + 4))) hg fl_RX6_28 dX6_copyFrom_81 hc_68 (by omega) rfl ?_
  refine A_alen (t := 0) (len := 8) hg dX6_copyFrom_84 hc_60 (by decide) (by omega) ?_
  refine A_copy (x := 0) (y := 0) (z := 8) hg (q_mt 638 (by decide +kernel)) (q_mt 633 (by decide +kernel)) (q_mt 632 (by decide +kernel)) (q_mt 19 (by decide +kernel)) dX6_copyFrom_85 ⟨by decide, by decide⟩ (Nat.le_of_ble_eq_true rfl) hc_66 hc_60 (by omega) (by omega) (by omega) (by omega) (by decide) (by decide) (by decide) (fun σ_71 hc_72 hf_73 => ?_)
  have hc_74 : σ_71 (pb + 5) = q_an G 8 ts := (hf_73 _ (by omega)).trans hc_61
  have hc_75 : σ_71 p2 = o6 G (p2) (nI (b2)) (nI (sk2)) := (hf_73 _ (by omega)).trans hc_62
  have hc_76 : σ_71 (p2 + 1) = q_an G 8 kd2 := (hf_73 _ (by omega)).trans hc_63
  have hc_77 : σ_71 (p2 + 2) = q_an G 8 fi2 := (hf_73 _ (by omega)).trans hc_64
  have hc_78 : σ_71 (p2 + 3) = q_an G 8 se2 := (hf_73 _ (by omega)).trans hc_65
  have hc_79 : σ_71 (p2 + 4) = q_an G 8 tf2 := (hf_73 _ (by omega)).trans hc_66
  have hc_80 : σ_71 (p2 + 5) = q_an G 8 ts2 := (hf_73 _ (by omega)).trans hc_67
  have hc_81 : σ_71 pb = o6 G (pb) (nI (b2)) (nI (sk2)) := (hf_73 _ (by omega)).trans hc_68
  have hc_82 : σ_71 (pb + 1) = q_an G 8 (va_cpy kd2 kd 0 0 8) := (hf_73 _ (by omega)).trans hc_69
  have hc_83 : σ_71 (pb + 2) = q_an G 8 (va_cpy fi2 fi 0 0 8) := (hf_73 _ (by omega)).trans hc_70
  have hc_84 : σ_71 (pb + 3) = q_an G 8 (va_cpy se2 se 0 0 8) := (hf_73 _ (by omega)).trans hc_58
  refine A_aload_n hg dX6_copyFrom_88 rfl rfl ?_
  refine A_getf (v := .ref (q_h G + (p2 + 5))) hg fl_RX6_31 dX6_copyFrom_89 hc_75 (by omega) rfl ?_
  refine A_iconst (v := (nI (0))) hg dX6_copyFrom_92 (by decide) ?_
  refine A_aload_n hg dX6_copyFrom_93 rfl rfl ?_
  refine A_getf (v := .ref (q_h G + (pb + 5))) hg fl_RX6_31 dX6_copyFrom_94 hc_81 (by omega) rfl ?_
  refine A_iconst (v := (nI (0))) hg dX6_copyFrom_97 (by decide) ?_
  refine A_aload_n hg dX6_copyFrom_98 rfl rfl ?_
  refine A_getf (v := .ref (q_h G + (pb + 5))) hg fl_RX6_31 dX6_copyFrom_99 hc_81 (by omega) rfl ?_
  refine A_alen (t := 0) (len := 8) hg dX6_copyFrom_102 hc_74 (by decide) (by omega) ?_
  refine A_copy (x := 0) (y := 0) (z := 8) hg (q_mt 638 (by decide +kernel)) (q_mt 633 (by decide +kernel)) (q_mt 632 (by decide +kernel)) (q_mt 19 (by decide +kernel)) dX6_copyFrom_103 ⟨by decide, by decide⟩ (Nat.le_of_ble_eq_true rfl) hc_80 hc_74 (by omega) (by omega) (by omega) (by omega) (by decide) (by decide) (by decide) (fun σ_85 hc_86 hf_87 => ?_)
  have hc_88 : σ_85 p2 = o6 G (p2) (nI (b2)) (nI (sk2)) := (hf_87 _ (by omega)).trans hc_75
  have hc_89 : σ_85 (p2 + 1) = q_an G 8 kd2 := (hf_87 _ (by omega)).trans hc_76
  have hc_90 : σ_85 (p2 + 2) = q_an G 8 fi2 := (hf_87 _ (by omega)).trans hc_77
  have hc_91 : σ_85 (p2 + 3) = q_an G 8 se2 := (hf_87 _ (by omega)).trans hc_78
  have hc_92 : σ_85 (p2 + 4) = q_an G 8 tf2 := (hf_87 _ (by omega)).trans hc_79
  have hc_93 : σ_85 (p2 + 5) = q_an G 8 ts2 := (hf_87 _ (by omega)).trans hc_80
  have hc_94 : σ_85 pb = o6 G (pb) (nI (b2)) (nI (sk2)) := (hf_87 _ (by omega)).trans hc_81
  have hc_95 : σ_85 (pb + 1) = q_an G 8 (va_cpy kd2 kd 0 0 8) := (hf_87 _ (by omega)).trans hc_82
  have hc_96 : σ_85 (pb + 2) = q_an G 8 (va_cpy fi2 fi 0 0 8) := (hf_87 _ (by omega)).trans hc_83
  have hc_97 : σ_85 (pb + 3) = q_an G 8 (va_cpy se2 se 0 0 8) := (hf_87 _ (by omega)).trans hc_84
  have hc_98 : σ_85 (pb + 4) = q_an G 8 (va_cpy tf2 tf 0 0 8) := (hf_87 _ (by omega)).trans hc_72
  refine A_canon kd2 hc_95 (fun jj hj => by unfold va_cpy; rw [if_pos (by omega)]; congr 1; omega) (fun σ_99 hc_100 hf_101 => ?_)
  have hc_102 : σ_99 p2 = o6 G (p2) (nI (b2)) (nI (sk2)) := (hf_101 _ (by omega)).trans hc_88
  have hc_103 : σ_99 (p2 + 1) = q_an G 8 kd2 := (hf_101 _ (by omega)).trans hc_89
  have hc_104 : σ_99 (p2 + 2) = q_an G 8 fi2 := (hf_101 _ (by omega)).trans hc_90
  have hc_105 : σ_99 (p2 + 3) = q_an G 8 se2 := (hf_101 _ (by omega)).trans hc_91
  have hc_106 : σ_99 (p2 + 4) = q_an G 8 tf2 := (hf_101 _ (by omega)).trans hc_92
  have hc_107 : σ_99 (p2 + 5) = q_an G 8 ts2 := (hf_101 _ (by omega)).trans hc_93
  have hc_108 : σ_99 pb = o6 G (pb) (nI (b2)) (nI (sk2)) := (hf_101 _ (by omega)).trans hc_94
  have hc_109 : σ_99 (pb + 2) = q_an G 8 (va_cpy fi2 fi 0 0 8) := (hf_101 _ (by omega)).trans hc_96
  have hc_110 : σ_99 (pb + 3) = q_an G 8 (va_cpy se2 se 0 0 8) := (hf_101 _ (by omega)).trans hc_97
  have hc_111 : σ_99 (pb + 4) = q_an G 8 (va_cpy tf2 tf 0 0 8) := (hf_101 _ (by omega)).trans hc_98
  have hc_112 : σ_99 (pb + 5) = q_an G 8 (va_cpy ts2 ts 0 0 8) := (hf_101 _ (by omega)).trans hc_86
  refine A_canon fi2 hc_109 (fun jj hj => by unfold va_cpy; rw [if_pos (by omega)]; congr 1; omega) (fun σ_113 hc_114 hf_115 => ?_)
  have hc_116 : σ_113 p2 = o6 G (p2) (nI (b2)) (nI (sk2)) := (hf_115 _ (by omega)).trans hc_102
  have hc_117 : σ_113 (p2 + 1) = q_an G 8 kd2 := (hf_115 _ (by omega)).trans hc_103
  have hc_118 : σ_113 (p2 + 2) = q_an G 8 fi2 := (hf_115 _ (by omega)).trans hc_104
  have hc_119 : σ_113 (p2 + 3) = q_an G 8 se2 := (hf_115 _ (by omega)).trans hc_105
  have hc_120 : σ_113 (p2 + 4) = q_an G 8 tf2 := (hf_115 _ (by omega)).trans hc_106
  have hc_121 : σ_113 (p2 + 5) = q_an G 8 ts2 := (hf_115 _ (by omega)).trans hc_107
  have hc_122 : σ_113 pb = o6 G (pb) (nI (b2)) (nI (sk2)) := (hf_115 _ (by omega)).trans hc_108
  have hc_123 : σ_113 (pb + 3) = q_an G 8 (va_cpy se2 se 0 0 8) := (hf_115 _ (by omega)).trans hc_110
  have hc_124 : σ_113 (pb + 4) = q_an G 8 (va_cpy tf2 tf 0 0 8) := (hf_115 _ (by omega)).trans hc_111
  have hc_125 : σ_113 (pb + 5) = q_an G 8 (va_cpy ts2 ts 0 0 8) := (hf_115 _ (by omega)).trans hc_112
  have hc_126 : σ_113 (pb + 1) = q_an G 8 kd2 := (hf_115 _ (by omega)).trans hc_100
  refine A_canon se2 hc_123 (fun jj hj => by unfold va_cpy; rw [if_pos (by omega)]; congr 1; omega) (fun σ_127 hc_128 hf_129 => ?_)
  have hc_130 : σ_127 p2 = o6 G (p2) (nI (b2)) (nI (sk2)) := (hf_129 _ (by omega)).trans hc_116
  have hc_131 : σ_127 (p2 + 1) = q_an G 8 kd2 := (hf_129 _ (by omega)).trans hc_117
  have hc_132 : σ_127 (p2 + 2) = q_an G 8 fi2 := (hf_129 _ (by omega)).trans hc_118
  have hc_133 : σ_127 (p2 + 3) = q_an G 8 se2 := (hf_129 _ (by omega)).trans hc_119
  have hc_134 : σ_127 (p2 + 4) = q_an G 8 tf2 := (hf_129 _ (by omega)).trans hc_120
  have hc_135 : σ_127 (p2 + 5) = q_an G 8 ts2 := (hf_129 _ (by omega)).trans hc_121
  have hc_136 : σ_127 pb = o6 G (pb) (nI (b2)) (nI (sk2)) := (hf_129 _ (by omega)).trans hc_122
  have hc_137 : σ_127 (pb + 4) = q_an G 8 (va_cpy tf2 tf 0 0 8) := (hf_129 _ (by omega)).trans hc_124
  have hc_138 : σ_127 (pb + 5) = q_an G 8 (va_cpy ts2 ts 0 0 8) := (hf_129 _ (by omega)).trans hc_125
  have hc_139 : σ_127 (pb + 1) = q_an G 8 kd2 := (hf_129 _ (by omega)).trans hc_126
  have hc_140 : σ_127 (pb + 2) = q_an G 8 fi2 := (hf_129 _ (by omega)).trans hc_114
  refine A_canon tf2 hc_137 (fun jj hj => by unfold va_cpy; rw [if_pos (by omega)]; congr 1; omega) (fun σ_141 hc_142 hf_143 => ?_)
  have hc_144 : σ_141 p2 = o6 G (p2) (nI (b2)) (nI (sk2)) := (hf_143 _ (by omega)).trans hc_130
  have hc_145 : σ_141 (p2 + 1) = q_an G 8 kd2 := (hf_143 _ (by omega)).trans hc_131
  have hc_146 : σ_141 (p2 + 2) = q_an G 8 fi2 := (hf_143 _ (by omega)).trans hc_132
  have hc_147 : σ_141 (p2 + 3) = q_an G 8 se2 := (hf_143 _ (by omega)).trans hc_133
  have hc_148 : σ_141 (p2 + 4) = q_an G 8 tf2 := (hf_143 _ (by omega)).trans hc_134
  have hc_149 : σ_141 (p2 + 5) = q_an G 8 ts2 := (hf_143 _ (by omega)).trans hc_135
  have hc_150 : σ_141 pb = o6 G (pb) (nI (b2)) (nI (sk2)) := (hf_143 _ (by omega)).trans hc_136
  have hc_151 : σ_141 (pb + 5) = q_an G 8 (va_cpy ts2 ts 0 0 8) := (hf_143 _ (by omega)).trans hc_138
  have hc_152 : σ_141 (pb + 1) = q_an G 8 kd2 := (hf_143 _ (by omega)).trans hc_139
  have hc_153 : σ_141 (pb + 2) = q_an G 8 fi2 := (hf_143 _ (by omega)).trans hc_140
  have hc_154 : σ_141 (pb + 3) = q_an G 8 se2 := (hf_143 _ (by omega)).trans hc_128
  refine A_canon ts2 hc_151 (fun jj hj => by unfold va_cpy; rw [if_pos (by omega)]; congr 1; omega) (fun σ_155 hc_156 hf_157 => ?_)
  have hc_158 : σ_155 p2 = o6 G (p2) (nI (b2)) (nI (sk2)) := (hf_157 _ (by omega)).trans hc_144
  have hc_159 : σ_155 (p2 + 1) = q_an G 8 kd2 := (hf_157 _ (by omega)).trans hc_145
  have hc_160 : σ_155 (p2 + 2) = q_an G 8 fi2 := (hf_157 _ (by omega)).trans hc_146
  have hc_161 : σ_155 (p2 + 3) = q_an G 8 se2 := (hf_157 _ (by omega)).trans hc_147
  have hc_162 : σ_155 (p2 + 4) = q_an G 8 tf2 := (hf_157 _ (by omega)).trans hc_148
  have hc_163 : σ_155 (p2 + 5) = q_an G 8 ts2 := (hf_157 _ (by omega)).trans hc_149
  have hc_164 : σ_155 pb = o6 G (pb) (nI (b2)) (nI (sk2)) := (hf_157 _ (by omega)).trans hc_150
  have hc_165 : σ_155 (pb + 1) = q_an G 8 kd2 := (hf_157 _ (by omega)).trans hc_152
  have hc_166 : σ_155 (pb + 2) = q_an G 8 fi2 := (hf_157 _ (by omega)).trans hc_153
  have hc_167 : σ_155 (pb + 3) = q_an G 8 se2 := (hf_157 _ (by omega)).trans hc_154
  have hc_168 : σ_155 (pb + 4) = q_an G 8 tf2 := (hf_157 _ (by omega)).trans hc_142
  rw [hQ]
  exact A_return hg (by decide) (by decide) rfl dX6_copyFrom_106 ⟨rfl, ⟨rfl, hc_164, hc_165, hc_166, hc_167, hc_168, hc_156, (fun i hi => ((hf_157 i (by omega)).trans ((hf_143 i (by omega)).trans ((hf_129 i (by omega)).trans ((hf_115 i (by omega)).trans ((hf_101 i (by omega)).trans ((hf_87 i (by omega)).trans ((hf_73 i (by omega)).trans ((hf_59 i (by omega)).trans ((hf_45 i (by omega)).trans ((hf_31 i (by omega)).trans ((hf_17 i (by omega)).trans (hf_3 i (by omega))))))))))))))⟩⟩
end
