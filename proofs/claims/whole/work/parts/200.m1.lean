section
set_option maxRecDepth 100000 in
set_option maxHeartbeats 4000000 in
theorem c_X11_inRange (G : GL) (ex : Bool) (n : Nat) (σ : Nat → va_E) (v : Int32) (a : Int32) (b : Int32)   : Ct G yX11_inRange cX11_inRange 3 (some .boolean) ⟨0, 0, 0, 0⟩ [.int (v), .int (a), .int (b)] ex n σ (fun v9 σ2 => σ2 = σ ∧ v9 = some (.int (q_b (q_in v a b)))) := by
  refine q_enter [some (.int (v)), some (.int (a)), some (.int (b))] (by decide) (Nat.le_of_ble_eq_true rfl) rfl ?_
  intro K hg
  obtain ⟨Q, hQ⟩ : ∃ Q, Q = q_Q G K ex n 0 0 (fun v9 n' σ' => n' = n ∧ (fun v9 σ2 => σ2 = σ ∧ v9 = some (.int (q_b (q_in v a b)))) v9 σ') q_noX := ⟨_, rfl⟩
  refine (?_ : AJ G K (q_Q G K ex n 0 0 _ _) 0 0 ex n 0 _ _ σ)
  rw [← hQ]
  refine A_iload_n hg dX11_inRange_0 rfl rfl ?_
  refine A_iload_n hg dX11_inRange_1 rfl rfl ?_
  refine A_icmp_lt (tgt := 14) hg dX11_inRange_2 (by decide) (fun c2 => ?_) (fun c2 => ?_)
  · skip
    refine A_iconst (v := (nI (0))) hg dX11_inRange_14 (by decide) ?_
    rw [hQ]
    exact A_zreturn hg (by decide) (by decide) rfl rfl dX11_inRange_15 ⟨rfl, ⟨rfl, (by first | (rw [q_in_t c2 c7]; rfl) | (rw [q_in_f1 c2]; rfl) | (rw [q_in_f2 c7]; rfl))⟩⟩
  · skip
    refine A_iload_n hg dX11_inRange_5 rfl rfl ?_
    refine A_iload_n hg dX11_inRange_6 rfl rfl ?_
    refine A_icmp_gt (tgt := 14) hg dX11_inRange_7 (by decide) (fun c7 => ?_) (fun c7 => ?_)
    · skip
      refine A_iconst (v := (nI (0))) hg dX11_inRange_14 (by decide) ?_
      rw [hQ]
      exact A_zreturn hg (by decide) (by decide) rfl rfl dX11_inRange_15 ⟨rfl, ⟨rfl, (by first | (rw [q_in_t c2 c7]; rfl) | (rw [q_in_f1 c2]; rfl) | (rw [q_in_f2 c7]; rfl))⟩⟩
    · skip
      refine A_iconst (v := (nI (1))) hg dX11_inRange_10 (by decide) ?_
      refine A_goto (tgt := 15) hg dX11_inRange_11 (by decide) ?_
      rw [hQ]
      exact A_zreturn hg (by decide) (by decide) rfl rfl dX11_inRange_15 ⟨rfl, ⟨rfl, (by first | (rw [q_in_t c2 c7]; rfl) | (rw [q_in_f1 c2]; rfl) | (rw [q_in_f2 c7]; rfl))⟩⟩
set_option maxRecDepth 100000 in
set_option maxHeartbeats 4000000 in
theorem c_X11_thrown (G : GL) (ex : Bool) (n : Nat) (σ : Nat → va_E) (F : Nat → Int32) (hc0 : σ 279 = o11 G F) (hn : 294 ≤ n) : Ct G yX11_thrown cX11_thrown 1 (some .int) ⟨0, 0, 0, 0⟩ [.ref (q_h G + 279)] ex n σ (fun v9 σ2 => σ2 = σ ∧ v9 = some (.int (F 7))) := by
  refine q_enter [some (.ref (q_h G + 279))] (by decide) (Nat.le_of_ble_eq_true rfl) rfl ?_
  intro K hg
  obtain ⟨Q, hQ⟩ : ∃ Q, Q = q_Q G K ex n 0 0 (fun v9 n' σ' => n' = n ∧ (fun v9 σ2 => σ2 = σ ∧ v9 = some (.int (F 7))) v9 σ') q_noX := ⟨_, rfl⟩
  refine (?_ : AJ G K (q_Q G K ex n 0 0 _ _) 0 0 ex n 0 _ _ σ)
  rw [← hQ]
  refine A_aload_n hg dX11_thrown_0 rfl rfl ?_
  refine A_getf (v := .int (F 7)) hg fl_RX11_67 dX11_thrown_1 hc0 (by omega) rfl ?_
  rw [hQ]
  exact A_ireturn hg (by decide) (by decide) rfl dX11_thrown_4 ⟨rfl, ⟨rfl, rfl⟩⟩
set_option maxRecDepth 100000 in
set_option maxHeartbeats 4000000 in
theorem c_X11_fails0 (G : GL) (ex : Bool) (n : Nat) (σ : Nat → va_E) (F : Nat → Int32) (e : Int32) (hc0 : σ 279 = o11 G F) (hn : 294 ≤ n) : Ct G yX11_fails cX11_fails 3 (some .boolean) ⟨0, 0, 0, 0⟩ [.ref (q_h G + 279), .int (nI (0)), .int (e)] ex n σ (fun v9 σ2 => σ2 = σ ∧ v9 = some (.int (nI (0)))) := by
  refine q_enter [some (.ref (q_h G + 279)), some (.int (nI (0))), some (.int (e))] (by decide) (Nat.le_of_ble_eq_true rfl) rfl ?_
  intro K hg
  obtain ⟨Q, hQ⟩ : ∃ Q, Q = q_Q G K ex n 0 0 (fun v9 n' σ' => n' = n ∧ (fun v9 σ2 => σ2 = σ ∧ v9 = some (.int (nI (0)))) v9 σ') q_noX := ⟨_, rfl⟩
  refine (?_ : AJ G K (q_Q G K ex n 0 0 _ _) 0 0 ex n 0 _ _ σ)
  rw [← hQ]
  refine A_iload_n hg dX11_fails_0 rfl rfl ?_
  refine A_if_eqN (tgt := 9) hg dX11_fails_1 (by decide) (by decide) (fun c1 => ?_) (fun c1 => absurd (by decide) c1)
  refine A_iload_n hg dX11_fails_9 rfl rfl ?_
  rw [hQ]
  exact A_zreturn hg (by decide) (by decide) rfl rfl dX11_fails_10 ⟨rfl, ⟨rfl, rfl⟩⟩
set_option maxRecDepth 100000 in
set_option maxHeartbeats 4000000 in
theorem c_X11_fails1 (G : GL) (ex : Bool) (n : Nat) (σ : Nat → va_E) (F : Nat → Int32) (e : Nat) (hc0 : σ 279 = o11 G F) (hn : 294 ≤ n) : Ct G yX11_fails cX11_fails 3 (some .boolean) ⟨0, 0, 0, 0⟩ [.ref (q_h G + 279), .int (nI (1)), .int (nI (e))] ex n σ (fun v9 σ2 => v9 = some (.int (nI (1))) ∧ σ2 279 = o11 G (upd F 7 (nI (e))) ∧ (∀ i : Nat, i ≠ 279 → σ2 i = σ i)) := by
  refine q_enter [some (.ref (q_h G + 279)), some (.int (nI (1))), some (.int (nI (e)))] (by decide) (Nat.le_of_ble_eq_true rfl) rfl ?_
  intro K hg
  obtain ⟨Q, hQ⟩ : ∃ Q, Q = q_Q G K ex n 0 0 (fun v9 n' σ' => n' = n ∧ (fun v9 σ2 => v9 = some (.int (nI (1))) ∧ σ2 279 = o11 G (upd F 7 (nI (e))) ∧ (∀ i : Nat, i ≠ 279 → σ2 i = σ i)) v9 σ') q_noX := ⟨_, rfl⟩
  refine (?_ : AJ G K (q_Q G K ex n 0 0 _ _) 0 0 ex n 0 _ _ σ)
  rw [← hQ]
  refine A_iload_n hg dX11_fails_0 rfl rfl ?_
  refine A_if_eqN (tgt := 9) hg dX11_fails_1 (by decide) (by decide) (fun c1 => absurd c1 (by decide)) (fun c1 => ?_)
  refine A_aload_n hg dX11_fails_4 rfl rfl ?_
  refine A_iload_n hg dX11_fails_5 rfl rfl ?_
  refine A_putf hg fl_RX11_67 dX11_fails_6 hc0 (by omega) (Nat.le_of_ble_eq_true rfl) rfl rfl rfl (fun σ_1 hc_2 hf_3 => ?_)
  have hc_2 : σ_1 279 = o11 G (upd F 7 (nI (e))) := hc_2
  refine A_iload_n hg dX11_fails_9 rfl rfl ?_
  rw [hQ]
  exact A_zreturn hg (by decide) (by decide) rfl rfl dX11_fails_10 ⟨rfl, ⟨rfl, hc_2, (fun i hi => (hf_3 i (by omega)))⟩⟩
set_option maxRecDepth 100000 in
set_option maxHeartbeats 4000000 in
theorem c_X11_of (G : GL) (ex : Bool) (n : Nat) (σ : Nat → va_E) (F : Nat → Int32) (g : Nat → Nat) (r : Nat) (j : Nat) (hc0 : σ 279 = o11 G F) (hc1 : σ 280 = q_an G 265 g) (hn : 294 ≤ n) (hb : 17 + 29 * r + j < 265) : Ct G yX11_of cX11_of 3 (some .int) ⟨0, 0, 0, 0⟩ [.ref (q_h G + 279), .int (nI (r)), .int (nI (j))] ex n σ (fun v9 σ2 => σ2 = σ ∧ v9 = some (.int (nI (s_rule g r j)))) := by
  refine q_enter [some (.ref (q_h G + 279)), some (.int (nI (r))), some (.int (nI (j)))] (by decide) (Nat.le_of_ble_eq_true rfl) rfl ?_
  intro K hg
  obtain ⟨Q, hQ⟩ : ∃ Q, Q = q_Q G K ex n 0 0 (fun v9 n' σ' => n' = n ∧ (fun v9 σ2 => σ2 = σ ∧ v9 = some (.int (nI (s_rule g r j)))) v9 σ') q_noX := ⟨_, rfl⟩
  refine (?_ : AJ G K (q_Q G K ex n 0 0 _ _) 0 0 ex n 0 _ _ σ)
  rw [← hQ]
  refine A_aload_n hg dX11_of_0 rfl rfl ?_
  refine A_getf (v := .ref (q_h G + 280)) hg fl_RX11_7 dX11_of_1 hc0 (by omega) rfl ?_
  refine A_bipush (v := (nI (17))) hg dX11_of_4 (by decide) ?_
  refine A_bipush (v := (nI (29))) hg dX11_of_6 (by decide) ?_
  refine A_iload_n hg dX11_of_8 rfl rfl ?_
  refine A_imulN hg dX11_of_9 ?_
  refine A_iaddN hg dX11_of_10 ?_
  refine A_iload_n hg dX11_of_11 rfl rfl ?_
  refine A_iaddN hg dX11_of_12 ?_
  refine A_iald (j := ((17 + (29 * r)) + j)) hg dX11_of_13 hc1 (by omega) (by omega) (by decide) ?_
  rw [hQ]
  exact A_ireturn hg (by decide) (by decide) rfl dX11_of_14 ⟨rfl, ⟨rfl, rfl⟩⟩
set_option maxRecDepth 100000 in
set_option maxHeartbeats 4000000 in
theorem c_X11_putsRule (G : GL) (ex : Bool) (n : Nat) (σ : Nat → va_E) (F : Nat → Int32) (g : Nat → Nat) (r : Nat) (j : Nat) (x : Nat) (hc0 : σ 279 = o11 G F) (hc1 : σ 280 = q_an G 265 g) (hn : 294 ≤ n) (hb : 17 + 29 * r + j < 265) : Ct G yX11_putsRule cX11_putsRule 4 none ⟨0, 0, 0, 0⟩ [.ref (q_h G + 279), .int (nI (r)), .int (nI (j)), .int (nI (x))] ex n σ (fun v9 σ2 => v9 = none ∧ σ2 280 = q_an G 265 (va_up g (17 + 29 * r + j) x) ∧ (∀ i : Nat, i ≠ 280 → σ2 i = σ i)) := by
  refine q_enter [some (.ref (q_h G + 279)), some (.int (nI (r))), some (.int (nI (j))), some (.int (nI (x)))] (by decide) (Nat.le_of_ble_eq_true rfl) rfl ?_
  intro K hg
  obtain ⟨Q, hQ⟩ : ∃ Q, Q = q_Q G K ex n 0 0 (fun v9 n' σ' => n' = n ∧ (fun v9 σ2 => v9 = none ∧ σ2 280 = q_an G 265 (va_up g (17 + 29 * r + j) x) ∧ (∀ i : Nat, i ≠ 280 → σ2 i = σ i)) v9 σ') q_noX := ⟨_, rfl⟩
  refine (?_ : AJ G K (q_Q G K ex n 0 0 _ _) 0 0 ex n 0 _ _ σ)
  rw [← hQ]
  refine A_aload_n hg dX11_putsRule_0 rfl rfl ?_
  refine A_getf (v := .ref (q_h G + 280)) hg fl_RX11_7 dX11_putsRule_1 hc0 (by omega) rfl ?_
  refine A_bipush (v := (nI (17))) hg dX11_putsRule_4 (by decide) ?_
  refine A_bipush (v := (nI (29))) hg dX11_putsRule_6 (by decide) ?_
  refine A_iload_n hg dX11_putsRule_8 rfl rfl ?_
  refine A_imulN hg dX11_putsRule_9 ?_
  refine A_iaddN hg dX11_putsRule_10 ?_
  refine A_iload_n hg dX11_putsRule_11 rfl rfl ?_
  refine A_iaddN hg dX11_putsRule_12 ?_
  refine A_iload_n hg dX11_putsRule_13 rfl rfl ?_
  refine A_iast (j := ((17 + (29 * r)) + j)) (x := x) hg dX11_putsRule_14 hc1 (by omega) (by omega) (by decide) (fun σ_1 hc_2 hf_3 => ?_)
  have hc_4 : σ_1 279 = o11 G F := (hf_3 _ (by omega)).trans hc0
  rw [hQ]
  exact A_return hg (by decide) (by decide) rfl dX11_putsRule_15 ⟨rfl, ⟨rfl, hc_2, (fun i hi => (hf_3 i (by omega)))⟩⟩
set_option maxRecDepth 100000 in
set_option maxHeartbeats 4000000 in
theorem c_X11_isInOnly (G : GL) (ex : Bool) (n : Nat) (σ : Nat → va_E) (F : Nat → Int32) (g : Nat → Nat) (r : Nat) (x : Nat) (hc0 : σ 279 = o11 G F) (hc1 : σ 280 = q_an G 265 g) (hn : 294 ≤ n) (hr : r < 4) (hw : s_rwf (s_rule g r)) (hx : x < 2 ^ 31) : Ct G yX11_isInOnly cX11_isInOnly 4 (some .boolean) ⟨1, 0, 0, 22⟩ [.ref (q_h G + 279), .int (nI (r)), .int (nI (x))] ex n σ (fun v9 σ2 => σ2 = σ ∧ v9 = some (.int (q_b (s_only (s_rule g r) x)))) := by
  refine q_enter [some (.ref (q_h G + 279)), some (.int (nI (r))), some (.int (nI (x))), none] (by decide) (Nat.le_of_ble_eq_true rfl) rfl ?_
  intro K hg
  obtain ⟨Q, hQ⟩ : ∃ Q, Q = q_Q G K ex n 0 0 (fun v9 n' σ' => n' = n ∧ (fun v9 σ2 => σ2 = σ ∧ v9 = some (.int (q_b (s_only (s_rule g r) x)))) v9 σ') q_noX := ⟨_, rfl⟩
  refine (?_ : AJ G K (q_Q G K ex n 0 0 _ _) 0 0 ex n 0 _ _ σ)
  rw [← hQ]
  have hu9 := hw.2.1
  refine A_iconst (v := (nI (0))) hg dX11_isInOnly_0 (by decide) ?_
  refine A_istore_n hg dX11_isInOnly_1 rfl (by decide) (q_c1d rfl) ?_
  refine A_eq (ls2 := [some (.ref (q_h G + 279)), some (.int (nI (r))), some (.int (nI (x))), some (.int (nI (0)))]) (st2 := []) (pc2 := 0) rfl rfl ?_
  have hL2 : ∀ (fu : Nat) (i : Nat), (i ≤ s_rule g r 9) → (∀ j : Nat, j < i → (s_rule g r (10 + j) == x) = false) → (s_rule g r 9 - i) < fu → AJ G K Q 0 0 ex n 2 [some (.ref (q_h G + 279)), some (.int (nI (r))), some (.int (nI (x))), some (.int (nI (i)))] [] σ := by
    intro fu
    induction fu with
    | zero => intro i hi hno hm; exact absurd hm (Nat.not_lt_zero _)
    | succ fu ih2 =>
      intro i hi hno hm2
      refine A_iload_n hg dX11_isInOnly_2 rfl rfl ?_
      refine A_aload_n hg dX11_isInOnly_3 rfl rfl ?_
      refine A_iload_n hg dX11_isInOnly_4 rfl rfl ?_
      refine A_bipush (v := (nI (9))) hg dX11_isInOnly_5 (by decide) ?_
      refine A_eV (kc2 := 0) (ks2 := 0) (As := [.int (nI (r)), .int (nI (9))]) (rest := [.int (nI (i))]) hg lk_RX11_85 in_X11_of se_X11_of rfl dX11_isInOnly_7 ⟨by decide, by decide⟩ rfl rfl ⟨by decide, by decide⟩ hc0 (by omega) rfl rfl (Nat.le_of_ble_eq_true rfl) (c_X11_of G ex n σ F g r 9 hc0 hc1 (by omega) (by omega)) ?_
      refine A_icmp_geN (tgt := 34) hg dX11_isInOnly_10 (by omega) (by omega) (by decide) (fun c10 => ?_) (fun c10 => ?_)
      · skip
        refine A_iconst (v := (nI (0))) hg dX11_isInOnly_34 (by decide) ?_
        rw [hQ]
        exact A_zreturn hg (by decide) (by decide) rfl rfl dX11_isInOnly_35 ⟨rfl, ⟨rfl, (q_rf (s_any_f (fun j hj => hno j (by omega))))⟩⟩
      · skip
        have hb1 := hw.2.2.2.2.2.1 i (by omega)
        refine A_aload_n hg dX11_isInOnly_13 rfl rfl ?_
        refine A_iload_n hg dX11_isInOnly_14 rfl rfl ?_
        refine A_bipush (v := (nI (10))) hg dX11_isInOnly_15 (by decide) ?_
        refine A_iload_n hg dX11_isInOnly_17 rfl rfl ?_
        refine A_iaddN hg dX11_isInOnly_18 ?_
        refine A_eV (kc2 := 0) (ks2 := 0) (As := [.int (nI (r)), .int (nI (10 + i))]) (rest := []) hg lk_RX11_85 in_X11_of se_X11_of rfl dX11_isInOnly_19 ⟨by decide, by decide⟩ rfl rfl ⟨by decide, by decide⟩ hc0 (by omega) rfl rfl (Nat.le_of_ble_eq_true rfl) (c_X11_of G ex n σ F g r (10 + i) hc0 hc1 (by omega) (by omega)) ?_
        refine A_iload_n hg dX11_isInOnly_22 rfl rfl ?_
        refine A_icmp_neN (tgt := 28) hg dX11_isInOnly_23 (by omega) (by omega) (by decide) (fun c23 => ?_) (fun c23 => ?_)
        · skip
          refine A_iincN (k' := 1) hg dX11_isInOnly_28 (by decide) rfl (by decide) (q_c1d rfl) ?_
          refine A_eq (ls2 := [some (.ref (q_h G + 279)), some (.int (nI (r))), some (.int (nI (x))), some (.int (nI (i + 1)))]) (st2 := []) (pc2 := 0) rfl rfl ?_
          refine A_goto (tgt := 2) hg dX11_isInOnly_31 (by decide) ?_
          exact ih2 (i + 1) (by omega) (lt_s hno (beq_eq_false_iff_ne.mpr c23)) (by omega)
        · skip
          refine A_iconst (v := (nI (1))) hg dX11_isInOnly_26 (by decide) ?_
          rw [hQ]
          exact A_zreturn hg (by decide) (by decide) rfl rfl dX11_isInOnly_27 ⟨rfl, ⟨rfl, (q_rt (s_any_t (k := i) (by omega) (by rw [c23]; exact beq_self_eq_true _)))⟩⟩
  exact hL2 _ 0 (Nat.zero_le _) (fun j h => absurd h (Nat.not_lt_zero j)) (Nat.lt_succ_self _)
set_option maxRecDepth 100000 in
set_option maxHeartbeats 4000000 in
theorem c_X11_barOf (G : GL) (ex : Bool) (n : Nat) (σ : Nat → va_E) (F : Nat → Int32) (g : Nat → Nat) (r : Nat) (k : Nat) (l : Nat) (hc0 : σ 279 = o11 G F) (hc1 : σ 280 = q_an G 265 g) (hn : 294 ≤ n) (hr : r < 4) (hw : s_rwf (s_rule g r)) (hk : k < 2 ^ 31) (hl : l < 2 ^ 31) : Ct G yX11_barOf cX11_barOf 5 (some .int) ⟨1, 0, 0, 22⟩ [.ref (q_h G + 279), .int (nI (r)), .int (nI (k)), .int (nI (l))] ex n σ (fun v9 σ2 => σ2 = σ ∧ v9 = some (.int (q_d (if s_barred (s_rule g r) k l = true then s_bar (s_rule g r) k l + 1 else 0)))) := by
  refine q_enter [some (.ref (q_h G + 279)), some (.int (nI (r))), some (.int (nI (k))), some (.int (nI (l))), none] (by decide) (Nat.le_of_ble_eq_true rfl) rfl ?_
  intro K hg
  obtain ⟨Q, hQ⟩ : ∃ Q, Q = q_Q G K ex n 0 0 (fun v9 n' σ' => n' = n ∧ (fun v9 σ2 => σ2 = σ ∧ v9 = some (.int (q_d (if s_barred (s_rule g r) k l = true then s_bar (s_rule g r) k l + 1 else 0)))) v9 σ') q_noX := ⟨_, rfl⟩
  refine (?_ : AJ G K (q_Q G K ex n 0 0 _ _) 0 0 ex n 0 _ _ σ)
  rw [← hQ]
  have hu20 := hw.2.2.2.2.1
  refine A_iconst (v := (nI (0))) hg dX11_barOf_0 (by decide) ?_
  refine A_istore hg dX11_barOf_1 (by decide) (q_c1d rfl) ?_
  refine A_eq (ls2 := [some (.ref (q_h G + 279)), some (.int (nI (r))), some (.int (nI (k))), some (.int (nI (l))), some (.int (nI (0)))]) (st2 := []) (pc2 := 0) rfl rfl ?_
  have hL3 : ∀ (fu : Nat) (i : Nat), (i ≤ s_rule g r 20) → (∀ j : Nat, j < i → s_barp (s_rule g r) k l j = false) → (s_rule g r 20 - i) < fu → AJ G K Q 0 0 ex n 3 [some (.ref (q_h G + 279)), some (.int (nI (r))), some (.int (nI (k))), some (.int (nI (l))), some (.int (nI (i)))] [] σ := by
    intro fu
    induction fu with
    | zero => intro i hi hno hm; exact absurd hm (Nat.not_lt_zero _)
    | succ fu ih3 =>
      intro i hi hno hm3
      refine A_iload hg dX11_barOf_3 rfl ?_
      refine A_aload_n hg dX11_barOf_5 rfl rfl ?_
      refine A_iload_n hg dX11_barOf_6 rfl rfl ?_
      refine A_bipush (v := (nI (20))) hg dX11_barOf_7 (by decide) ?_
      refine A_eV (kc2 := 0) (ks2 := 0) (As := [.int (nI (r)), .int (nI (20))]) (rest := [.int (nI (i))]) hg lk_RX11_85 in_X11_of se_X11_of rfl dX11_barOf_9 ⟨by decide, by decide⟩ rfl rfl ⟨by decide, by decide⟩ hc0 (by omega) rfl rfl (Nat.le_of_ble_eq_true rfl) (c_X11_of G ex n σ F g r 20 hc0 hc1 (by omega) (by omega)) ?_
      refine A_icmp_geN (tgt := 58) hg dX11_barOf_12 (by omega) (by omega) (by decide) (fun c12 => ?_) (fun c12 => ?_)
      · skip
        refine A_iconst (v := (q_d (0))) hg dX11_barOf_58 (by decide) ?_
        have hp : s_bar (s_rule g r) k l = s_rule g r 20 := s_first_none (fun j hj => hno j (by omega))
        rw [hQ]
        exact A_ireturn hg (by decide) (by decide) rfl dX11_barOf_59 ⟨rfl, ⟨rfl, (by rw [if_neg (by unfold s_barred; rw [hp]; simp)])⟩⟩
      · skip
        have hb1 := hw.2.2.2.2.2.2 (2 * i) (by omega)
        have hb2 := hw.2.2.2.2.2.2 (2 * i + 1) (by omega)
        have hb3 : s_rule g r (21 + 2 * i + 1) ≤ 40 := hb2
        refine A_aload_n hg dX11_barOf_15 rfl rfl ?_
        refine A_iload_n hg dX11_barOf_16 rfl rfl ?_
        refine A_bipush (v := (nI (21))) hg dX11_barOf_17 (by decide) ?_
        refine A_iconst (v := (nI (2))) hg dX11_barOf_19 (by decide) ?_
        refine A_iload hg dX11_barOf_20 rfl ?_
        refine A_imulN hg dX11_barOf_22 ?_
        refine A_iaddN hg dX11_barOf_23 ?_
        refine A_eV (kc2 := 0) (ks2 := 0) (As := [.int (nI (r)), .int (nI (21 + (2 * i)))]) (rest := []) hg lk_RX11_85 in_X11_of se_X11_of rfl dX11_barOf_24 ⟨by decide, by decide⟩ rfl rfl ⟨by decide, by decide⟩ hc0 (by omega) rfl rfl (Nat.le_of_ble_eq_true rfl) (c_X11_of G ex n σ F g r (21 + (2 * i)) hc0 hc1 (by omega) (by omega)) ?_
        refine A_iload_n hg dX11_barOf_27 rfl rfl ?_
        refine A_icmp_neN (tgt := 52) hg dX11_barOf_28 (by omega) (by omega) (by decide) (fun c28 => ?_) (fun c28 => ?_)
        · skip
          refine A_iincN (k' := 1) hg dX11_barOf_52 (by decide) rfl (by decide) (q_c1d rfl) ?_
          refine A_eq (ls2 := [some (.ref (q_h G + 279)), some (.int (nI (r))), some (.int (nI (k))), some (.int (nI (l))), some (.int (nI (i + 1)))]) (st2 := []) (pc2 := 0) rfl rfl ?_
          refine A_goto (tgt := 3) hg dX11_barOf_55 (by decide) ?_
          exact ih3 (i + 1) (by omega) (lt_s hno (by simp only [s_barp, Bool.and_eq_false_iff, beq_eq_false_iff_ne]; first | exact Or.inr c46 | exact Or.inl c28)) (by omega)
        · skip
          refine A_aload_n hg dX11_barOf_31 rfl rfl ?_
          refine A_iload_n hg dX11_barOf_32 rfl rfl ?_
          refine A_bipush (v := (nI (21))) hg dX11_barOf_33 (by decide) ?_
          refine A_iconst (v := (nI (2))) hg dX11_barOf_35 (by decide) ?_
          refine A_iload hg dX11_barOf_36 rfl ?_
          refine A_imulN hg dX11_barOf_38 ?_
          refine A_iaddN hg dX11_barOf_39 ?_
          refine A_iconst (v := (nI (1))) hg dX11_barOf_40 (by decide) ?_
          refine A_iaddN hg dX11_barOf_41 ?_
          refine A_eV (kc2 := 0) (ks2 := 0) (As := [.int (nI (r)), .int (nI ((21 + (2 * i)) + 1))]) (rest := []) hg lk_RX11_85 in_X11_of se_X11_of rfl dX11_barOf_42 ⟨by decide, by decide⟩ rfl rfl ⟨by decide, by decide⟩ hc0 (by omega) rfl rfl (Nat.le_of_ble_eq_true rfl) (c_X11_of G ex n σ F g r ((21 + (2 * i)) + 1) hc0 hc1 (by omega) (by omega)) ?_
          refine A_iload_n hg dX11_barOf_45 rfl rfl ?_
          refine A_icmp_neN (tgt := 52) hg dX11_barOf_46 (by omega) (by omega) (by decide) (fun c46 => ?_) (fun c46 => ?_)
          · skip
            refine A_iincN (k' := 1) hg dX11_barOf_52 (by decide) rfl (by decide) (q_c1d rfl) ?_
            refine A_eq (ls2 := [some (.ref (q_h G + 279)), some (.int (nI (r))), some (.int (nI (k))), some (.int (nI (l))), some (.int (nI (i + 1)))]) (st2 := []) (pc2 := 0) rfl rfl ?_
            refine A_goto (tgt := 3) hg dX11_barOf_55 (by decide) ?_
            exact ih3 (i + 1) (by omega) (lt_s hno (by simp only [s_barp, Bool.and_eq_false_iff, beq_eq_false_iff_ne]; first | exact Or.inr c46 | exact Or.inl c28)) (by omega)
          · skip
            refine A_iload hg dX11_barOf_49 rfl ?_
            have hp : s_bar (s_rule g r) k l = i := s_first_eq (by omega) (by simp only [s_barp, Bool.and_eq_true, beq_iff_eq]; exact ⟨c28, c46⟩) hno
            rw [hQ]
            exact A_ireturn hg (by decide) (by decide) rfl dX11_barOf_51 ⟨rfl, ⟨rfl, (by rw [if_pos (show s_barred (s_rule g r) k l = true from decide_eq_true (by rw [hp]; omega)), hp, q_dS])⟩⟩
  exact hL3 _ 0 (Nat.zero_le _) (fun j h => absurd h (Nat.not_lt_zero j)) (Nat.lt_succ_self _)
set_option maxRecDepth 100000 in
set_option maxHeartbeats 4000000 in
theorem c_X11_forbids (G : GL) (ex : Bool) (n : Nat) (σ : Nat → va_E) (F : Nat → Int32) (g : Nat → Nat) (r : Nat) (k : Nat) (l : Nat) (hc0 : σ 279 = o11 G F) (hc1 : σ 280 = q_an G 265 g) (hn : 294 ≤ n) (hr : r < 4) (hw : s_rwf (s_rule g r)) (hk : k ≤ 100) (hl : l ≤ 100) : Ct G yX11_forbids cX11_forbids 5 (some .int) ⟨2, 0, 0, 46⟩ [.ref (q_h G + 279), .int (nI (r)), .int (nI (k)), .int (nI (l))] ex n σ (fun v9 σ2 => σ2 = σ ∧ v9 = some (.int (nI (s_forb (s_rule g r) k l)))) := by
  refine q_enter [some (.ref (q_h G + 279)), some (.int (nI (r))), some (.int (nI (k))), some (.int (nI (l))), none] (by decide) (Nat.le_of_ble_eq_true rfl) rfl ?_
  intro K hg
  obtain ⟨Q, hQ⟩ : ∃ Q, Q = q_Q G K ex n 0 0 (fun v9 n' σ' => n' = n ∧ (fun v9 σ2 => σ2 = σ ∧ v9 = some (.int (nI (s_forb (s_rule g r) k l)))) v9 σ') q_noX := ⟨_, rfl⟩
  refine (?_ : AJ G K (q_Q G K ex n 0 0 _ _) 0 0 ex n 0 _ _ σ)
  rw [← hQ]
  have hu19 := hw.2.2.2.1
  have hu9 := hw.2.1
  have hu18 := hw.2.2.1
  have hu20 := hw.2.2.2.2.1
  have hbl := s_first_le (s_barp (s_rule g r) k l) (s_rule g r 20)
  have hds : s_dist k l ≤ 200 := by unfold s_dist; omega
  refine A_iload_n hg dX11_forbids_0 rfl rfl ?_
  refine A_iload_n hg dX11_forbids_1 rfl rfl ?_
  refine A_max hg ml_RX11_89 dX11_forbids_2 ⟨by decide, by decide, by decide, by decide⟩ (Nat.le_of_ble_eq_true rfl) ?_
  refine A_top (w := .int (nI (max k l))) (q_max (a := k) (b := l) (by omega) (by omega)) ?_
  refine A_aload_n hg dX11_forbids_5 rfl rfl ?_
  refine A_iload_n hg dX11_forbids_6 rfl rfl ?_
  refine A_bipush (v := (nI (19))) hg dX11_forbids_7 (by decide) ?_
  refine A_eV (kc2 := 0) (ks2 := 0) (As := [.int (nI (r)), .int (nI (19))]) (rest := [.int (nI (max k l))]) hg lk_RX11_85 in_X11_of se_X11_of rfl dX11_forbids_9 ⟨by decide, by decide⟩ rfl rfl ⟨by decide, by decide⟩ hc0 (by omega) rfl rfl (Nat.le_of_ble_eq_true rfl) (c_X11_of G ex n σ F g r 19 hc0 hc1 (by omega) (by omega)) ?_
  refine A_icmp_leN (tgt := 17) hg dX11_forbids_12 (by omega) (by omega) (by decide) (fun c12 => ?_) (fun c12 => ?_)
  · skip
    refine A_iload_n hg dX11_forbids_17 rfl rfl ?_
    refine A_if_leN (tgt := 29) hg dX11_forbids_18 (by omega) (by decide) (fun c18 => ?_) (fun c18 => ?_)
    · skip
      refine A_iconst (v := (nI (0))) hg dX11_forbids_29 (by decide) ?_
      refine A_istore hg dX11_forbids_30 (by decide) (q_c1d rfl) ?_
      refine A_eq (ls2 := [some (.ref (q_h G + 279)), some (.int (nI (r))), some (.int (nI (k))), some (.int (nI (l))), some (.int (nI (0)))]) (st2 := []) (pc2 := 0) rfl rfl ?_
      refine A_iload hg dX11_forbids_32 rfl ?_
      refine A_if_neN (tgt := 60) hg dX11_forbids_34 (by decide) (by decide) (fun c34 => absurd (by decide) c34) (fun c34 => ?_)
      refine A_aload_n hg dX11_forbids_37 rfl rfl ?_
      refine A_iload_n hg dX11_forbids_38 rfl rfl ?_
      refine A_bipush (v := (nI (9))) hg dX11_forbids_39 (by decide) ?_
      refine A_eV (kc2 := 0) (ks2 := 0) (As := [.int (nI (r)), .int (nI (9))]) (rest := []) hg lk_RX11_85 in_X11_of se_X11_of rfl dX11_forbids_41 ⟨by decide, by decide⟩ rfl rfl ⟨by decide, by decide⟩ hc0 (by omega) rfl rfl (Nat.le_of_ble_eq_true rfl) (c_X11_of G ex n σ F g r 9 hc0 hc1 (by omega) (by omega)) ?_
      refine A_if_leN (tgt := 60) hg dX11_forbids_44 (by omega) (by decide) (fun c44 => ?_) (fun c44 => ?_)
      · skip
        refine A_iload hg dX11_forbids_60 rfl ?_
        refine A_if_eqN (tgt := 84) hg dX11_forbids_62 (by decide) (by decide) (fun c62 => ?_) (fun c62 => absurd (by decide) c62)
        have h84 : s_forb (s_rule g r) k l = if s_barred (s_rule g r) k l = true then 7 else 0 := by
          unfold s_forb
          rw [if_neg (by omega), if_neg (by rintro ⟨h1, h2, h3⟩; first | omega | (rw [c55] at h3; cases h3)), if_neg (by rintro ⟨h1, h2⟩; omega)]
        refine A_aload_n hg dX11_forbids_84 rfl rfl ?_
        refine A_iload_n hg dX11_forbids_85 rfl rfl ?_
        refine A_iload_n hg dX11_forbids_86 rfl rfl ?_
        refine A_iload_n hg dX11_forbids_87 rfl rfl ?_
        refine A_eV (kc2 := 0) (ks2 := 0) (As := [.int (nI (r)), .int (nI (k)), .int (nI (l))]) (rest := []) hg lk_RX11_102 in_X11_barOf se_X11_barOf rfl dX11_forbids_88 ⟨by decide, by decide⟩ rfl rfl ⟨by decide, by decide⟩ hc0 (by omega) rfl rfl (Nat.le_of_ble_eq_true rfl) (c_X11_barOf G ex n σ F g r k l hc0 hc1 (by omega) (by omega) (by omega) (by omega) (by omega)) ?_
        refine A_iconst (v := (q_d (0))) hg dX11_forbids_91 (by decide) ?_
        refine A_icmp_neM (tgt := 99) hg dX11_forbids_92 (by split <;> first | omega | (unfold s_bar; omega)) (by decide) (by decide) (fun c92 => ?_) (fun c92 => ?_)
        · skip
          refine A_bipush (v := (nI (7))) hg dX11_forbids_99 (by decide) ?_
          rw [hQ]
          exact A_ireturn hg (by decide) (by decide) rfl dX11_forbids_101 ⟨rfl, ⟨rfl, (by rw [h84]; split at c92 <;> simp_all)⟩⟩
        · skip
          refine A_iconst (v := (nI (0))) hg dX11_forbids_95 (by decide) ?_
          refine A_goto (tgt := 101) hg dX11_forbids_96 (by decide) ?_
          rw [hQ]
          exact A_ireturn hg (by decide) (by decide) rfl dX11_forbids_101 ⟨rfl, ⟨rfl, (by rw [h84]; split at c92 <;> simp_all)⟩⟩
      · skip
        refine A_aload_n hg dX11_forbids_47 rfl rfl ?_
        refine A_iload_n hg dX11_forbids_48 rfl rfl ?_
        refine A_iload_n hg dX11_forbids_49 rfl rfl ?_
        refine A_iload_n hg dX11_forbids_50 rfl rfl ?_
        refine A_iaddN hg dX11_forbids_51 ?_
        refine A_eV (kc2 := 0) (ks2 := 0) (As := [.int (nI (r)), .int (nI (k + l))]) (rest := []) hg lk_RX11_94 in_X11_isInOnly se_X11_isInOnly rfl dX11_forbids_52 ⟨by decide, by decide⟩ rfl rfl ⟨by decide, by decide⟩ hc0 (by omega) rfl rfl (Nat.le_of_ble_eq_true rfl) (c_X11_isInOnly G ex n σ F g r (k + l) hc0 hc1 (by omega) (by omega) (by omega) (by omega)) ?_
        refine A_if_neB (tgt := 60) hg dX11_forbids_55 (by decide) (fun c55 => ?_) (fun c55 => ?_)
        · skip
          refine A_iload hg dX11_forbids_60 rfl ?_
          refine A_if_eqN (tgt := 84) hg dX11_forbids_62 (by decide) (by decide) (fun c62 => ?_) (fun c62 => absurd (by decide) c62)
          have h84 : s_forb (s_rule g r) k l = if s_barred (s_rule g r) k l = true then 7 else 0 := by
            unfold s_forb
            rw [if_neg (by omega), if_neg (by rintro ⟨h1, h2, h3⟩; first | omega | (rw [c55] at h3; cases h3)), if_neg (by rintro ⟨h1, h2⟩; omega)]
          refine A_aload_n hg dX11_forbids_84 rfl rfl ?_
          refine A_iload_n hg dX11_forbids_85 rfl rfl ?_
          refine A_iload_n hg dX11_forbids_86 rfl rfl ?_
          refine A_iload_n hg dX11_forbids_87 rfl rfl ?_
          refine A_eV (kc2 := 0) (ks2 := 0) (As := [.int (nI (r)), .int (nI (k)), .int (nI (l))]) (rest := []) hg lk_RX11_102 in_X11_barOf se_X11_barOf rfl dX11_forbids_88 ⟨by decide, by decide⟩ rfl rfl ⟨by decide, by decide⟩ hc0 (by omega) rfl rfl (Nat.le_of_ble_eq_true rfl) (c_X11_barOf G ex n σ F g r k l hc0 hc1 (by omega) (by omega) (by omega) (by omega) (by omega)) ?_
          refine A_iconst (v := (q_d (0))) hg dX11_forbids_91 (by decide) ?_
          refine A_icmp_neM (tgt := 99) hg dX11_forbids_92 (by split <;> first | omega | (unfold s_bar; omega)) (by decide) (by decide) (fun c92 => ?_) (fun c92 => ?_)
          · skip
            refine A_bipush (v := (nI (7))) hg dX11_forbids_99 (by decide) ?_
            rw [hQ]
            exact A_ireturn hg (by decide) (by decide) rfl dX11_forbids_101 ⟨rfl, ⟨rfl, (by rw [h84]; split at c92 <;> simp_all)⟩⟩
          · skip
            refine A_iconst (v := (nI (0))) hg dX11_forbids_95 (by decide) ?_
            refine A_goto (tgt := 101) hg dX11_forbids_96 (by decide) ?_
            rw [hQ]
            exact A_ireturn hg (by decide) (by decide) rfl dX11_forbids_101 ⟨rfl, ⟨rfl, (by rw [h84]; split at c92 <;> simp_all)⟩⟩
        · skip
          refine A_iconst (v := (nI (5))) hg dX11_forbids_58 (by decide) ?_
          rw [hQ]
          exact A_ireturn hg (by decide) (by decide) rfl dX11_forbids_59 ⟨rfl, ⟨rfl, (by unfold s_forb; rw [if_neg (by omega), if_pos ⟨by omega, by omega, c55⟩])⟩⟩
    · skip
      refine A_iload_n hg dX11_forbids_21 rfl rfl ?_
      refine A_if_leN (tgt := 29) hg dX11_forbids_22 (by omega) (by decide) (fun c22 => ?_) (fun c22 => ?_)
      · skip
        refine A_iconst (v := (nI (0))) hg dX11_forbids_29 (by decide) ?_
        refine A_istore hg dX11_forbids_30 (by decide) (q_c1d rfl) ?_
        refine A_eq (ls2 := [some (.ref (q_h G + 279)), some (.int (nI (r))), some (.int (nI (k))), some (.int (nI (l))), some (.int (nI (0)))]) (st2 := []) (pc2 := 0) rfl rfl ?_
        refine A_iload hg dX11_forbids_32 rfl ?_
        refine A_if_neN (tgt := 60) hg dX11_forbids_34 (by decide) (by decide) (fun c34 => absurd (by decide) c34) (fun c34 => ?_)
        refine A_aload_n hg dX11_forbids_37 rfl rfl ?_
        refine A_iload_n hg dX11_forbids_38 rfl rfl ?_
        refine A_bipush (v := (nI (9))) hg dX11_forbids_39 (by decide) ?_
        refine A_eV (kc2 := 0) (ks2 := 0) (As := [.int (nI (r)), .int (nI (9))]) (rest := []) hg lk_RX11_85 in_X11_of se_X11_of rfl dX11_forbids_41 ⟨by decide, by decide⟩ rfl rfl ⟨by decide, by decide⟩ hc0 (by omega) rfl rfl (Nat.le_of_ble_eq_true rfl) (c_X11_of G ex n σ F g r 9 hc0 hc1 (by omega) (by omega)) ?_
        refine A_if_leN (tgt := 60) hg dX11_forbids_44 (by omega) (by decide) (fun c44 => ?_) (fun c44 => ?_)
        · skip
          refine A_iload hg dX11_forbids_60 rfl ?_
          refine A_if_eqN (tgt := 84) hg dX11_forbids_62 (by decide) (by decide) (fun c62 => ?_) (fun c62 => absurd (by decide) c62)
          have h84 : s_forb (s_rule g r) k l = if s_barred (s_rule g r) k l = true then 7 else 0 := by
            unfold s_forb
            rw [if_neg (by omega), if_neg (by rintro ⟨h1, h2, h3⟩; first | omega | (rw [c55] at h3; cases h3)), if_neg (by rintro ⟨h1, h2⟩; omega)]
          refine A_aload_n hg dX11_forbids_84 rfl rfl ?_
          refine A_iload_n hg dX11_forbids_85 rfl rfl ?_
          refine A_iload_n hg dX11_forbids_86 rfl rfl ?_
          refine A_iload_n hg dX11_forbids_87 rfl rfl ?_
          refine A_eV (kc2 := 0) (ks2 := 0) (As := [.int (nI (r)), .int (nI (k)), .int (nI (l))]) (rest := []) hg lk_RX11_102 in_X11_barOf se_X11_barOf rfl dX11_forbids_88 ⟨by decide, by decide⟩ rfl rfl ⟨by decide, by decide⟩ hc0 (by omega) rfl rfl (Nat.le_of_ble_eq_true rfl) (c_X11_barOf G ex n σ F g r k l hc0 hc1 (by omega) (by omega) (by omega) (by omega) (by omega)) ?_
          refine A_iconst (v := (q_d (0))) hg dX11_forbids_91 (by decide) ?_
          refine A_icmp_neM (tgt := 99) hg dX11_forbids_92 (by split <;> first | omega | (unfold s_bar; omega)) (by decide) (by decide) (fun c92 => ?_) (fun c92 => ?_)
          · skip
            refine A_bipush (v := (nI (7))) hg dX11_forbids_99 (by decide) ?_
            rw [hQ]
            exact A_ireturn hg (by decide) (by decide) rfl dX11_forbids_101 ⟨rfl, ⟨rfl, (by rw [h84]; split at c92 <;> simp_all)⟩⟩
          · skip
            refine A_iconst (v := (nI (0))) hg dX11_forbids_95 (by decide) ?_
            refine A_goto (tgt := 101) hg dX11_forbids_96 (by decide) ?_
            rw [hQ]
            exact A_ireturn hg (by decide) (by decide) rfl dX11_forbids_101 ⟨rfl, ⟨rfl, (by rw [h84]; split at c92 <;> simp_all)⟩⟩
        · skip
          refine A_aload_n hg dX11_forbids_47 rfl rfl ?_
          refine A_iload_n hg dX11_forbids_48 rfl rfl ?_
          refine A_iload_n hg dX11_forbids_49 rfl rfl ?_
          refine A_iload_n hg dX11_forbids_50 rfl rfl ?_
          refine A_iaddN hg dX11_forbids_51 ?_
          refine A_eV (kc2 := 0) (ks2 := 0) (As := [.int (nI (r)), .int (nI (k + l))]) (rest := []) hg lk_RX11_94 in_X11_isInOnly se_X11_isInOnly rfl dX11_forbids_52 ⟨by decide, by decide⟩ rfl rfl ⟨by decide, by decide⟩ hc0 (by omega) rfl rfl (Nat.le_of_ble_eq_true rfl) (c_X11_isInOnly G ex n σ F g r (k + l) hc0 hc1 (by omega) (by omega) (by omega) (by omega)) ?_
          refine A_if_neB (tgt := 60) hg dX11_forbids_55 (by decide) (fun c55 => ?_) (fun c55 => ?_)
          · skip
            refine A_iload hg dX11_forbids_60 rfl ?_
            refine A_if_eqN (tgt := 84) hg dX11_forbids_62 (by decide) (by decide) (fun c62 => ?_) (fun c62 => absurd (by decide) c62)
            have h84 : s_forb (s_rule g r) k l = if s_barred (s_rule g r) k l = true then 7 else 0 := by
              unfold s_forb
              rw [if_neg (by omega), if_neg (by rintro ⟨h1, h2, h3⟩; first | omega | (rw [c55] at h3; cases h3)), if_neg (by rintro ⟨h1, h2⟩; omega)]
            refine A_aload_n hg dX11_forbids_84 rfl rfl ?_
            refine A_iload_n hg dX11_forbids_85 rfl rfl ?_
            refine A_iload_n hg dX11_forbids_86 rfl rfl ?_
            refine A_iload_n hg dX11_forbids_87 rfl rfl ?_
            refine A_eV (kc2 := 0) (ks2 := 0) (As := [.int (nI (r)), .int (nI (k)), .int (nI (l))]) (rest := []) hg lk_RX11_102 in_X11_barOf se_X11_barOf rfl dX11_forbids_88 ⟨by decide, by decide⟩ rfl rfl ⟨by decide, by decide⟩ hc0 (by omega) rfl rfl (Nat.le_of_ble_eq_true rfl) (c_X11_barOf G ex n σ F g r k l hc0 hc1 (by omega) (by omega) (by omega) (by omega) (by omega)) ?_
            refine A_iconst (v := (q_d (0))) hg dX11_forbids_91 (by decide) ?_
            refine A_icmp_neM (tgt := 99) hg dX11_forbids_92 (by split <;> first | omega | (unfold s_bar; omega)) (by decide) (by decide) (fun c92 => ?_) (fun c92 => ?_)
            · skip
              refine A_bipush (v := (nI (7))) hg dX11_forbids_99 (by decide) ?_
              rw [hQ]
              exact A_ireturn hg (by decide) (by decide) rfl dX11_forbids_101 ⟨rfl, ⟨rfl, (by rw [h84]; split at c92 <;> simp_all)⟩⟩
            · skip
              refine A_iconst (v := (nI (0))) hg dX11_forbids_95 (by decide) ?_
              refine A_goto (tgt := 101) hg dX11_forbids_96 (by decide) ?_
              rw [hQ]
              exact A_ireturn hg (by decide) (by decide) rfl dX11_forbids_101 ⟨rfl, ⟨rfl, (by rw [h84]; split at c92 <;> simp_all)⟩⟩
          · skip
            refine A_iconst (v := (nI (5))) hg dX11_forbids_58 (by decide) ?_
            rw [hQ]
            exact A_ireturn hg (by decide) (by decide) rfl dX11_forbids_59 ⟨rfl, ⟨rfl, (by unfold s_forb; rw [if_neg (by omega), if_pos ⟨by omega, by omega, c55⟩])⟩⟩
      · skip
        refine A_iconst (v := (nI (1))) hg dX11_forbids_25 (by decide) ?_
        refine A_goto (tgt := 30) hg dX11_forbids_26 (by decide) ?_
        refine A_istore hg dX11_forbids_30 (by decide) (q_c1d rfl) ?_
        refine A_eq (ls2 := [some (.ref (q_h G + 279)), some (.int (nI (r))), some (.int (nI (k))), some (.int (nI (l))), some (.int (nI (1)))]) (st2 := []) (pc2 := 0) rfl rfl ?_
        refine A_iload hg dX11_forbids_32 rfl ?_
        refine A_if_neN (tgt := 60) hg dX11_forbids_34 (by decide) (by decide) (fun c34 => ?_) (fun c34 => absurd c34 (by decide))
        refine A_iload hg dX11_forbids_60 rfl ?_
        refine A_if_eqN (tgt := 84) hg dX11_forbids_62 (by decide) (by decide) (fun c62 => absurd c62 (by decide)) (fun c62 => ?_)
        refine A_iload_n hg dX11_forbids_65 rfl rfl ?_
        refine A_iload_n hg dX11_forbids_66 rfl rfl ?_
        refine A_isub hg dX11_forbids_67 ?_
        refine A_abs hg ml_RX11_98 dX11_forbids_68 ⟨by decide, by decide, by decide, by decide⟩ (Nat.le_of_ble_eq_true rfl) ?_
        refine A_top (w := .int (nI (s_dist k l))) (q_abs (k := k) (l := l) (by omega) (by omega)) ?_
        refine A_aload_n hg dX11_forbids_71 rfl rfl ?_
        refine A_iload_n hg dX11_forbids_72 rfl rfl ?_
        refine A_bipush (v := (nI (18))) hg dX11_forbids_73 (by decide) ?_
        refine A_eV (kc2 := 0) (ks2 := 0) (As := [.int (nI (r)), .int (nI (18))]) (rest := [.int (nI (s_dist k l))]) hg lk_RX11_85 in_X11_of se_X11_of rfl dX11_forbids_75 ⟨by decide, by decide⟩ rfl rfl ⟨by decide, by decide⟩ hc0 (by omega) rfl rfl (Nat.le_of_ble_eq_true rfl) (c_X11_of G ex n σ F g r 18 hc0 hc1 (by omega) (by omega)) ?_
        refine A_icmp_ltN (tgt := 84) hg dX11_forbids_78 (by omega) (by omega) (by decide) (fun c78 => ?_) (fun c78 => ?_)
        · skip
          have h84 : s_forb (s_rule g r) k l = if s_barred (s_rule g r) k l = true then 7 else 0 := by
            unfold s_forb
            rw [if_neg (by omega), if_neg (by rintro ⟨h1, h2, h3⟩; first | omega | (rw [c55] at h3; cases h3)), if_neg (by rintro ⟨h1, h2⟩; omega)]
          refine A_aload_n hg dX11_forbids_84 rfl rfl ?_
          refine A_iload_n hg dX11_forbids_85 rfl rfl ?_
          refine A_iload_n hg dX11_forbids_86 rfl rfl ?_
          refine A_iload_n hg dX11_forbids_87 rfl rfl ?_
          refine A_eV (kc2 := 0) (ks2 := 0) (As := [.int (nI (r)), .int (nI (k)), .int (nI (l))]) (rest := []) hg lk_RX11_102 in_X11_barOf se_X11_barOf rfl dX11_forbids_88 ⟨by decide, by decide⟩ rfl rfl ⟨by decide, by decide⟩ hc0 (by omega) rfl rfl (Nat.le_of_ble_eq_true rfl) (c_X11_barOf G ex n σ F g r k l hc0 hc1 (by omega) (by omega) (by omega) (by omega) (by omega)) ?_
          refine A_iconst (v := (q_d (0))) hg dX11_forbids_91 (by decide) ?_
          refine A_icmp_neM (tgt := 99) hg dX11_forbids_92 (by split <;> first | omega | (unfold s_bar; omega)) (by decide) (by decide) (fun c92 => ?_) (fun c92 => ?_)
          · skip
            refine A_bipush (v := (nI (7))) hg dX11_forbids_99 (by decide) ?_
            rw [hQ]
            exact A_ireturn hg (by decide) (by decide) rfl dX11_forbids_101 ⟨rfl, ⟨rfl, (by rw [h84]; split at c92 <;> simp_all)⟩⟩
          · skip
            refine A_iconst (v := (nI (0))) hg dX11_forbids_95 (by decide) ?_
            refine A_goto (tgt := 101) hg dX11_forbids_96 (by decide) ?_
            rw [hQ]
            exact A_ireturn hg (by decide) (by decide) rfl dX11_forbids_101 ⟨rfl, ⟨rfl, (by rw [h84]; split at c92 <;> simp_all)⟩⟩
        · skip
          refine A_bipush (v := (nI (6))) hg dX11_forbids_81 (by decide) ?_
          rw [hQ]
          exact A_ireturn hg (by decide) (by decide) rfl dX11_forbids_83 ⟨rfl, ⟨rfl, (by unfold s_forb; rw [if_neg (by omega), if_neg (by rintro ⟨h1, h2, h3⟩; omega), if_pos ⟨by omega, by omega⟩])⟩⟩
  · skip
    refine A_iconst (v := (nI (4))) hg dX11_forbids_15 (by decide) ?_
    rw [hQ]
    exact A_ireturn hg (by decide) (by decide) rfl dX11_forbids_16 ⟨rfl, ⟨rfl, (by unfold s_forb; rw [if_pos (by omega)])⟩⟩
set_option maxRecDepth 100000 in
set_option maxHeartbeats 4000000 in
theorem c_X11_allowsMove (G : GL) (ex : Bool) (n : Nat) (σ : Nat → va_E) (F : Nat → Int32) (g : Nat → Nat) (r : Nat) (k : Nat) (l : Nat) (hc0 : σ 279 = o11 G F) (hc1 : σ 280 = q_an G 265 g) (hn : 294 ≤ n) (hr : r < 4) (hw : s_rwf (s_rule g r)) (hk : k ≤ 40) (hl : l ≤ 40) : Ct G yX11_allowsMove cX11_allowsMove 4 (some .boolean) ⟨3, 0, 0, 70⟩ [.ref (q_h G + 279), .int (nI (r)), .int (nI (k)), .int (nI (l))] ex n σ (fun v9 σ2 => σ2 = σ ∧ v9 = some (.int (q_b (s_al (s_rule g r) k l)))) := by
  refine q_enter [some (.ref (q_h G + 279)), some (.int (nI (r))), some (.int (nI (k))), some (.int (nI (l)))] (by decide) (Nat.le_of_ble_eq_true rfl) rfl ?_
  intro K hg
  obtain ⟨Q, hQ⟩ : ∃ Q, Q = q_Q G K ex n 0 0 (fun v9 n' σ' => n' = n ∧ (fun v9 σ2 => σ2 = σ ∧ v9 = some (.int (q_b (s_al (s_rule g r) k l)))) v9 σ') q_noX := ⟨_, rfl⟩
  refine (?_ : AJ G K (q_Q G K ex n 0 0 _ _) 0 0 ex n 0 _ _ σ)
  rw [← hQ]
  refine A_iload_n hg dX11_allowsMove_0 rfl rfl ?_
  refine A_iload_n hg dX11_allowsMove_1 rfl rfl ?_
  refine A_iaddN hg dX11_allowsMove_2 ?_
  refine A_if_leN (tgt := 20) hg dX11_allowsMove_3 (by omega) (by decide) (fun c3 => ?_) (fun c3 => ?_)
  · skip
    refine A_iconst (v := (nI (0))) hg dX11_allowsMove_20 (by decide) ?_
    rw [hQ]
    exact A_zreturn hg (by decide) (by decide) rfl rfl dX11_allowsMove_21 ⟨rfl, ⟨rfl, (q_rf (decide_eq_false (by rintro ⟨h1, h2⟩; first | omega | exact c13 h2)))⟩⟩
  · skip
    refine A_aload_n hg dX11_allowsMove_6 rfl rfl ?_
    refine A_iload_n hg dX11_allowsMove_7 rfl rfl ?_
    refine A_iload_n hg dX11_allowsMove_8 rfl rfl ?_
    refine A_iload_n hg dX11_allowsMove_9 rfl rfl ?_
    refine A_eV (kc2 := 0) (ks2 := 0) (As := [.int (nI (r)), .int (nI (k)), .int (nI (l))]) (rest := []) hg lk_RX11_106 in_X11_forbids se_X11_forbids rfl dX11_allowsMove_10 ⟨by decide, by decide⟩ rfl rfl ⟨by decide, by decide⟩ hc0 (by omega) rfl rfl (Nat.le_of_ble_eq_true rfl) (c_X11_forbids G ex n σ F g r k l hc0 hc1 (by omega) (by omega) (by omega) (by omega) (by omega)) ?_
    have hf7 : s_forb (s_rule g r) k l < 2 ^ 31 := by unfold s_forb; (repeat' split) <;> omega
    refine A_if_neN (tgt := 20) hg dX11_allowsMove_13 (by omega) (by decide) (fun c13 => ?_) (fun c13 => ?_)
    · skip
      refine A_iconst (v := (nI (0))) hg dX11_allowsMove_20 (by decide) ?_
      rw [hQ]
      exact A_zreturn hg (by decide) (by decide) rfl rfl dX11_allowsMove_21 ⟨rfl, ⟨rfl, (q_rf (decide_eq_false (by rintro ⟨h1, h2⟩; first | omega | exact c13 h2)))⟩⟩
    · skip
      refine A_iconst (v := (nI (1))) hg dX11_allowsMove_16 (by decide) ?_
      refine A_goto (tgt := 21) hg dX11_allowsMove_17 (by decide) ?_
      rw [hQ]
      exact A_zreturn hg (by decide) (by decide) rfl rfl dX11_allowsMove_21 ⟨rfl, ⟨rfl, (q_rt (decide_eq_true ⟨by omega, c13⟩))⟩⟩
set_option maxRecDepth 100000 in
set_option maxHeartbeats 4000000 in
theorem c_X11_isFree (G : GL) (ex : Bool) (n : Nat) (σ : Nat → va_E) (F : Nat → Int32) (g : Nat → Nat) (r : Nat) (hc0 : σ 279 = o11 G F) (hc1 : σ 280 = q_an G 265 g) (hn : 294 ≤ n) (hr : r < 4) (hw : s_rwf (s_rule g r)) : Ct G yX11_isFree cX11_isFree 2 (some .boolean) ⟨1, 0, 0, 22⟩ [.ref (q_h G + 279), .int (nI (r))] ex n σ (fun v9 σ2 => σ2 = σ ∧ v9 = some (.int (q_b (s_free (s_rule g r))))) := by
  refine q_enter [some (.ref (q_h G + 279)), some (.int (nI (r)))] (by decide) (Nat.le_of_ble_eq_true rfl) rfl ?_
  intro K hg
  obtain ⟨Q, hQ⟩ : ∃ Q, Q = q_Q G K ex n 0 0 (fun v9 n' σ' => n' = n ∧ (fun v9 σ2 => σ2 = σ ∧ v9 = some (.int (q_b (s_free (s_rule g r))))) v9 σ') q_noX := ⟨_, rfl⟩
  refine (?_ : AJ G K (q_Q G K ex n 0 0 _ _) 0 0 ex n 0 _ _ σ)
  rw [← hQ]
  have hu19 := hw.2.2.2.1
  have hu9 := hw.2.1
  have hu18 := hw.2.2.1
  have hu20 := hw.2.2.2.2.1
  refine A_aload_n hg dX11_isFree_0 rfl rfl ?_
  refine A_iload_n hg dX11_isFree_1 rfl rfl ?_
  refine A_bipush (v := (nI (9))) hg dX11_isFree_2 (by decide) ?_
  refine A_eV (kc2 := 0) (ks2 := 0) (As := [.int (nI (r)), .int (nI (9))]) (rest := []) hg lk_RX11_85 in_X11_of se_X11_of rfl dX11_isFree_4 ⟨by decide, by decide⟩ rfl rfl ⟨by decide, by decide⟩ hc0 (by omega) rfl rfl (Nat.le_of_ble_eq_true rfl) (c_X11_of G ex n σ F g r 9 hc0 hc1 (by omega) (by omega)) ?_
  refine A_if_neN (tgt := 46) hg dX11_isFree_7 (by omega) (by decide) (fun c7 => ?_) (fun c7 => ?_)
  · skip
    refine A_iconst (v := (nI (0))) hg dX11_isFree_46 (by decide) ?_
    rw [hQ]
    exact A_zreturn hg (by decide) (by decide) rfl rfl dX11_isFree_47 ⟨rfl, ⟨rfl, (q_rf (decide_eq_false (by rintro ⟨h1, h2, h3, h4⟩; omega)))⟩⟩
  · skip
    refine A_aload_n hg dX11_isFree_10 rfl rfl ?_
    refine A_iload_n hg dX11_isFree_11 rfl rfl ?_
    refine A_bipush (v := (nI (19))) hg dX11_isFree_12 (by decide) ?_
    refine A_eV (kc2 := 0) (ks2 := 0) (As := [.int (nI (r)), .int (nI (19))]) (rest := []) hg lk_RX11_85 in_X11_of se_X11_of rfl dX11_isFree_14 ⟨by decide, by decide⟩ rfl rfl ⟨by decide, by decide⟩ hc0 (by omega) rfl rfl (Nat.le_of_ble_eq_true rfl) (c_X11_of G ex n σ F g r 19 hc0 hc1 (by omega) (by omega)) ?_
    refine A_bipush (v := (nI (40))) hg dX11_isFree_17 (by decide) ?_
    refine A_icmp_neN (tgt := 46) hg dX11_isFree_19 (by omega) (by decide) (by decide) (fun c19 => ?_) (fun c19 => ?_)
    · skip
      refine A_iconst (v := (nI (0))) hg dX11_isFree_46 (by decide) ?_
      rw [hQ]
      exact A_zreturn hg (by decide) (by decide) rfl rfl dX11_isFree_47 ⟨rfl, ⟨rfl, (q_rf (decide_eq_false (by rintro ⟨h1, h2, h3, h4⟩; omega)))⟩⟩
    · skip
      refine A_aload_n hg dX11_isFree_22 rfl rfl ?_
      refine A_iload_n hg dX11_isFree_23 rfl rfl ?_
      refine A_bipush (v := (nI (18))) hg dX11_isFree_24 (by decide) ?_
      refine A_eV (kc2 := 0) (ks2 := 0) (As := [.int (nI (r)), .int (nI (18))]) (rest := []) hg lk_RX11_85 in_X11_of se_X11_of rfl dX11_isFree_26 ⟨by decide, by decide⟩ rfl rfl ⟨by decide, by decide⟩ hc0 (by omega) rfl rfl (Nat.le_of_ble_eq_true rfl) (c_X11_of G ex n σ F g r 18 hc0 hc1 (by omega) (by omega)) ?_
      refine A_if_leN (tgt := 46) hg dX11_isFree_29 (by omega) (by decide) (fun c29 => ?_) (fun c29 => ?_)
      · skip
        refine A_iconst (v := (nI (0))) hg dX11_isFree_46 (by decide) ?_
        rw [hQ]
        exact A_zreturn hg (by decide) (by decide) rfl rfl dX11_isFree_47 ⟨rfl, ⟨rfl, (q_rf (decide_eq_false (by rintro ⟨h1, h2, h3, h4⟩; omega)))⟩⟩
      · skip
        refine A_aload_n hg dX11_isFree_32 rfl rfl ?_
        refine A_iload_n hg dX11_isFree_33 rfl rfl ?_
        refine A_bipush (v := (nI (20))) hg dX11_isFree_34 (by decide) ?_
        refine A_eV (kc2 := 0) (ks2 := 0) (As := [.int (nI (r)), .int (nI (20))]) (rest := []) hg lk_RX11_85 in_X11_of se_X11_of rfl dX11_isFree_36 ⟨by decide, by decide⟩ rfl rfl ⟨by decide, by decide⟩ hc0 (by omega) rfl rfl (Nat.le_of_ble_eq_true rfl) (c_X11_of G ex n σ F g r 20 hc0 hc1 (by omega) (by omega)) ?_
        refine A_if_neN (tgt := 46) hg dX11_isFree_39 (by omega) (by decide) (fun c39 => ?_) (fun c39 => ?_)
        · skip
          refine A_iconst (v := (nI (0))) hg dX11_isFree_46 (by decide) ?_
          rw [hQ]
          exact A_zreturn hg (by decide) (by decide) rfl rfl dX11_isFree_47 ⟨rfl, ⟨rfl, (q_rf (decide_eq_false (by rintro ⟨h1, h2, h3, h4⟩; omega)))⟩⟩
        · skip
          refine A_iconst (v := (nI (1))) hg dX11_isFree_42 (by decide) ?_
          refine A_goto (tgt := 47) hg dX11_isFree_43 (by decide) ?_
          rw [hQ]
          exact A_zreturn hg (by decide) (by decide) rfl rfl dX11_isFree_47 ⟨rfl, ⟨rfl, (q_rt (decide_eq_true ⟨c7, c19, by omega, c39⟩))⟩⟩
end
