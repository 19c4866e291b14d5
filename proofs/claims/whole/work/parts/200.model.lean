section
set_option maxRecDepth 100000 in
set_option maxHeartbeats 4000000 in
theorem c_X11_inRange (G : GL) (ex : Bool) (n : Nat) (σ : Nat → va_E) (v : Int32) (a : Int32) (b : Int32)   : Ct G yX11_inRange cX11_inRange 3 (some .boolean) ⟨0, 0, 0, 0⟩ [.int (v), .int (a), .int (b)] ex n σ (fun v9 σ2 => σ2 = σ ∧ v9 = some (.int (q_b (q_in v a b)))) := by
  refine q_enter [some (.int (v)), some (.int (a)), some (.int (b))] (by decide) (Nat.le_of_ble_eq_true rfl) rfl ?_
  intro K hg
  obtain ⟨Q, hQ⟩ : ∃ Q, Q = q_Q G K ex n 0 0 (fun v9 n' σ' => n' = n ∧ (fun v9 σ2 => σ2 = σ ∧ v9 = some (.int (q_b (q_in v a b)))) v9 σ') q_noX := ⟨_, rfl⟩
  refine (?_ : AJ G K (q_Q G K ex n 0 0 _ _) 0 0 ex n 0 _ _ σ)
  rw [← hQ]
  refine A_iload_n hg dX11_inRange_0 rfl rfl ?_
  refine A_iload_n hg dX11_inRange_1 rfl rfl ?_
  refine A_icmp_lt (tgt := 14) hg dX11_inRange_2 (by decide) (fun c2 => ?_) (fun c2 => ?_)
  · skip
    refine A_iconst (v := (nI (0))) hg dX11_inRange_14 (by decide) ?_
    rw [hQ]
    exact A_zreturn hg (by decide) (by decide) rfl rfl dX11_inRange_15 ⟨rfl, ⟨rfl, (by first | (rw [q_in_t c2 c7]; rfl) | (rw [q_in_f1 c2]; rfl) | (rw [q_in_f2 c7]; rfl))⟩⟩
  · skip
    refine A_iload_n hg dX11_inRange_5 rfl rfl ?_
    refine A_iload_n hg dX11_inRange_6 rfl rfl ?_
    refine A_icmp_gt (tgt := 14) hg dX11_inRange_7 (by decide) (fun c7 => ?_) (fun c7 => ?_)
    · skip
      refine A_iconst (v := (nI (0))) hg dX11_inRange_14 (by decide) ?_
      rw [hQ]
      exact A_zreturn hg (by decide) (by decide) rfl rfl dX11_inRange_15 ⟨rfl, ⟨rfl, (by first | (rw [q_in_t c2 c7]; rfl) | (rw [q_in_f1 c2]; rfl) | (rw [q_in_f2 c7]; rfl))⟩⟩
    · skip
      refine A_iconst (v := (nI (1))) hg dX11_inRange_10 (by decide) ?_
      refine A_goto (tgt := 15) hg dX11_inRange_11 (by decide) ?_
      rw [hQ]
      exact A_zreturn hg (by decide) (by decide) rfl rfl dX11_inRange_15 ⟨rfl, ⟨rfl, (by first | (rw [q_in_t c2 c7]; rfl) | (rw [q_in_f1 c2]; rfl) | (rw [q_in_f2 c7]; rfl))⟩⟩
set_option maxRecDepth 100000 in
set_option maxHeartbeats 4000000 in
theorem c_X11_thrown (G : GL) (ex : Bool) (n : Nat) (σ : Nat → va_E) (F : Nat → Int32) (hc0 : σ 279 = o11 G F) (hn : 294 ≤ n) : Ct G yX11_thrown cX11_thrown 1 (some .int) ⟨0, 0, 0, 0⟩ [.ref (q_h G + 279)] ex n σ (fun v9 σ2 => σ2 = σ ∧ v9 = some (.int (F 7))) := by
  refine q_enter [some (.ref (q_h G + 279))] (by decide) (Nat.le_of_ble_eq_true rfl) rfl ?_
  intro K hg
  obtain ⟨Q, hQ⟩ : ∃ Q, Q = q_Q G K ex n 0 0 (fun v9 n' σ' => n' = n ∧ (fun v9 σ2 => σ2 = σ ∧ v9 = some (.int (F 7))) v9 σ') q_noX := ⟨_, rfl⟩
  refine (?_ : AJ G K (q_Q G K ex n 0 0 _ _) 0 0 ex n 0 _ _ σ)
  rw [← hQ]
  refine A_aload_n hg dX11_thrown_0 rfl rfl ?_
  refine A_getf (v := .int (F 7)) hg fl_RX11_67 dX11_thrown_1 hc0 (by omega) rfl ?_
  rw [hQ]
  exact A_ireturn hg (by decide) (by decide) rfl dX11_thrown_4 ⟨rfl, ⟨rfl, rfl⟩⟩
set_option maxRecDepth 100000 in
set_option maxHeartbeats 4000000 in
theorem c_X11_fails0 (G : GL) (ex : Bool) (n : Nat) (σ : Nat → va_E) (F : Nat → Int32) (e : Int32) (hc0 : σ 279 = o11 G F) (hn : 294 ≤ n) : Ct G yX11_fails cX11_fails 3 (some .boolean) ⟨0, 0, 0, 0⟩ [.ref (q_h G + 279), .int (nI (0)), .int (e)] ex n σ (fun v9 σ2 => σ2 = σ ∧ v9 = some (.int (nI (0)))) := by
  refine q_enter [some (.ref (q_h G + 279)), some (.int (nI (0))), some (.int (e))] (by decide) (Nat.le_of_ble_eq_true rfl) rfl ?_
  intro K hg
  obtain ⟨Q, hQ⟩ : ∃ Q, Q = q_Q G K ex n 0 0 (fun v9 n' σ' => n' = n ∧ (fun v9 σ2 => σ2 = σ ∧ v9 = some (.int (nI (0)))) v9 σ') q_noX := ⟨_, rfl⟩
  refine (?_ : AJ G K (q_Q G K ex n 0 0 _ _) 0 0 ex n 0 _ _ σ)
  rw [← hQ]
  refine A_iload_n hg dX11_fails_0 rfl rfl ?_
  refine A_if_eqN (tgt := 9) hg dX11_fails_1 (by decide) (by decide) (fun c1 => ?_) (fun c1 => absurd (by decide) c1)
  refine A_iload_n hg dX11_fails_9 rfl rfl ?_
  rw [hQ]
  exact A_zreturn hg (by decide) (by decide) rfl rfl dX11_fails_10 ⟨rfl, ⟨rfl, rfl⟩⟩
set_option maxRecDepth 100000 in
set_option maxHeartbeats 4000000 in
theorem c_X11_fails1 (G : GL) (ex : Bool) (n : Nat) (σ : Nat → va_E) (F : Nat → Int32) (e : Int32) (hc0 : σ 279 = o11 G F) (hn : 294 ≤ n) : Ct G yX11_fails cX11_fails 3 (some .boolean) ⟨0, 0, 0, 0⟩ [.ref (q_h G + 279), .int (nI (1)), .int (e)] ex n σ (fun v9 σ2 => v9 = some (.int (nI (1))) ∧ σ2 279 = o11 G (upd F 7 e) ∧ (∀ i : Nat, i ≠ 279 → σ2 i = σ i)) := by
  refine q_enter [some (.ref (q_h G + 279)), some (.int (nI (1))), some (.int (e))] (by decide) (Nat.le_of_ble_eq_true rfl) rfl ?_
  intro K hg
  obtain ⟨Q, hQ⟩ : ∃ Q, Q = q_Q G K ex n 0 0 (fun v9 n' σ' => n' = n ∧ (fun v9 σ2 => v9 = some (.int (nI (1))) ∧ σ2 279 = o11 G (upd F 7 e) ∧ (∀ i : Nat, i ≠ 279 → σ2 i = σ i)) v9 σ') q_noX := ⟨_, rfl⟩
  refine (?_ : AJ G K (q_Q G K ex n 0 0 _ _) 0 0 ex n 0 _ _ σ)
  rw [← hQ]
  refine A_iload_n hg dX11_fails_0 rfl rfl ?_
  refine A_if_eqN (tgt := 9) hg dX11_fails_1 (by decide) (by decide) (fun c1 => absurd c1 (by decide)) (fun c1 => ?_)
  refine A_aload_n hg dX11_fails_4 rfl rfl ?_
  refine A_iload_n hg dX11_fails_5 rfl rfl ?_
  refine A_putf hg fl_RX11_67 dX11_fails_6 hc0 (by omega) (Nat.le_of_ble_eq_true rfl) rfl rfl rfl (fun σ_1 hc_2 hf_3 => ?_)
  have hc_2 : σ_1 279 = o11 G (upd F 7 (e)) := hc_2
  refine A_iload_n hg dX11_fails_9 rfl rfl ?_
  rw [hQ]
  exact A_zreturn hg (by decide) (by decide) rfl rfl dX11_fails_10 ⟨rfl, ⟨rfl, hc_2, (fun i hi => (hf_3 i (by omega)))⟩⟩
set_option maxRecDepth 100000 in
set_option maxHeartbeats 4000000 in
theorem c_X11_of (G : GL) (ex : Bool) (n : Nat) (σ : Nat → va_E) (F : Nat → Int32) (g : Nat → Nat) (r : Nat) (j : Nat) (hc0 : σ 279 = o11 G F) (hc1 : σ 280 = q_an G 265 g) (hn : 294 ≤ n) (hb : 17 + 29 * r + j < 265) : Ct G yX11_of cX11_of 3 (some .int) ⟨0, 0, 0, 0⟩ [.ref (q_h G + 279), .int (nI (r)), .int (nI (j))] ex n σ (fun v9 σ2 => σ2 = σ ∧ v9 = some (.int (nI (s_rule g r j)))) := by
  refine q_enter [some (.ref (q_h G + 279)), some (.int (nI (r))), some (.int (nI (j)))] (by decide) (Nat.le_of_ble_eq_true rfl) rfl ?_
  intro K hg
  obtain ⟨Q, hQ⟩ : ∃ Q, Q = q_Q G K ex n 0 0 (fun v9 n' σ' => n' = n ∧ (fun v9 σ2 => σ2 = σ ∧ v9 = some (.int (nI (s_rule g r j)))) v9 σ') q_noX := ⟨_, rfl⟩
  refine (?_ : AJ G K (q_Q G K ex n 0 0 _ _) 0 0 ex n 0 _ _ σ)
  rw [← hQ]
  refine A_aload_n hg dX11_of_0 rfl rfl ?_
  refine A_getf (v := .ref (q_h G + 280)) hg fl_RX11_7 dX11_of_1 hc0 (by omega) rfl ?_
  refine A_bipush (v := (nI (17))) hg dX11_of_4 (by decide) ?_
  refine A_bipush (v := (nI (29))) hg dX11_of_6 (by decide) ?_
  refine A_iload_n hg dX11_of_8 rfl rfl ?_
  refine A_imulN hg dX11_of_9 ?_
  refine A_iaddN hg dX11_of_10 ?_
  refine A_iload_n hg dX11_of_11 rfl rfl ?_
  refine A_iaddN hg dX11_of_12 ?_
  refine A_iald (j := ((17 + (29 * r)) + j)) hg dX11_of_13 hc1 (by omega) (by omega) (by decide) ?_
  rw [hQ]
  exact A_ireturn hg (by decide) (by decide) rfl dX11_of_14 ⟨rfl, ⟨rfl, rfl⟩⟩
set_option maxRecDepth 100000 in
set_option maxHeartbeats 4000000 in
theorem c_X11_putsRule (G : GL) (ex : Bool) (n : Nat) (σ : Nat → va_E) (F : Nat → Int32) (g : Nat → Nat) (r : Nat) (j : Nat) (x : Nat) (hc0 : σ 279 = o11 G F) (hc1 : σ 280 = q_an G 265 g) (hn : 294 ≤ n) (hb : 17 + 29 * r + j < 265) : Ct G yX11_putsRule cX11_putsRule 4 none ⟨0, 0, 0, 0⟩ [.ref (q_h G + 279), .int (nI (r)), .int (nI (j)), .int (nI (x))] ex n σ (fun v9 σ2 => v9 = none ∧ σ2 280 = q_an G 265 (va_up g (17 + 29 * r + j) x) ∧ (∀ i : Nat, i ≠ 280 → σ2 i = σ i)) := by
  refine q_enter [some (.ref (q_h G + 279)), some (.int (nI (r))), some (.int (nI (j))), some (.int (nI (x)))] (by decide) (Nat.le_of_ble_eq_true rfl) rfl ?_
  intro K hg
  obtain ⟨Q, hQ⟩ : ∃ Q, Q = q_Q G K ex n 0 0 (fun v9 n' σ' => n' = n ∧ (fun v9 σ2 => v9 = none ∧ σ2 280 = q_an G 265 (va_up g (17 + 29 * r + j) x) ∧ (∀ i : Nat, i ≠ 280 → σ2 i = σ i)) v9 σ') q_noX := ⟨_, rfl⟩
  refine (?_ : AJ G K (q_Q G K ex n 0 0 _ _) 0 0 ex n 0 _ _ σ)
  rw [← hQ]
  refine A_aload_n hg dX11_putsRule_0 rfl rfl ?_
  refine A_getf (v := .ref (q_h G + 280)) hg fl_RX11_7 dX11_putsRule_1 hc0 (by omega) rfl ?_
  refine A_bipush (v := (nI (17))) hg dX11_putsRule_4 (by decide) ?_
  refine A_bipush (v := (nI (29))) hg dX11_putsRule_6 (by decide) ?_
  refine A_iload_n hg dX11_putsRule_8 rfl rfl ?_
  refine A_imulN hg dX11_putsRule_9 ?_
  refine A_iaddN hg dX11_putsRule_10 ?_
  refine A_iload_n hg dX11_putsRule_11 rfl rfl ?_
  refine A_iaddN hg dX11_putsRule_12 ?_
  refine A_iload_n hg dX11_putsRule_13 rfl rfl ?_
  refine A_iast (j := ((17 + (29 * r)) + j)) (x := x) hg dX11_putsRule_14 hc1 (by omega) (by omega) (by decide) (fun σ_1 hc_2 hf_3 => ?_)
  have hc_4 : σ_1 279 = o11 G F := (hf_3 _ (by omega)).trans hc0
  rw [hQ]
  exact A_return hg (by decide) (by decide) rfl dX11_putsRule_15 ⟨rfl, ⟨rfl, hc_2, (fun i hi => (hf_3 i (by omega)))⟩⟩
end
