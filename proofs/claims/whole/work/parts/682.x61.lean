section
set_option maxRecDepth 100000 in
set_option maxHeartbeats 4000000 in
theorem c_L_value (G : GL) (n : Nat) (σ : Nat → va_E) (z1 : Int32) (z2 : Int32) (z3 : Int32) (g : Nat → Nat) (r : Int32) (k : Int32) (l : Int32) (oL : Nat → Int64) (hc0 : σ 0 = o10 G (z1) (z2) (z3)) (hc1 : σ 294 = q_ln G 1 oL) (hn9 : 279 ≤ n) (hG : x_gm G σ 25 g) (hM : x_mx G σ) (h295n : 294 < n) : CtH G yL_value cL_value 6 (some .int) [(0, 12, 15, 19), (0, 12, 19, 13)] ⟨9, 3, 18, 156⟩ [.ref (q_h G + 0), .int (r), .int (k), .int (l), .ref (q_h G + 294)] n σ (fun v9 σ2 => (∃ (r1 : Nat), ∃ (a1 : Nat), ∃ (b1 : Nat), v9 = some (.int (nI (0))) ∧ (r = nI r1) ∧ (r1 < g 0) ∧ (k = nI a1) ∧ (l = nI b1) ∧ (a1 ≤ 40) ∧ (b1 ≤ 40) ∧ (x_mx G σ2) ∧ σ2 294 = q_ln G 1 (va_up oL 0 ((nI (s_V (s_rule g r1) (41 * a1 + b1))).toInt64)) ∧ (∀ i : Nat, (i < 43 ∨ 77 < i) ∧ i ≠ 294 → σ2 i = σ i)) ∨ (v9 = some (.int (nI (1))) ∧ (∀ j : Nat, j < g 0 → r = nI j → False) ∧ σ2 = σ) ∨ (v9 = some (.int (nI (2))) ∧ (∃ r1 : Nat, r = nI r1 ∧ r1 < g 0 ∧ (∀ a b : Nat, a ≤ 40 → b ≤ 40 → k = nI a → l = nI b → False)) ∧ σ2 = σ)) := by
  refine q_enterH [some (.ref (q_h G + 0)), some (.int (r)), some (.int (k)), some (.int (l)), some (.ref (q_h G + 294)), none] (by decide) (Nat.le_of_ble_eq_true rfl) rfl ?_
  intro K hg
  obtain ⟨Q, hQ⟩ : ∃ Q, Q = q_Q G K false n 3 18 (fun v9 n' σ' => n' = n ∧ (fun v9 σ2 => (∃ (r1 : Nat), ∃ (a1 : Nat), ∃ (b1 : Nat), v9 = some (.int (nI (0))) ∧ (r = nI r1) ∧ (r1 < g 0) ∧ (k = nI a1) ∧ (l = nI b1) ∧ (a1 ≤ 40) ∧ (b1 ≤ 40) ∧ (x_mx G σ2) ∧ σ2 294 = q_ln G 1 (va_up oL 0 ((nI (s_V (s_rule g r1) (41 * a1 + b1))).toInt64)) ∧ (∀ i : Nat, (i < 43 ∨ 77 < i) ∧ i ≠ 294 → σ2 i = σ i)) ∨ (v9 = some (.int (nI (1))) ∧ (∀ j : Nat, j < g 0 → r = nI j → False) ∧ σ2 = σ) ∨ (v9 = some (.int (nI (2))) ∧ (∃ r1 : Nat, r = nI r1 ∧ r1 < g 0 ∧ (∀ a b : Nat, a ≤ 40 → b ≤ 40 → k = nI a → l = nI b → False)) ∧ σ2 = σ)) v9 σ') q_noX := ⟨_, rfl⟩
  refine (?_ : AJ G K (q_Q G K false n 3 18 _ _) 0 0 false n 0 _ _ σ)
  rw [← hQ]
  refine A_aload hg dL_value_0 rfl ?_
  refine A_iconst (v := (nI (0))) hg dL_value_2 (by decide) ?_
  refine A_aload_n hg dL_value_3 rfl rfl ?_
  refine A_iload_n hg dL_value_4 rfl rfl ?_
  refine A_iload_n hg dL_value_5 rfl rfl ?_
  refine A_iload_n hg dL_value_6 rfl rfl ?_
  refine A_hVX (kc2 := 3) (ks2 := 18) (As := [.int (r), .int (k), .int (l)]) (rest := [.int (nI (0)), .ref (q_h G + 294)]) hg lk_RL_48 in_X10_value se_X10_value rfl dL_value_7 ⟨by decide, by decide⟩ rfl rfl ⟨by decide, by decide⟩ hc0 (by omega) rfl rfl (Nat.le_of_ble_eq_true rfl) (c_X10_value G false n σ z1 z2 z3 g r k l hc0 (by omega) hG hM) ?_ ?_
  · skip
    intro E σx hx
    obtain ⟨hs9, hx⟩ := hx
    rw [hs9]
    rcases hx with ⟨rfl, h0⟩ | ⟨rfl, h0⟩
    · skip
      refine A_caught hg [] [(0, 12, 19, 13)] rfl (by decide) (by decide) clk_19 cst_19 (fun z hz => nomatch hz) (fun q9 => ?_)
      refine A_astore hg dL_value_15 (by decide) (q_c1d rfl) ?_
      refine A_eq (ls2 := [some (.ref (q_h G + 0)), some (.int (r)), some (.int (k)), some (.int (l)), some (.ref (q_h G + 294)), some (.ref q9)]) (st2 := []) (pc2 := 0) rfl rfl ?_
      refine A_iconst (v := (nI (1))) hg dL_value_17 (by decide) ?_
      rw [hQ]
      exact A_ireturn hg (by decide) (by decide) rfl dL_value_18 ⟨rfl, Or.inr (Or.inl (⟨rfl, h0, rfl⟩))⟩
    · skip
      refine A_caught hg [(0, 12, 15, 19)] [] rfl (by decide) (by decide) clk_13 cst_13 (List.forall_mem_cons.mpr ⟨⟨by decide, _, clk_19, nc_13_19⟩, (fun z hz => nomatch hz)⟩) (fun q9 => ?_)
      refine A_astore hg dL_value_19 (by decide) (q_c1d rfl) ?_
      refine A_eq (ls2 := [some (.ref (q_h G + 0)), some (.int (r)), some (.int (k)), some (.int (l)), some (.ref (q_h G + 294)), some (.ref q9)]) (st2 := []) (pc2 := 0) rfl rfl ?_
      refine A_iconst (v := (nI (2))) hg dL_value_21 (by decide) ?_
      rw [hQ]
      exact A_ireturn hg (by decide) (by decide) rfl dL_value_22 ⟨rfl, Or.inr (Or.inr ((⟨rfl, h0, rfl⟩)))⟩
  rintro _ σ_2 ⟨r1, a1, b1, rfl, hre, hrl, hke, hle, hkl, hll, hM2, hf_1⟩
  refine (?_ : AJ G K Q 3 18 false n 10 [some (.ref (q_h G + 0)), some (.int (r)), some (.int (k)), some (.int (l)), some (.ref (q_h G + 294)), none] [.int (nI (s_V (s_rule g r1) (41 * a1 + b1))), .int (nI (0)), .ref (q_h G + 294)] σ_2)
  have hc_3 : σ_2 0 = o10 G (z1) (z2) (z3) := (hf_1 _ (by omega)).trans hc0
  have hc_4 : σ_2 294 = q_ln G 1 oL := (hf_1 _ (by omega)).trans hc1
  refine A_i2l (v := (nI (s_V (s_rule g r1) (41 * a1 + b1))).toInt64) hg dL_value_10 rfl ?_
  refine A_last (j := 0) (x := ((nI (s_V (s_rule g r1) (41 * a1 + b1))).toInt64)) hg dL_value_11 hc_4 (by omega) (by omega) (by decide) (fun σ_5 hc_6 hf_7 => ?_)
  have hc_8 : σ_5 0 = o10 G (z1) (z2) (z3) := (hf_7 _ (by omega)).trans hc_3
  refine A_goto (tgt := 23) hg dL_value_12 (by decide) ?_
  refine A_iconst (v := (nI (0))) hg dL_value_23 (by decide) ?_
  rw [hQ]
  exact A_ireturn hg (by decide) (by decide) rfl dL_value_24 ⟨rfl, Or.inl (⟨r1, a1, b1, rfl, hre, hrl, hke, hle, hkl, hll, (x_mx_e (fun i _ _ => (hf_7 i (by omega))) hM2), hc_6, (fun i hi => ((hf_7 i (by omega)).trans (hf_1 i (by omega))))⟩)⟩
set_option maxRecDepth 100000 in
set_option maxHeartbeats 4000000 in
theorem c_L_span (G : GL) (n : Nat) (σ : Nat → va_E) (z1 : Int32) (z2 : Int32) (z3 : Int32) (g : Nat → Nat) (r : Int32) (k : Int32) (l : Int32) (oL : Nat → Int64) (hc0 : σ 0 = o10 G (z1) (z2) (z3)) (hc1 : σ 294 = q_ln G 1 oL) (hn9 : 279 ≤ n) (hG : x_gm G σ 25 g) (hM : x_mx G σ) (h295n : 294 < n) : CtH G yL_span cL_span 6 (some .int) [(0, 12, 15, 19), (0, 12, 19, 13)] ⟨9, 3, 18, 156⟩ [.ref (q_h G + 0), .int (r), .int (k), .int (l), .ref (q_h G + 294)] n σ (fun v9 σ2 => (∃ (r1 : Nat), ∃ (a1 : Nat), ∃ (b1 : Nat), v9 = some (.int (nI (0))) ∧ (r = nI r1) ∧ (r1 < g 0) ∧ (k = nI a1) ∧ (l = nI b1) ∧ (a1 ≤ 40) ∧ (b1 ≤ 40) ∧ (x_mx G σ2) ∧ σ2 294 = q_ln G 1 (va_up oL 0 ((nI (s_S (s_rule g r1) (41 * a1 + b1))).toInt64)) ∧ (∀ i : Nat, (i < 43 ∨ 77 < i) ∧ i ≠ 294 → σ2 i = σ i)) ∨ (v9 = some (.int (nI (1))) ∧ (∀ j : Nat, j < g 0 → r = nI j → False) ∧ σ2 = σ) ∨ (v9 = some (.int (nI (2))) ∧ (∃ r1 : Nat, r = nI r1 ∧ r1 < g 0 ∧ (∀ a b : Nat, a ≤ 40 → b ≤ 40 → k = nI a → l = nI b → False)) ∧ σ2 = σ)) := by
  refine q_enterH [some (.ref (q_h G + 0)), some (.int (r)), some (.int (k)), some (.int (l)), some (.ref (q_h G + 294)), none] (by decide) (Nat.le_of_ble_eq_true rfl) rfl ?_
  intro K hg
  obtain ⟨Q, hQ⟩ : ∃ Q, Q = q_Q G K false n 3 18 (fun v9 n' σ' => n' = n ∧ (fun v9 σ2 => (∃ (r1 : Nat), ∃ (a1 : Nat), ∃ (b1 : Nat), v9 = some (.int (nI (0))) ∧ (r = nI r1) ∧ (r1 < g 0) ∧ (k = nI a1) ∧ (l = nI b1) ∧ (a1 ≤ 40) ∧ (b1 ≤ 40) ∧ (x_mx G σ2) ∧ σ2 294 = q_ln G 1 (va_up oL 0 ((nI (s_S (s_rule g r1) (41 * a1 + b1))).toInt64)) ∧ (∀ i : Nat, (i < 43 ∨ 77 < i) ∧ i ≠ 294 → σ2 i = σ i)) ∨ (v9 = some (.int (nI (1))) ∧ (∀ j : Nat, j < g 0 → r = nI j → False) ∧ σ2 = σ) ∨ (v9 = some (.int (nI (2))) ∧ (∃ r1 : Nat, r = nI r1 ∧ r1 < g 0 ∧ (∀ a b : Nat, a ≤ 40 → b ≤ 40 → k = nI a → l = nI b → False)) ∧ σ2 = σ)) v9 σ') q_noX := ⟨_, rfl⟩
  refine (?_ : AJ G K (q_Q G K false n 3 18 _ _) 0 0 false n 0 _ _ σ)
  rw [← hQ]
  refine A_aload hg dL_span_0 rfl ?_
  refine A_iconst (v := (nI (0))) hg dL_span_2 (by decide) ?_
  refine A_aload_n hg dL_span_3 rfl rfl ?_
  refine A_iload_n hg dL_span_4 rfl rfl ?_
  refine A_iload_n hg dL_span_5 rfl rfl ?_
  refine A_iload_n hg dL_span_6 rfl rfl ?_
  refine A_hVX (kc2 := 3) (ks2 := 18) (As := [.int (r), .int (k), .int (l)]) (rest := [.int (nI (0)), .ref (q_h G + 294)]) hg lk_RL_51 in_X10_span se_X10_span rfl dL_span_7 ⟨by decide, by decide⟩ rfl rfl ⟨by decide, by decide⟩ hc0 (by omega) rfl rfl (Nat.le_of_ble_eq_true rfl) (c_X10_span G false n σ z1 z2 z3 g r k l hc0 (by omega) hG hM) ?_ ?_
  · skip
    intro E σx hx
    obtain ⟨hs9, hx⟩ := hx
    rw [hs9]
    rcases hx with ⟨rfl, h0⟩ | ⟨rfl, h0⟩
    · skip
      refine A_caught hg [] [(0, 12, 19, 13)] rfl (by decide) (by decide) clk_19 cst_19 (fun z hz => nomatch hz) (fun q9 => ?_)
      refine A_astore hg dL_span_15 (by decide) (q_c1d rfl) ?_
      refine A_eq (ls2 := [some (.ref (q_h G + 0)), some (.int (r)), some (.int (k)), some (.int (l)), some (.ref (q_h G + 294)), some (.ref q9)]) (st2 := []) (pc2 := 0) rfl rfl ?_
      refine A_iconst (v := (nI (1))) hg dL_span_17 (by decide) ?_
      rw [hQ]
      exact A_ireturn hg (by decide) (by decide) rfl dL_span_18 ⟨rfl, Or.inr (Or.inl (⟨rfl, h0, rfl⟩))⟩
    · skip
      refine A_caught hg [(0, 12, 15, 19)] [] rfl (by decide) (by decide) clk_13 cst_13 (List.forall_mem_cons.mpr ⟨⟨by decide, _, clk_19, nc_13_19⟩, (fun z hz => nomatch hz)⟩) (fun q9 => ?_)
      refine A_astore hg dL_span_19 (by decide) (q_c1d rfl) ?_
      refine A_eq (ls2 := [some (.ref (q_h G + 0)), some (.int (r)), some (.int (k)), some (.int (l)), some (.ref (q_h G + 294)), some (.ref q9)]) (st2 := []) (pc2 := 0) rfl rfl ?_
      refine A_iconst (v := (nI (2))) hg dL_span_21 (by decide) ?_
      rw [hQ]
      exact A_ireturn hg (by decide) (by decide) rfl dL_span_22 ⟨rfl, Or.inr (Or.inr ((⟨rfl, h0, rfl⟩)))⟩
  rintro _ σ_2 ⟨r1, a1, b1, rfl, hre, hrl, hke, hle, hkl, hll, hM2, hf_1⟩
  refine (?_ : AJ G K Q 3 18 false n 10 [some (.ref (q_h G + 0)), some (.int (r)), some (.int (k)), some (.int (l)), some (.ref (q_h G + 294)), none] [.int (nI (s_S (s_rule g r1) (41 * a1 + b1))), .int (nI (0)), .ref (q_h G + 294)] σ_2)
  have hc_3 : σ_2 0 = o10 G (z1) (z2) (z3) := (hf_1 _ (by omega)).trans hc0
  have hc_4 : σ_2 294 = q_ln G 1 oL := (hf_1 _ (by omega)).trans hc1
  refine A_i2l (v := (nI (s_S (s_rule g r1) (41 * a1 + b1))).toInt64) hg dL_span_10 rfl ?_
  refine A_last (j := 0) (x := ((nI (s_S (s_rule g r1) (41 * a1 + b1))).toInt64)) hg dL_span_11 hc_4 (by omega) (by omega) (by decide) (fun σ_5 hc_6 hf_7 => ?_)
  have hc_8 : σ_5 0 = o10 G (z1) (z2) (z3) := (hf_7 _ (by omega)).trans hc_3
  refine A_goto (tgt := 23) hg dL_span_12 (by decide) ?_
  refine A_iconst (v := (nI (0))) hg dL_span_23 (by decide) ?_
  rw [hQ]
  exact A_ireturn hg (by decide) (by decide) rfl dL_span_24 ⟨rfl, Or.inl (⟨r1, a1, b1, rfl, hre, hrl, hke, hle, hkl, hll, (x_mx_e (fun i _ _ => (hf_7 i (by omega))) hM2), hc_6, (fun i hi => ((hf_7 i (by omega)).trans (hf_1 i (by omega))))⟩)⟩
set_option maxRecDepth 100000 in
set_option maxHeartbeats 4000000 in
theorem c_L_losing (G : GL) (n : Nat) (σ : Nat → va_E) (z1 : Int32) (z2 : Int32) (z3 : Int32) (g : Nat → Nat) (r : Int32) (x : Int32) (s : Bool) (oL : Nat → Int64) (hc0 : σ 0 = o10 G (z1) (z2) (z3)) (hc1 : σ 294 = q_ln G 1 oL) (hn9 : 279 ≤ n) (hG : x_gm G σ 25 g) (hM : x_mx G σ) (h295n : 294 < n) : CtH G yL_losing cL_losing 6 (some .int) [(0, 12, 15, 19)] ⟨8, 1, 6, 143⟩ [.ref (q_h G + 0), .int (r), .int (x), .int (q_b (s)), .ref (q_h G + 294)] n σ (fun v9 σ2 => (∃ (r1 : Nat), ∃ (i1 : Nat), v9 = some (.int (nI (0))) ∧ (r = nI r1) ∧ (r1 < g 0) ∧ (x = nI i1) ∧ (i1 < s_lzc (s_rule g r1) 1681) ∧ (x_mx G σ2) ∧ σ2 294 = q_ln G 1 (va_up oL 0 ((nI (if s = true then s_lzn (s_rule g r1) i1 % 41 else s_lzn (s_rule g r1) i1 / 41)).toInt64)) ∧ (∀ i : Nat, (i < 43 ∨ 77 < i) ∧ i ≠ 294 → σ2 i = σ i)) ∨ (∃ (r1 : Nat), v9 = some (.int (nI (0))) ∧ (r = nI r1) ∧ (r1 < g 0) ∧ (∀ j : Nat, j < s_lzc (s_rule g r1) 1681 → x = nI j → False) ∧ (x_mx G σ2) ∧ σ2 294 = q_ln G 1 (va_up oL 0 ((q_d (0)).toInt64)) ∧ (∀ i : Nat, (i < 43 ∨ 77 < i) ∧ i ≠ 294 → σ2 i = σ i)) ∨ (v9 = some (.int (nI (1))) ∧ (∀ j : Nat, j < g 0 → r = nI j → False) ∧ σ2 = σ)) := by
  refine q_enterH [some (.ref (q_h G + 0)), some (.int (r)), some (.int (x)), some (.int (q_b (s))), some (.ref (q_h G + 294)), none] (by decide) (Nat.le_of_ble_eq_true rfl) rfl ?_
  intro K hg
  obtain ⟨Q, hQ⟩ : ∃ Q, Q = q_Q G K false n 1 6 (fun v9 n' σ' => n' = n ∧ (fun v9 σ2 => (∃ (r1 : Nat), ∃ (i1 : Nat), v9 = some (.int (nI (0))) ∧ (r = nI r1) ∧ (r1 < g 0) ∧ (x = nI i1) ∧ (i1 < s_lzc (s_rule g r1) 1681) ∧ (x_mx G σ2) ∧ σ2 294 = q_ln G 1 (va_up oL 0 ((nI (if s = true then s_lzn (s_rule g r1) i1 % 41 else s_lzn (s_rule g r1) i1 / 41)).toInt64)) ∧ (∀ i : Nat, (i < 43 ∨ 77 < i) ∧ i ≠ 294 → σ2 i = σ i)) ∨ (∃ (r1 : Nat), v9 = some (.int (nI (0))) ∧ (r = nI r1) ∧ (r1 < g 0) ∧ (∀ j : Nat, j < s_lzc (s_rule g r1) 1681 → x = nI j → False) ∧ (x_mx G σ2) ∧ σ2 294 = q_ln G 1 (va_up oL 0 ((q_d (0)).toInt64)) ∧ (∀ i : Nat, (i < 43 ∨ 77 < i) ∧ i ≠ 294 → σ2 i = σ i)) ∨ (v9 = some (.int (nI (1))) ∧ (∀ j : Nat, j < g 0 → r = nI j → False) ∧ σ2 = σ)) v9 σ') q_noX := ⟨_, rfl⟩
  refine (?_ : AJ G K (q_Q G K false n 1 6 _ _) 0 0 false n 0 _ _ σ)
  rw [← hQ]
  refine A_aload hg dL_losing_0 rfl ?_
  refine A_iconst (v := (nI (0))) hg dL_losing_2 (by decide) ?_
  refine A_aload_n hg dL_losing_3 rfl rfl ?_
  refine A_iload_n hg dL_losing_4 rfl rfl ?_
  refine A_iload_n hg dL_losing_5 rfl rfl ?_
  refine A_iload_n hg dL_losing_6 rfl rfl ?_
  refine A_hVX (kc2 := 1) (ks2 := 6) (As := [.int (r), .int (x), .int (q_b (s))]) (rest := [.int (nI (0)), .ref (q_h G + 294)]) hg lk_RL_54 in_X10_losing se_X10_losing rfl dL_losing_7 ⟨by decide, by decide⟩ rfl rfl ⟨by decide, by decide⟩ hc0 (by omega) rfl rfl (Nat.le_of_ble_eq_true rfl) (c_X10_losing G false n σ z1 z2 z3 g r x s hc0 (by omega) hG hM) ?_ ?_
  · skip
    intro E σx hx
    obtain ⟨hs9, hx⟩ := hx
    rw [hs9]
    obtain ⟨rfl, h0⟩ := hx
    refine A_caught hg [] [] rfl (by decide) (by decide) clk_19 cst_19 (fun z hz => nomatch hz) (fun q9 => ?_)
    refine A_astore hg dL_losing_15 (by decide) (q_c1d rfl) ?_
    refine A_eq (ls2 := [some (.ref (q_h G + 0)), some (.int (r)), some (.int (x)), some (.int (q_b (s))), some (.ref (q_h G + 294)), some (.ref q9)]) (st2 := []) (pc2 := 0) rfl rfl ?_
    refine A_iconst (v := (nI (1))) hg dL_losing_17 (by decide) ?_
    rw [hQ]
    exact A_ireturn hg (by decide) (by decide) rfl dL_losing_18 ⟨rfl, Or.inr (Or.inr ((⟨rfl, h0, rfl⟩)))⟩
  rintro _ σ_3 (⟨r1, i1, rfl, hre, hrl, hie, hil, hM2, hf_1⟩ | ⟨r1, rfl, hre, hrl, hni, hM2, hf_2⟩)
  · skip
    refine (?_ : AJ G K Q 1 6 false n 10 [some (.ref (q_h G + 0)), some (.int (r)), some (.int (x)), some (.int (q_b (s))), some (.ref (q_h G + 294)), none] [.int (nI (if s = true then s_lzn (s_rule g r1) i1 % 41 else s_lzn (s_rule g r1) i1 / 41)), .int (nI (0)), .ref (q_h G + 294)] σ_3)
    have hc_4 : σ_3 0 = o10 G (z1) (z2) (z3) := (hf_1 _ (by omega)).trans hc0
    have hc_5 : σ_3 294 = q_ln G 1 oL := (hf_1 _ (by omega)).trans hc1
    refine A_i2l (v := (nI (if s = true then s_lzn (s_rule g r1) i1 % 41 else s_lzn (s_rule g r1) i1 / 41)).toInt64) hg dL_losing_10 rfl ?_
    refine A_last (j := 0) (x := ((nI (if s = true then s_lzn (s_rule g r1) i1 % 41 else s_lzn (s_rule g r1) i1 / 41)).toInt64)) hg dL_losing_11 hc_5 (by omega) (by omega) (by decide) (fun σ_6 hc_7 hf_8 => ?_)
    have hc_9 : σ_6 0 = o10 G (z1) (z2) (z3) := (hf_8 _ (by omega)).trans hc_4
    refine A_goto (tgt := 19) hg dL_losing_12 (by decide) ?_
    refine A_iconst (v := (nI (0))) hg dL_losing_19 (by decide) ?_
    rw [hQ]
    exact A_ireturn hg (by decide) (by decide) rfl dL_losing_20 ⟨rfl, Or.inl (⟨r1, i1, rfl, hre, hrl, hie, hil, (x_mx_e (fun i _ _ => (hf_8 i (by omega))) hM2), hc_7, (fun i hi => ((hf_8 i (by omega)).trans (hf_1 i (by omega))))⟩)⟩
  · skip
    refine (?_ : AJ G K Q 1 6 false n 10 [some (.ref (q_h G + 0)), some (.int (r)), some (.int (x)), some (.int (q_b (s))), some (.ref (q_h G + 294)), none] [.int (q_d (0)), .int (nI (0)), .ref (q_h G + 294)] σ_3)
    have hc_10 : σ_3 0 = o10 G (z1) (z2) (z3) := (hf_2 _ (by omega)).trans hc0
    have hc_11 : σ_3 294 = q_ln G 1 oL := (hf_2 _ (by omega)).trans hc1
    refine A_i2l (v := (q_d (0)).toInt64) hg dL_losing_10 rfl ?_
    refine A_last (j := 0) (x := ((q_d (0)).toInt64)) hg dL_losing_11 hc_11 (by omega) (by omega) (by decide) (fun σ_12 hc_13 hf_14 => ?_)
    have hc_15 : σ_12 0 = o10 G (z1) (z2) (z3) := (hf_14 _ (by omega)).trans hc_10
    refine A_goto (tgt := 19) hg dL_losing_12 (by decide) ?_
    refine A_iconst (v := (nI (0))) hg dL_losing_19 (by decide) ?_
    rw [hQ]
    exact A_ireturn hg (by decide) (by decide) rfl dL_losing_20 ⟨rfl, Or.inr (Or.inl (⟨r1, rfl, hre, hrl, hni, (x_mx_e (fun i _ _ => (hf_14 i (by omega))) hM2), hc_13, (fun i hi => ((hf_14 i (by omega)).trans (hf_2 i (by omega))))⟩))⟩
set_option maxRecDepth 100000 in
set_option maxHeartbeats 4000000 in
theorem c_L_partner (G : GL) (n : Nat) (σ : Nat → va_E) (z1 : Int32) (z2 : Int32) (z3 : Int32) (g : Nat → Nat) (r : Int32) (k : Int32) (oL : Nat → Int64) (hc0 : σ 0 = o10 G (z1) (z2) (z3)) (hc1 : σ 294 = q_ln G 1 oL) (hn9 : 279 ≤ n) (hG : x_gm G σ 25 g) (hM : x_mx G σ) (h295n : 294 < n) : CtH G yL_partner cL_partner 5 (some .int) [(0, 10, 13, 19), (0, 10, 17, 13)] ⟨8, 2, 12, 143⟩ [.ref (q_h G + 0), .int (r), .int (k), .ref (q_h G + 294)] n σ (fun v9 σ2 => (∃ (r1 : Nat), ∃ (a1 : Nat), v9 = some (.int (nI (0))) ∧ (r = nI r1) ∧ (r1 < g 0) ∧ (k = nI a1) ∧ (a1 ≤ 40) ∧ (s_pta (s_rule g r1) a1 = true) ∧ (x_mx G σ2) ∧ σ2 294 = q_ln G 1 (va_up oL 0 ((nI (s_ptn (s_rule g r1) a1)).toInt64)) ∧ (∀ i : Nat, (i < 43 ∨ 77 < i) ∧ i ≠ 294 → σ2 i = σ i)) ∨ (∃ (r1 : Nat), ∃ (a1 : Nat), v9 = some (.int (nI (0))) ∧ (r = nI r1) ∧ (r1 < g 0) ∧ (k = nI a1) ∧ (a1 ≤ 40) ∧ (s_pta (s_rule g r1) a1 = false) ∧ (x_mx G σ2) ∧ σ2 294 = q_ln G 1 (va_up oL 0 ((q_d (0)).toInt64)) ∧ (∀ i : Nat, (i < 43 ∨ 77 < i) ∧ i ≠ 294 → σ2 i = σ i)) ∨ (v9 = some (.int (nI (1))) ∧ (∀ j : Nat, j < g 0 → r = nI j → False) ∧ σ2 = σ) ∨ (v9 = some (.int (nI (2))) ∧ (∃ r1 : Nat, r = nI r1 ∧ r1 < g 0 ∧ ∀ a : Nat, 0 ≤ a → a ≤ 40 → k = nI a → False) ∧ σ2 = σ)) := by
  refine q_enterH [some (.ref (q_h G + 0)), some (.int (r)), some (.int (k)), some (.ref (q_h G + 294)), none] (by decide) (Nat.le_of_ble_eq_true rfl) rfl ?_
  intro K hg
  obtain ⟨Q, hQ⟩ : ∃ Q, Q = q_Q G K false n 2 12 (fun v9 n' σ' => n' = n ∧ (fun v9 σ2 => (∃ (r1 : Nat), ∃ (a1 : Nat), v9 = some (.int (nI (0))) ∧ (r = nI r1) ∧ (r1 < g 0) ∧ (k = nI a1) ∧ (a1 ≤ 40) ∧ (s_pta (s_rule g r1) a1 = true) ∧ (x_mx G σ2) ∧ σ2 294 = q_ln G 1 (va_up oL 0 ((nI (s_ptn (s_rule g r1) a1)).toInt64)) ∧ (∀ i : Nat, (i < 43 ∨ 77 < i) ∧ i ≠ 294 → σ2 i = σ i)) ∨ (∃ (r1 : Nat), ∃ (a1 : Nat), v9 = some (.int (nI (0))) ∧ (r = nI r1) ∧ (r1 < g 0) ∧ (k = nI a1) ∧ (a1 ≤ 40) ∧ (s_pta (s_rule g r1) a1 = false) ∧ (x_mx G σ2) ∧ σ2 294 = q_ln G 1 (va_up oL 0 ((q_d (0)).toInt64)) ∧ (∀ i : Nat, (i < 43 ∨ 77 < i) ∧ i ≠ 294 → σ2 i = σ i)) ∨ (v9 = some (.int (nI (1))) ∧ (∀ j : Nat, j < g 0 → r = nI j → False) ∧ σ2 = σ) ∨ (v9 = some (.int (nI (2))) ∧ (∃ r1 : Nat, r = nI r1 ∧ r1 < g 0 ∧ ∀ a : Nat, 0 ≤ a → a ≤ 40 → k = nI a → False) ∧ σ2 = σ)) v9 σ') q_noX := ⟨_, rfl⟩
  refine (?_ : AJ G K (q_Q G K false n 2 12 _ _) 0 0 false n 0 _ _ σ)
  rw [← hQ]
  refine A_aload_n hg dL_partner_0 rfl rfl ?_
  refine A_iconst (v := (nI (0))) hg dL_partner_1 (by decide) ?_
  refine A_aload_n hg dL_partner_2 rfl rfl ?_
  refine A_iload_n hg dL_partner_3 rfl rfl ?_
  refine A_iload_n hg dL_partner_4 rfl rfl ?_
  refine A_hVX (kc2 := 2) (ks2 := 12) (As := [.int (r), .int (k)]) (rest := [.int (nI (0)), .ref (q_h G + 294)]) hg lk_RL_57 in_X10_partner se_X10_partner rfl dL_partner_5 ⟨by decide, by decide⟩ rfl rfl ⟨by decide, by decide⟩ hc0 (by omega) rfl rfl (Nat.le_of_ble_eq_true rfl) (c_X10_partner G false n σ z1 z2 z3 g r k hc0 (by omega) hG hM) ?_ ?_
  · skip
    intro E σx hx
    obtain ⟨hs9, hx⟩ := hx
    rw [hs9]
    rcases hx with ⟨rfl, h0⟩ | ⟨rfl, h0⟩
    · skip
      refine A_caught hg [] [(0, 10, 17, 13)] rfl (by decide) (by decide) clk_19 cst_19 (fun z hz => nomatch hz) (fun q9 => ?_)
      refine A_astore hg dL_partner_13 (by decide) (q_c1d rfl) ?_
      refine A_eq (ls2 := [some (.ref (q_h G + 0)), some (.int (r)), some (.int (k)), some (.ref (q_h G + 294)), some (.ref q9)]) (st2 := []) (pc2 := 0) rfl rfl ?_
      refine A_iconst (v := (nI (1))) hg dL_partner_15 (by decide) ?_
      rw [hQ]
      exact A_ireturn hg (by decide) (by decide) rfl dL_partner_16 ⟨rfl, Or.inr (Or.inr (Or.inl (⟨rfl, h0, rfl⟩)))⟩
    · skip
      refine A_caught hg [(0, 10, 13, 19)] [] rfl (by decide) (by decide) clk_13 cst_13 (List.forall_mem_cons.mpr ⟨⟨by decide, _, clk_19, nc_13_19⟩, (fun z hz => nomatch hz)⟩) (fun q9 => ?_)
      refine A_astore hg dL_partner_17 (by decide) (q_c1d rfl) ?_
      refine A_eq (ls2 := [some (.ref (q_h G + 0)), some (.int (r)), some (.int (k)), some (.ref (q_h G + 294)), some (.ref q9)]) (st2 := []) (pc2 := 0) rfl rfl ?_
      refine A_iconst (v := (nI (2))) hg dL_partner_19 (by decide) ?_
      rw [hQ]
      exact A_ireturn hg (by decide) (by decide) rfl dL_partner_20 ⟨rfl, Or.inr (Or.inr (Or.inr ((⟨rfl, h0, rfl⟩))))⟩
  rintro _ σ_3 (⟨r1, a1, rfl, hre, hrl, hke, hkl, hany, hM2, hf_1⟩ | ⟨r1, a1, rfl, hre, hrl, hke, hkl, hany, hM2, hf_2⟩)
  · skip
    refine (?_ : AJ G K Q 2 12 false n 8 [some (.ref (q_h G + 0)), some (.int (r)), some (.int (k)), some (.ref (q_h G + 294)), none] [.int (nI (s_ptn (s_rule g r1) a1)), .int (nI (0)), .ref (q_h G + 294)] σ_3)
    have hc_4 : σ_3 0 = o10 G (z1) (z2) (z3) := (hf_1 _ (by omega)).trans hc0
    have hc_5 : σ_3 294 = q_ln G 1 oL := (hf_1 _ (by omega)).trans hc1
    refine A_i2l (v := (nI (s_ptn (s_rule g r1) a1)).toInt64) hg dL_partner_8 rfl ?_
    refine A_last (j := 0) (x := ((nI (s_ptn (s_rule g r1) a1)).toInt64)) hg dL_partner_9 hc_5 (by omega) (by omega) (by decide) (fun σ_6 hc_7 hf_8 => ?_)
    have hc_9 : σ_6 0 = o10 G (z1) (z2) (z3) := (hf_8 _ (by omega)).trans hc_4
    refine A_goto (tgt := 21) hg dL_partner_10 (by decide) ?_
    refine A_iconst (v := (nI (0))) hg dL_partner_21 (by decide) ?_
    rw [hQ]
    exact A_ireturn hg (by decide) (by decide) rfl dL_partner_22 ⟨rfl, Or.inl (⟨r1, a1, rfl, hre, hrl, hke, hkl, hany, (x_mx_e (fun i _ _ => (hf_8 i (by omega))) hM2), hc_7, (fun i hi => ((hf_8 i (by omega)).trans (hf_1 i (by omega))))⟩)⟩
  · skip
    refine (?_ : AJ G K Q 2 12 false n 8 [some (.ref (q_h G + 0)), some (.int (r)), some (.int (k)), some (.ref (q_h G + 294)), none] [.int (q_d (0)), .int (nI (0)), .ref (q_h G + 294)] σ_3)
    have hc_10 : σ_3 0 = o10 G (z1) (z2) (z3) := (hf_2 _ (by omega)).trans hc0
    have hc_11 : σ_3 294 = q_ln G 1 oL := (hf_2 _ (by omega)).trans hc1
    refine A_i2l (v := (q_d (0)).toInt64) hg dL_partner_8 rfl ?_
    refine A_last (j := 0) (x := ((q_d (0)).toInt64)) hg dL_partner_9 hc_11 (by omega) (by omega) (by decide) (fun σ_12 hc_13 hf_14 => ?_)
    have hc_15 : σ_12 0 = o10 G (z1) (z2) (z3) := (hf_14 _ (by omega)).trans hc_10
    refine A_goto (tgt := 21) hg dL_partner_10 (by decide) ?_
    refine A_iconst (v := (nI (0))) hg dL_partner_21 (by decide) ?_
    rw [hQ]
    exact A_ireturn hg (by decide) (by decide) rfl dL_partner_22 ⟨rfl, Or.inr (Or.inl (⟨r1, a1, rfl, hre, hrl, hke, hkl, hany, (x_mx_e (fun i _ _ => (hf_14 i (by omega))) hM2), hc_13, (fun i hi => ((hf_14 i (by omega)).trans (hf_2 i (by omega))))⟩))⟩
set_option maxRecDepth 100000 in
set_option maxHeartbeats 4000000 in
theorem c_L_golden (G : GL) (n : Nat) (σ : Nat → va_E) (z1 : Int32) (z2 : Int32) (z3 : Int32) (s : Int32) (v : Int32) (b : Bool) (oL : Nat → Int64) (hc0 : σ 0 = o10 G (z1) (z2) (z3)) (hc1 : σ 294 = q_ln G 1 oL) (hn9 : 279 ≤ n) (h295n : 294 < n) : CtH G yL_golden cL_golden 6 (some .int) [(0, 12, 15, 13)] ⟨8, 2, 12, 135⟩ [.ref (q_h G + 0), .int (s), .int (v), .int (q_b (b)), .ref (q_h G + 294)] n σ (fun v9 σ2 => (∃ (s1 : Nat), ∃ (v1 : Nat), v9 = some (.int (nI (0))) ∧ (s = nI s1) ∧ (1 ≤ s1) ∧ (s1 ≤ 5) ∧ (v = nI v1) ∧ (0 ≤ v1) ∧ (v1 ≤ 100000000) ∧ σ2 294 = q_ln G 1 (va_up oL 0 ((nI (s_gX s1 b v1)).toInt64)) ∧ (∀ i : Nat, i ≠ 294 → σ2 i = σ i)) ∨ (v9 = some (.int (nI (1))) ∧ (∀ j : Nat, 1 ≤ j → j ≤ 5 → s = nI j → False) ∧ σ2 = σ) ∨ (v9 = some (.int (nI (1))) ∧ (∃ s1 : Nat, s = nI s1 ∧ 1 ≤ s1 ∧ s1 ≤ 5 ∧ ∀ j : Nat, 0 ≤ j → j ≤ 100000000 → v = nI j → False) ∧ σ2 = σ)) := by
  refine q_enterH [some (.ref (q_h G + 0)), some (.int (s)), some (.int (v)), some (.int (q_b (b))), some (.ref (q_h G + 294)), none] (by decide) (Nat.le_of_ble_eq_true rfl) rfl ?_
  intro K hg
  obtain ⟨Q, hQ⟩ : ∃ Q, Q = q_Q G K false n 2 12 (fun v9 n' σ' => n' = n ∧ (fun v9 σ2 => (∃ (s1 : Nat), ∃ (v1 : Nat), v9 = some (.int (nI (0))) ∧ (s = nI s1) ∧ (1 ≤ s1) ∧ (s1 ≤ 5) ∧ (v = nI v1) ∧ (0 ≤ v1) ∧ (v1 ≤ 100000000) ∧ σ2 294 = q_ln G 1 (va_up oL 0 ((nI (s_gX s1 b v1)).toInt64)) ∧ (∀ i : Nat, i ≠ 294 → σ2 i = σ i)) ∨ (v9 = some (.int (nI (1))) ∧ (∀ j : Nat, 1 ≤ j → j ≤ 5 → s = nI j → False) ∧ σ2 = σ) ∨ (v9 = some (.int (nI (1))) ∧ (∃ s1 : Nat, s = nI s1 ∧ 1 ≤ s1 ∧ s1 ≤ 5 ∧ ∀ j : Nat, 0 ≤ j → j ≤ 100000000 → v = nI j → False) ∧ σ2 = σ)) v9 σ') q_noX := ⟨_, rfl⟩
  refine (?_ : AJ G K (q_Q G K false n 2 12 _ _) 0 0 false n 0 _ _ σ)
  rw [← hQ]
  refine A_aload hg dL_golden_0 rfl ?_
  refine A_iconst (v := (nI (0))) hg dL_golden_2 (by decide) ?_
  refine A_aload_n hg dL_golden_3 rfl rfl ?_
  refine A_iload_n hg dL_golden_4 rfl rfl ?_
  refine A_iload_n hg dL_golden_5 rfl rfl ?_
  refine A_iload_n hg dL_golden_6 rfl rfl ?_
  refine A_pVX (kc2 := 2) (ks2 := 12) (As := [.int (s), .int (v), .int (q_b (b))]) (rest := [.int (nI (0)), .ref (q_h G + 294)]) hg lk_RL_60 in_X10_golden se_X10_golden rfl dL_golden_7 ⟨by decide, by decide⟩ rfl rfl ⟨by decide, by decide⟩ hc0 (by omega) rfl rfl (Nat.le_of_ble_eq_true rfl) (c_X10_golden G false n σ z1 z2 z3 s v b hc0 (by omega)) ?_ ?_
  · skip
    intro E σx hx
    obtain ⟨hs9, hx⟩ := hx
    rw [hs9]
    rcases hx with ⟨rfl, h0⟩ | ⟨rfl, h0⟩
    · skip
      refine A_caught hg [] [] rfl (by decide) (by decide) clk_13 cst_13 (fun z hz => nomatch hz) (fun q9 => ?_)
      refine A_astore hg dL_golden_15 (by decide) (q_c1d rfl) ?_
      refine A_eq (ls2 := [some (.ref (q_h G + 0)), some (.int (s)), some (.int (v)), some (.int (q_b (b))), some (.ref (q_h G + 294)), some (.ref q9)]) (st2 := []) (pc2 := 0) rfl rfl ?_
      refine A_iconst (v := (nI (1))) hg dL_golden_17 (by decide) ?_
      rw [hQ]
      exact A_ireturn hg (by decide) (by decide) rfl dL_golden_18 ⟨rfl, Or.inr (Or.inl (⟨rfl, h0, rfl⟩))⟩
    · skip
      refine A_caught hg [] [] rfl (by decide) (by decide) clk_13 cst_13 (fun z hz => nomatch hz) (fun q9 => ?_)
      refine A_astore hg dL_golden_15 (by decide) (q_c1d rfl) ?_
      refine A_eq (ls2 := [some (.ref (q_h G + 0)), some (.int (s)), some (.int (v)), some (.int (q_b (b))), some (.ref (q_h G + 294)), some (.ref q9)]) (st2 := []) (pc2 := 0) rfl rfl ?_
      refine A_iconst (v := (nI (1))) hg dL_golden_17 (by decide) ?_
      rw [hQ]
      exact A_ireturn hg (by decide) (by decide) rfl dL_golden_18 ⟨rfl, Or.inr (Or.inr ((⟨rfl, h0, rfl⟩)))⟩
  rintro _ ⟨s1, v1, rfl, hse, hsa, hsl, hve, hva, hvl⟩
  refine (?_ : AJ G K Q 2 12 false n 10 [some (.ref (q_h G + 0)), some (.int (s)), some (.int (v)), some (.int (q_b (b))), some (.ref (q_h G + 294)), none] [.int (nI (s_gX s1 b v1)), .int (nI (0)), .ref (q_h G + 294)] σ)
  refine A_i2l (v := (nI (s_gX s1 b v1)).toInt64) hg dL_golden_10 rfl ?_
  refine A_last (j := 0) (x := ((nI (s_gX s1 b v1)).toInt64)) hg dL_golden_11 hc1 (by omega) (by omega) (by decide) (fun σ_1 hc_2 hf_3 => ?_)
  have hc_4 : σ_1 0 = o10 G (z1) (z2) (z3) := (hf_3 _ (by omega)).trans hc0
  refine A_goto (tgt := 19) hg dL_golden_12 (by decide) ?_
  refine A_iconst (v := (nI (0))) hg dL_golden_19 (by decide) ?_
  rw [hQ]
  exact A_ireturn hg (by decide) (by decide) rfl dL_golden_20 ⟨rfl, Or.inl (⟨s1, v1, rfl, hse, hsa, hsl, hve, hva, hvl, hc_2, (fun i hi => (hf_3 i (by omega)))⟩)⟩
set_option maxRecDepth 100000 in
set_option maxHeartbeats 4000000 in
theorem c_L_goldenOf (G : GL) (n : Nat) (σ : Nat → va_E) (z1 : Int32) (z2 : Int32) (z3 : Int32) (s : Int32) (v : Int32) (oL : Nat → Int64) (hc0 : σ 0 = o10 G (z1) (z2) (z3)) (hc1 : σ 294 = q_ln G 1 oL) (hn9 : 279 ≤ n) (h295n : 294 < n) : CtH G yL_goldenOf cL_goldenOf 5 (some .int) [(0, 10, 13, 13)] ⟨8, 2, 12, 136⟩ [.ref (q_h G + 0), .int (s), .int (v), .ref (q_h G + 294)] n σ (fun v9 σ2 => (∃ (s1 : Nat), ∃ (v1 : Nat), v9 = some (.int (nI (0))) ∧ (s = nI s1) ∧ (1 ≤ s1) ∧ (s1 ≤ 5) ∧ (v = nI v1) ∧ (1 ≤ v1) ∧ (v1 ≤ 500000000) ∧ σ2 294 = q_ln G 1 (va_up oL 0 ((nI (s_gOf s1 v1)).toInt64)) ∧ (∀ i : Nat, i ≠ 294 → σ2 i = σ i)) ∨ (v9 = some (.int (nI (1))) ∧ (∀ j : Nat, 1 ≤ j → j ≤ 5 → s = nI j → False) ∧ σ2 = σ) ∨ (v9 = some (.int (nI (1))) ∧ (∃ s1 : Nat, s = nI s1 ∧ 1 ≤ s1 ∧ s1 ≤ 5 ∧ ∀ j : Nat, 1 ≤ j → j ≤ 500000000 → v = nI j → False) ∧ σ2 = σ)) := by
  refine q_enterH [some (.ref (q_h G + 0)), some (.int (s)), some (.int (v)), some (.ref (q_h G + 294)), none] (by decide) (Nat.le_of_ble_eq_true rfl) rfl ?_
  intro K hg
  obtain ⟨Q, hQ⟩ : ∃ Q, Q = q_Q G K false n 2 12 (fun v9 n' σ' => n' = n ∧ (fun v9 σ2 => (∃ (s1 : Nat), ∃ (v1 : Nat), v9 = some (.int (nI (0))) ∧ (s = nI s1) ∧ (1 ≤ s1) ∧ (s1 ≤ 5) ∧ (v = nI v1) ∧ (1 ≤ v1) ∧ (v1 ≤ 500000000) ∧ σ2 294 = q_ln G 1 (va_up oL 0 ((nI (s_gOf s1 v1)).toInt64)) ∧ (∀ i : Nat, i ≠ 294 → σ2 i = σ i)) ∨ (v9 = some (.int (nI (1))) ∧ (∀ j : Nat, 1 ≤ j → j ≤ 5 → s = nI j → False) ∧ σ2 = σ) ∨ (v9 = some (.int (nI (1))) ∧ (∃ s1 : Nat, s = nI s1 ∧ 1 ≤ s1 ∧ s1 ≤ 5 ∧ ∀ j : Nat, 1 ≤ j → j ≤ 500000000 → v = nI j → False) ∧ σ2 = σ)) v9 σ') q_noX := ⟨_, rfl⟩
  refine (?_ : AJ G K (q_Q G K false n 2 12 _ _) 0 0 false n 0 _ _ σ)
  rw [← hQ]
  refine A_aload_n hg dL_goldenOf_0 rfl rfl ?_
  refine A_iconst (v := (nI (0))) hg dL_goldenOf_1 (by decide) ?_
  refine A_aload_n hg dL_goldenOf_2 rfl rfl ?_
  refine A_iload_n hg dL_goldenOf_3 rfl rfl ?_
  refine A_iload_n hg dL_goldenOf_4 rfl rfl ?_
  refine A_pVX (kc2 := 2) (ks2 := 12) (As := [.int (s), .int (v)]) (rest := [.int (nI (0)), .ref (q_h G + 294)]) hg lk_RL_63 in_X10_goldenOf se_X10_goldenOf rfl dL_goldenOf_5 ⟨by decide, by decide⟩ rfl rfl ⟨by decide, by decide⟩ hc0 (by omega) rfl rfl (Nat.le_of_ble_eq_true rfl) (c_X10_goldenOf G false n σ z1 z2 z3 s v hc0 (by omega)) ?_ ?_
  · skip
    intro E σx hx
    obtain ⟨hs9, hx⟩ := hx
    rw [hs9]
    rcases hx with ⟨rfl, h0⟩ | ⟨rfl, h0⟩
    · skip
      refine A_caught hg [] [] rfl (by decide) (by decide) clk_13 cst_13 (fun z hz => nomatch hz) (fun q9 => ?_)
      refine A_astore hg dL_goldenOf_13 (by decide) (q_c1d rfl) ?_
      refine A_eq (ls2 := [some (.ref (q_h G + 0)), some (.int (s)), some (.int (v)), some (.ref (q_h G + 294)), some (.ref q9)]) (st2 := []) (pc2 := 0) rfl rfl ?_
      refine A_iconst (v := (nI (1))) hg dL_goldenOf_15 (by decide) ?_
      rw [hQ]
      exact A_ireturn hg (by decide) (by decide) rfl dL_goldenOf_16 ⟨rfl, Or.inr (Or.inl (⟨rfl, h0, rfl⟩))⟩
    · skip
      refine A_caught hg [] [] rfl (by decide) (by decide) clk_13 cst_13 (fun z hz => nomatch hz) (fun q9 => ?_)
      refine A_astore hg dL_goldenOf_13 (by decide) (q_c1d rfl) ?_
      refine A_eq (ls2 := [some (.ref (q_h G + 0)), some (.int (s)), some (.int (v)), some (.ref (q_h G + 294)), some (.ref q9)]) (st2 := []) (pc2 := 0) rfl rfl ?_
      refine A_iconst (v := (nI (1))) hg dL_goldenOf_15 (by decide) ?_
      rw [hQ]
      exact A_ireturn hg (by decide) (by decide) rfl dL_goldenOf_16 ⟨rfl, Or.inr (Or.inr ((⟨rfl, h0, rfl⟩)))⟩
  rintro _ ⟨s1, v1, rfl, hse, hsa, hsl, hve, hva, hvl⟩
  refine (?_ : AJ G K Q 2 12 false n 8 [some (.ref (q_h G + 0)), some (.int (s)), some (.int (v)), some (.ref (q_h G + 294)), none] [.int (nI (s_gOf s1 v1)), .int (nI (0)), .ref (q_h G + 294)] σ)
  refine A_i2l (v := (nI (s_gOf s1 v1)).toInt64) hg dL_goldenOf_8 rfl ?_
  refine A_last (j := 0) (x := ((nI (s_gOf s1 v1)).toInt64)) hg dL_goldenOf_9 hc1 (by omega) (by omega) (by decide) (fun σ_1 hc_2 hf_3 => ?_)
  have hc_4 : σ_1 0 = o10 G (z1) (z2) (z3) := (hf_3 _ (by omega)).trans hc0
  refine A_goto (tgt := 17) hg dL_goldenOf_10 (by decide) ?_
  refine A_iconst (v := (nI (0))) hg dL_goldenOf_17 (by decide) ?_
  rw [hQ]
  exact A_ireturn hg (by decide) (by decide) rfl dL_goldenOf_18 ⟨rfl, Or.inl (⟨s1, v1, rfl, hse, hsa, hsl, hve, hva, hvl, hc_2, (fun i hi => (hf_3 i (by omega)))⟩)⟩
set_option maxRecDepth 100000 in
set_option maxHeartbeats 4000000 in
theorem c_L_goldenPartner (G : GL) (n : Nat) (σ : Nat → va_E) (z1 : Int32) (z2 : Int32) (z3 : Int32) (s : Int32) (v : Int32) (oL : Nat → Int64) (hc0 : σ 0 = o10 G (z1) (z2) (z3)) (hc1 : σ 294 = q_ln G 1 oL) (hn9 : 279 ≤ n) (h295n : 294 < n) : CtH G yL_goldenPartner cL_goldenPartner 5 (some .int) [(0, 9, 12, 13)] ⟨8, 2, 12, 136⟩ [.ref (q_h G + 0), .int (s), .int (v), .ref (q_h G + 294)] n σ (fun v9 σ2 => (∃ (s1 : Nat), ∃ (v1 : Nat), v9 = some (.int (nI (0))) ∧ (s = nI s1) ∧ (1 ≤ s1) ∧ (s1 ≤ 5) ∧ (v = nI v1) ∧ (1 ≤ v1) ∧ (v1 ≤ 500000000) ∧ σ2 294 = q_ln G 1 (va_up oL 0 (lN (s_gPt s1 v1))) ∧ (∀ i : Nat, i ≠ 294 → σ2 i = σ i)) ∨ (v9 = some (.int (nI (1))) ∧ (∀ j : Nat, 1 ≤ j → j ≤ 5 → s = nI j → False) ∧ σ2 = σ) ∨ (v9 = some (.int (nI (1))) ∧ (∃ s1 : Nat, s = nI s1 ∧ 1 ≤ s1 ∧ s1 ≤ 5 ∧ ∀ j : Nat, 1 ≤ j → j ≤ 500000000 → v = nI j → False) ∧ σ2 = σ)) := by
  refine q_enterH [some (.ref (q_h G + 0)), some (.int (s)), some (.int (v)), some (.ref (q_h G + 294)), none] (by decide) (Nat.le_of_ble_eq_true rfl) rfl ?_
  intro K hg
  obtain ⟨Q, hQ⟩ : ∃ Q, Q = q_Q G K false n 2 12 (fun v9 n' σ' => n' = n ∧ (fun v9 σ2 => (∃ (s1 : Nat), ∃ (v1 : Nat), v9 = some (.int (nI (0))) ∧ (s = nI s1) ∧ (1 ≤ s1) ∧ (s1 ≤ 5) ∧ (v = nI v1) ∧ (1 ≤ v1) ∧ (v1 ≤ 500000000) ∧ σ2 294 = q_ln G 1 (va_up oL 0 (lN (s_gPt s1 v1))) ∧ (∀ i : Nat, i ≠ 294 → σ2 i = σ i)) ∨ (v9 = some (.int (nI (1))) ∧ (∀ j : Nat, 1 ≤ j → j ≤ 5 → s = nI j → False) ∧ σ2 = σ) ∨ (v9 = some (.int (nI (1))) ∧ (∃ s1 : Nat, s = nI s1 ∧ 1 ≤ s1 ∧ s1 ≤ 5 ∧ ∀ j : Nat, 1 ≤ j → j ≤ 500000000 → v = nI j → False) ∧ σ2 = σ)) v9 σ') q_noX := ⟨_, rfl⟩
  refine (?_ : AJ G K (q_Q G K false n 2 12 _ _) 0 0 false n 0 _ _ σ)
  rw [← hQ]
  refine A_aload_n hg dL_goldenPartner_0 rfl rfl ?_
  refine A_iconst (v := (nI (0))) hg dL_goldenPartner_1 (by decide) ?_
  refine A_aload_n hg dL_goldenPartner_2 rfl rfl ?_
  refine A_iload_n hg dL_goldenPartner_3 rfl rfl ?_
  refine A_iload_n hg dL_goldenPartner_4 rfl rfl ?_
  refine A_pVX (kc2 := 2) (ks2 := 12) (As := [.int (s), .int (v)]) (rest := [.int (nI (0)), .ref (q_h G + 294)]) hg lk_RL_66 in_X10_goldenPartner se_X10_goldenPartner rfl dL_goldenPartner_5 ⟨by decide, by decide⟩ rfl rfl ⟨by decide, by decide⟩ hc0 (by omega) rfl rfl (Nat.le_of_ble_eq_true rfl) (c_X10_goldenPartner G false n σ z1 z2 z3 s v hc0 (by omega)) ?_ ?_
  · skip
    intro E σx hx
    obtain ⟨hs9, hx⟩ := hx
    rw [hs9]
    rcases hx with ⟨rfl, h0⟩ | ⟨rfl, h0⟩
    · skip
      refine A_caught hg [] [] rfl (by decide) (by decide) clk_13 cst_13 (fun z hz => nomatch hz) (fun q9 => ?_)
      refine A_astore hg dL_goldenPartner_12 (by decide) (q_c1d rfl) ?_
      refine A_eq (ls2 := [some (.ref (q_h G + 0)), some (.int (s)), some (.int (v)), some (.ref (q_h G + 294)), some (.ref q9)]) (st2 := []) (pc2 := 0) rfl rfl ?_
      refine A_iconst (v := (nI (1))) hg dL_goldenPartner_14 (by decide) ?_
      rw [hQ]
      exact A_ireturn hg (by decide) (by decide) rfl dL_goldenPartner_15 ⟨rfl, Or.inr (Or.inl (⟨rfl, h0, rfl⟩))⟩
    · skip
      refine A_caught hg [] [] rfl (by decide) (by decide) clk_13 cst_13 (fun z hz => nomatch hz) (fun q9 => ?_)
      refine A_astore hg dL_goldenPartner_12 (by decide) (q_c1d rfl) ?_
      refine A_eq (ls2 := [some (.ref (q_h G + 0)), some (.int (s)), some (.int (v)), some (.ref (q_h G + 294)), some (.ref q9)]) (st2 := []) (pc2 := 0) rfl rfl ?_
      refine A_iconst (v := (nI (1))) hg dL_goldenPartner_14 (by decide) ?_
      rw [hQ]
      exact A_ireturn hg (by decide) (by decide) rfl dL_goldenPartner_15 ⟨rfl, Or.inr (Or.inr ((⟨rfl, h0, rfl⟩)))⟩
  rintro _ ⟨s1, v1, rfl, hse, hsa, hsl, hve, hva, hvl⟩
  refine (?_ : AJ G K Q 2 12 false n 8 [some (.ref (q_h G + 0)), some (.int (s)), some (.int (v)), some (.ref (q_h G + 294)), none] [.long (lN (s_gPt s1 v1)), .int (nI (0)), .ref (q_h G + 294)] σ)
  refine A_last (j := 0) (x := (lN (s_gPt s1 v1))) hg dL_goldenPartner_8 hc1 (by omega) (by omega) (by decide) (fun σ_1 hc_2 hf_3 => ?_)
  have hc_4 : σ_1 0 = o10 G (z1) (z2) (z3) := (hf_3 _ (by omega)).trans hc0
  refine A_goto (tgt := 16) hg dL_goldenPartner_9 (by decide) ?_
  refine A_iconst (v := (nI (0))) hg dL_goldenPartner_16 (by decide) ?_
  rw [hQ]
  exact A_ireturn hg (by decide) (by decide) rfl dL_goldenPartner_17 ⟨rfl, Or.inl (⟨s1, v1, rfl, hse, hsa, hsl, hve, hva, hvl, hc_2, (fun i hi => (hf_3 i (by omega)))⟩)⟩
set_option maxRecDepth 100000 in
set_option maxHeartbeats 4000000 in
theorem c_L_goldenMany (G : GL) (n : Nat) (σ : Nat → va_E) (z1 : Int32) (z2 : Int32) (z3 : Int32) (s : Int32) (v : Int32) (oL : Nat → Int64) (hc0 : σ 0 = o10 G (z1) (z2) (z3)) (hc1 : σ 294 = q_ln G 1 oL) (hn9 : 279 ≤ n) (h295n : 294 < n) : CtH G yL_goldenMany cL_goldenMany 5 (some .int) [(0, 10, 13, 13)] ⟨8, 2, 12, 134⟩ [.ref (q_h G + 0), .int (s), .int (v), .ref (q_h G + 294)] n σ (fun v9 σ2 => (∃ (s1 : Nat), ∃ (v1 : Nat), v9 = some (.int (nI (0))) ∧ (s = nI s1) ∧ (1 ≤ s1) ∧ (s1 ≤ 5) ∧ (v = nI v1) ∧ (0 ≤ v1) ∧ (v1 ≤ 500000000) ∧ σ2 294 = q_ln G 1 (va_up oL 0 ((nI (s_li s1 true v1)).toInt64)) ∧ (∀ i : Nat, i ≠ 294 → σ2 i = σ i)) ∨ (v9 = some (.int (nI (1))) ∧ (∀ j : Nat, 1 ≤ j → j ≤ 5 → s = nI j → False) ∧ σ2 = σ) ∨ (v9 = some (.int (nI (1))) ∧ (∃ s1 : Nat, s = nI s1 ∧ 1 ≤ s1 ∧ s1 ≤ 5 ∧ ∀ j : Nat, 0 ≤ j → j ≤ 500000000 → v = nI j → False) ∧ σ2 = σ)) := by
  refine q_enterH [some (.ref (q_h G + 0)), some (.int (s)), some (.int (v)), some (.ref (q_h G + 294)), none] (by decide) (Nat.le_of_ble_eq_true rfl) rfl ?_
  intro K hg
  obtain ⟨Q, hQ⟩ : ∃ Q, Q = q_Q G K false n 2 12 (fun v9 n' σ' => n' = n ∧ (fun v9 σ2 => (∃ (s1 : Nat), ∃ (v1 : Nat), v9 = some (.int (nI (0))) ∧ (s = nI s1) ∧ (1 ≤ s1) ∧ (s1 ≤ 5) ∧ (v = nI v1) ∧ (0 ≤ v1) ∧ (v1 ≤ 500000000) ∧ σ2 294 = q_ln G 1 (va_up oL 0 ((nI (s_li s1 true v1)).toInt64)) ∧ (∀ i : Nat, i ≠ 294 → σ2 i = σ i)) ∨ (v9 = some (.int (nI (1))) ∧ (∀ j : Nat, 1 ≤ j → j ≤ 5 → s = nI j → False) ∧ σ2 = σ) ∨ (v9 = some (.int (nI (1))) ∧ (∃ s1 : Nat, s = nI s1 ∧ 1 ≤ s1 ∧ s1 ≤ 5 ∧ ∀ j : Nat, 0 ≤ j → j ≤ 500000000 → v = nI j → False) ∧ σ2 = σ)) v9 σ') q_noX := ⟨_, rfl⟩
  refine (?_ : AJ G K (q_Q G K false n 2 12 _ _) 0 0 false n 0 _ _ σ)
  rw [← hQ]
  refine A_aload_n hg dL_goldenMany_0 rfl rfl ?_
  refine A_iconst (v := (nI (0))) hg dL_goldenMany_1 (by decide) ?_
  refine A_aload_n hg dL_goldenMany_2 rfl rfl ?_
  refine A_iload_n hg dL_goldenMany_3 rfl rfl ?_
  refine A_iload_n hg dL_goldenMany_4 rfl rfl ?_
  refine A_pVX (kc2 := 2) (ks2 := 12) (As := [.int (s), .int (v)]) (rest := [.int (nI (0)), .ref (q_h G + 294)]) hg lk_RL_70 in_X10_goldenMany se_X10_goldenMany rfl dL_goldenMany_5 ⟨by decide, by decide⟩ rfl rfl ⟨by decide, by decide⟩ hc0 (by omega) rfl rfl (Nat.le_of_ble_eq_true rfl) (c_X10_goldenMany G false n σ z1 z2 z3 s v hc0 (by omega)) ?_ ?_
  · skip
    intro E σx hx
    obtain ⟨hs9, hx⟩ := hx
    rw [hs9]
    rcases hx with ⟨rfl, h0⟩ | ⟨rfl, h0⟩
    · skip
      refine A_caught hg [] [] rfl (by decide) (by decide) clk_13 cst_13 (fun z hz => nomatch hz) (fun q9 => ?_)
      refine A_astore hg dL_goldenMany_13 (by decide) (q_c1d rfl) ?_
      refine A_eq (ls2 := [some (.ref (q_h G + 0)), some (.int (s)), some (.int (v)), some (.ref (q_h G + 294)), some (.ref q9)]) (st2 := []) (pc2 := 0) rfl rfl ?_
      refine A_iconst (v := (nI (1))) hg dL_goldenMany_15 (by decide) ?_
      rw [hQ]
      exact A_ireturn hg (by decide) (by decide) rfl dL_goldenMany_16 ⟨rfl, Or.inr (Or.inl (⟨rfl, h0, rfl⟩))⟩
    · skip
      refine A_caught hg [] [] rfl (by decide) (by decide) clk_13 cst_13 (fun z hz => nomatch hz) (fun q9 => ?_)
      refine A_astore hg dL_goldenMany_13 (by decide) (q_c1d rfl) ?_
      refine A_eq (ls2 := [some (.ref (q_h G + 0)), some (.int (s)), some (.int (v)), some (.ref (q_h G + 294)), some (.ref q9)]) (st2 := []) (pc2 := 0) rfl rfl ?_
      refine A_iconst (v := (nI (1))) hg dL_goldenMany_15 (by decide) ?_
      rw [hQ]
      exact A_ireturn hg (by decide) (by decide) rfl dL_goldenMany_16 ⟨rfl, Or.inr (Or.inr ((⟨rfl, h0, rfl⟩)))⟩
  rintro _ ⟨s1, v1, rfl, hse, hsa, hsl, hve, hva, hvl⟩
  refine (?_ : AJ G K Q 2 12 false n 8 [some (.ref (q_h G + 0)), some (.int (s)), some (.int (v)), some (.ref (q_h G + 294)), none] [.int (nI (s_li s1 true v1)), .int (nI (0)), .ref (q_h G + 294)] σ)
  refine A_i2l (v := (nI (s_li s1 true v1)).toInt64) hg dL_goldenMany_8 rfl ?_
  refine A_last (j := 0) (x := ((nI (s_li s1 true v1)).toInt64)) hg dL_goldenMany_9 hc1 (by omega) (by omega) (by decide) (fun σ_1 hc_2 hf_3 => ?_)
  have hc_4 : σ_1 0 = o10 G (z1) (z2) (z3) := (hf_3 _ (by omega)).trans hc0
  refine A_goto (tgt := 17) hg dL_goldenMany_10 (by decide) ?_
  refine A_iconst (v := (nI (0))) hg dL_goldenMany_17 (by decide) ?_
  rw [hQ]
  exact A_ireturn hg (by decide) (by decide) rfl dL_goldenMany_18 ⟨rfl, Or.inl (⟨s1, v1, rfl, hse, hsa, hsl, hve, hva, hvl, hc_2, (fun i hi => (hf_3 i (by omega)))⟩)⟩
set_option maxRecDepth 100000 in
set_option maxHeartbeats 4000000 in
theorem c_L_summand (G : GL) (n : Nat) (σ : Nat → va_E) (z1 : Int32) (z2 : Int32) (z3 : Int32) (v : Int32) (x : Int32) (oL : Nat → Int64) (hc0 : σ 0 = o10 G (z1) (z2) (z3)) (hc1 : σ 294 = q_ln G 1 oL) (hn9 : 279 ≤ n) (h295n : 294 < n) : CtH G yL_summand cL_summand 5 (some .int) [(0, 10, 13, 13)] ⟨8, 1, 6, 137⟩ [.ref (q_h G + 0), .int (v), .int (x), .ref (q_h G + 294)] n σ (fun v9 σ2 => (∃ (v1 : Nat), ∃ (x1 : Nat), v9 = some (.int (nI (0))) ∧ (v = nI v1) ∧ (1 ≤ v1) ∧ (v1 ≤ 500000000) ∧ (x = nI x1) ∧ (x1 < s_sn v1) ∧ σ2 294 = q_ln G 1 (va_up oL 0 ((nI (s_gf (s_rs v1 x1))).toInt64)) ∧ (∀ i : Nat, i ≠ 294 → σ2 i = σ i)) ∨ (∃ (v1 : Nat), v9 = some (.int (nI (0))) ∧ (v = nI v1) ∧ (1 ≤ v1) ∧ (v1 ≤ 500000000) ∧ (∀ j : Nat, j < s_sn v1 → x = nI j → False) ∧ σ2 294 = q_ln G 1 (va_up oL 0 ((q_d (0)).toInt64)) ∧ (∀ i : Nat, i ≠ 294 → σ2 i = σ i)) ∨ (v9 = some (.int (nI (1))) ∧ (∀ j : Nat, 1 ≤ j → j ≤ 500000000 → v = nI j → False) ∧ σ2 = σ)) := by
  refine q_enterH [some (.ref (q_h G + 0)), some (.int (v)), some (.int (x)), some (.ref (q_h G + 294)), none] (by decide) (Nat.le_of_ble_eq_true rfl) rfl ?_
  intro K hg
  obtain ⟨Q, hQ⟩ : ∃ Q, Q = q_Q G K false n 1 6 (fun v9 n' σ' => n' = n ∧ (fun v9 σ2 => (∃ (v1 : Nat), ∃ (x1 : Nat), v9 = some (.int (nI (0))) ∧ (v = nI v1) ∧ (1 ≤ v1) ∧ (v1 ≤ 500000000) ∧ (x = nI x1) ∧ (x1 < s_sn v1) ∧ σ2 294 = q_ln G 1 (va_up oL 0 ((nI (s_gf (s_rs v1 x1))).toInt64)) ∧ (∀ i : Nat, i ≠ 294 → σ2 i = σ i)) ∨ (∃ (v1 : Nat), v9 = some (.int (nI (0))) ∧ (v = nI v1) ∧ (1 ≤ v1) ∧ (v1 ≤ 500000000) ∧ (∀ j : Nat, j < s_sn v1 → x = nI j → False) ∧ σ2 294 = q_ln G 1 (va_up oL 0 ((q_d (0)).toInt64)) ∧ (∀ i : Nat, i ≠ 294 → σ2 i = σ i)) ∨ (v9 = some (.int (nI (1))) ∧ (∀ j : Nat, 1 ≤ j → j ≤ 500000000 → v = nI j → False) ∧ σ2 = σ)) v9 σ') q_noX := ⟨_, rfl⟩
  refine (?_ : AJ G K (q_Q G K false n 1 6 _ _) 0 0 false n 0 _ _ σ)
  rw [← hQ]
  refine A_aload_n hg dL_summand_0 rfl rfl ?_
  refine A_iconst (v := (nI (0))) hg dL_summand_1 (by decide) ?_
  refine A_aload_n hg dL_summand_2 rfl rfl ?_
  refine A_iload_n hg dL_summand_3 rfl rfl ?_
  refine A_iload_n hg dL_summand_4 rfl rfl ?_
  refine A_hVX (kc2 := 1) (ks2 := 6) (As := [.int (v), .int (x)]) (rest := [.int (nI (0)), .ref (q_h G + 294)]) hg lk_RL_73 in_X10_summand se_X10_summand rfl dL_summand_5 ⟨by decide, by decide⟩ rfl rfl ⟨by decide, by decide⟩ hc0 (by omega) rfl rfl (Nat.le_of_ble_eq_true rfl) (c_X10_summand G false n σ z1 z2 z3 v x hc0 (by omega)) ?_ ?_
  · skip
    intro E σx hx
    obtain ⟨hs9, hx⟩ := hx
    rw [hs9]
    obtain ⟨rfl, h0⟩ := hx
    refine A_caught hg [] [] rfl (by decide) (by decide) clk_13 cst_13 (fun z hz => nomatch hz) (fun q9 => ?_)
    refine A_astore hg dL_summand_13 (by decide) (q_c1d rfl) ?_
    refine A_eq (ls2 := [some (.ref (q_h G + 0)), some (.int (v)), some (.int (x)), some (.ref (q_h G + 294)), some (.ref q9)]) (st2 := []) (pc2 := 0) rfl rfl ?_
    refine A_iconst (v := (nI (1))) hg dL_summand_15 (by decide) ?_
    rw [hQ]
    exact A_ireturn hg (by decide) (by decide) rfl dL_summand_16 ⟨rfl, Or.inr (Or.inr ((⟨rfl, h0, rfl⟩)))⟩
  rintro _ σ_3 (⟨v1, x1, rfl, hve, hva, hvl, hxe, hxl, he_1⟩ | ⟨v1, rfl, hve, hva, hvl, hxn, he_2⟩)
  · skip
    rw [he_1]
    refine (?_ : AJ G K Q 1 6 false n 8 [some (.ref (q_h G + 0)), some (.int (v)), some (.int (x)), some (.ref (q_h G + 294)), none] [.int (nI (s_gf (s_rs v1 x1))), .int (nI (0)), .ref (q_h G + 294)] σ)
    refine A_i2l (v := (nI (s_gf (s_rs v1 x1))).toInt64) hg dL_summand_8 rfl ?_
    refine A_last (j := 0) (x := ((nI (s_gf (s_rs v1 x1))).toInt64)) hg dL_summand_9 hc1 (by omega) (by omega) (by decide) (fun σ_4 hc_5 hf_6 => ?_)
    have hc_7 : σ_4 0 = o10 G (z1) (z2) (z3) := (hf_6 _ (by omega)).trans hc0
    refine A_goto (tgt := 17) hg dL_summand_10 (by decide) ?_
    refine A_iconst (v := (nI (0))) hg dL_summand_17 (by decide) ?_
    rw [hQ]
    exact A_ireturn hg (by decide) (by decide) rfl dL_summand_18 ⟨rfl, Or.inl (⟨v1, x1, rfl, hve, hva, hvl, hxe, hxl, hc_5, (fun i hi => (hf_6 i (by omega)))⟩)⟩
  · skip
    rw [he_2]
    refine (?_ : AJ G K Q 1 6 false n 8 [some (.ref (q_h G + 0)), some (.int (v)), some (.int (x)), some (.ref (q_h G + 294)), none] [.int (q_d (0)), .int (nI (0)), .ref (q_h G + 294)] σ)
    refine A_i2l (v := (q_d (0)).toInt64) hg dL_summand_8 rfl ?_
    refine A_last (j := 0) (x := ((q_d (0)).toInt64)) hg dL_summand_9 hc1 (by omega) (by omega) (by decide) (fun σ_8 hc_9 hf_10 => ?_)
    have hc_11 : σ_8 0 = o10 G (z1) (z2) (z3) := (hf_10 _ (by omega)).trans hc0
    refine A_goto (tgt := 17) hg dL_summand_10 (by decide) ?_
    refine A_iconst (v := (nI (0))) hg dL_summand_17 (by decide) ?_
    rw [hQ]
    exact A_ireturn hg (by decide) (by decide) rfl dL_summand_18 ⟨rfl, Or.inr (Or.inl (⟨v1, rfl, hve, hva, hvl, hxn, hc_9, (fun i hi => (hf_10 i (by omega)))⟩))⟩
set_option maxRecDepth 100000 in
set_option maxHeartbeats 4000000 in
theorem c_L_leastPlace (G : GL) (n : Nat) (σ : Nat → va_E) (z1 : Int32) (z2 : Int32) (z3 : Int32) (v : Int32) (oL : Nat → Int64) (hc0 : σ 0 = o10 G (z1) (z2) (z3)) (hc1 : σ 294 = q_ln G 1 oL) (hn9 : 279 ≤ n) (h295n : 294 < n) : CtH G yL_leastPlace cL_leastPlace 4 (some .int) [(0, 9, 12, 13)] ⟨8, 1, 6, 136⟩ [.ref (q_h G + 0), .int (v), .ref (q_h G + 294)] n σ (fun v9 σ2 => (∃ (v1 : Nat), v9 = some (.int (nI (0))) ∧ (v = nI v1) ∧ (1 ≤ v1) ∧ (v1 ≤ 500000000) ∧ σ2 294 = q_ln G 1 (va_up oL 0 ((nI (s_gi (s_rs v1 (s_sn v1 - 1)))).toInt64)) ∧ (∀ i : Nat, i ≠ 294 → σ2 i = σ i)) ∨ (v9 = some (.int (nI (1))) ∧ (∀ j : Nat, 1 ≤ j → j ≤ 500000000 → v = nI j → False) ∧ σ2 = σ)) := by
  refine q_enterH [some (.ref (q_h G + 0)), some (.int (v)), some (.ref (q_h G + 294)), none] (by decide) (Nat.le_of_ble_eq_true rfl) rfl ?_
  intro K hg
  obtain ⟨Q, hQ⟩ : ∃ Q, Q = q_Q G K false n 1 6 (fun v9 n' σ' => n' = n ∧ (fun v9 σ2 => (∃ (v1 : Nat), v9 = some (.int (nI (0))) ∧ (v = nI v1) ∧ (1 ≤ v1) ∧ (v1 ≤ 500000000) ∧ σ2 294 = q_ln G 1 (va_up oL 0 ((nI (s_gi (s_rs v1 (s_sn v1 - 1)))).toInt64)) ∧ (∀ i : Nat, i ≠ 294 → σ2 i = σ i)) ∨ (v9 = some (.int (nI (1))) ∧ (∀ j : Nat, 1 ≤ j → j ≤ 500000000 → v = nI j → False) ∧ σ2 = σ)) v9 σ') q_noX := ⟨_, rfl⟩
  refine (?_ : AJ G K (q_Q G K false n 1 6 _ _) 0 0 false n 0 _ _ σ)
  rw [← hQ]
  refine A_aload_n hg dL_leastPlace_0 rfl rfl ?_
  refine A_iconst (v := (nI (0))) hg dL_leastPlace_1 (by decide) ?_
  refine A_aload_n hg dL_leastPlace_2 rfl rfl ?_
  refine A_iload_n hg dL_leastPlace_3 rfl rfl ?_
  refine A_pVX (kc2 := 1) (ks2 := 6) (As := [.int (v)]) (rest := [.int (nI (0)), .ref (q_h G + 294)]) hg lk_RL_76 in_X10_leastPlace se_X10_leastPlace rfl dL_leastPlace_4 ⟨by decide, by decide⟩ rfl rfl ⟨by decide, by decide⟩ hc0 (by omega) rfl rfl (Nat.le_of_ble_eq_true rfl) (c_X10_leastPlace G false n σ z1 z2 z3 v hc0 (by omega)) ?_ ?_
  · skip
    intro E σx hx
    obtain ⟨hs9, hx⟩ := hx
    rw [hs9]
    obtain ⟨rfl, h0⟩ := hx
    refine A_caught hg [] [] rfl (by decide) (by decide) clk_13 cst_13 (fun z hz => nomatch hz) (fun q9 => ?_)
    refine A_astore_n hg dL_leastPlace_12 rfl (by decide) (q_c1d rfl) ?_
    refine A_eq (ls2 := [some (.ref (q_h G + 0)), some (.int (v)), some (.ref (q_h G + 294)), some (.ref q9)]) (st2 := []) (pc2 := 0) rfl rfl ?_
    refine A_iconst (v := (nI (1))) hg dL_leastPlace_13 (by decide) ?_
    rw [hQ]
    exact A_ireturn hg (by decide) (by decide) rfl dL_leastPlace_14 ⟨rfl, Or.inr ((⟨rfl, h0, rfl⟩))⟩
  rintro _ ⟨v1, rfl, hve, hva, hvl⟩
  refine (?_ : AJ G K Q 1 6 false n 7 [some (.ref (q_h G + 0)), some (.int (v)), some (.ref (q_h G + 294)), none] [.int (nI (s_gi (s_rs v1 (s_sn v1 - 1)))), .int (nI (0)), .ref (q_h G + 294)] σ)
  refine A_i2l (v := (nI (s_gi (s_rs v1 (s_sn v1 - 1)))).toInt64) hg dL_leastPlace_7 rfl ?_
  refine A_last (j := 0) (x := ((nI (s_gi (s_rs v1 (s_sn v1 - 1)))).toInt64)) hg dL_leastPlace_8 hc1 (by omega) (by omega) (by decide) (fun σ_1 hc_2 hf_3 => ?_)
  have hc_4 : σ_1 0 = o10 G (z1) (z2) (z3) := (hf_3 _ (by omega)).trans hc0
  refine A_goto (tgt := 15) hg dL_leastPlace_9 (by decide) ?_
  refine A_iconst (v := (nI (0))) hg dL_leastPlace_15 (by decide) ?_
  rw [hQ]
  exact A_ireturn hg (by decide) (by decide) rfl dL_leastPlace_16 ⟨rfl, Or.inl (⟨v1, rfl, hve, hva, hvl, hc_2, (fun i hi => (hf_3 i (by omega)))⟩)⟩
end
