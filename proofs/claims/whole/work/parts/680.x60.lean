section
def q_f2n : Prop := ∀ x : Int32, vf_n64 (FP.f2d (FP.fdiv (FP.i2f x) 1154621440))
def q_dcs : Prop := ∀ v : UInt64, vf_n64 v → FP.dcmp v v = some .eq
set_option maxRecDepth 100000 in
set_option maxHeartbeats 4000000 in
theorem c_L_count (G : GL) (n : Nat) (σ : Nat → va_E) (z1 : Int32) (z2 : Int32) (z3 : Int32) (g : Nat → Nat) (nx : Nat) (m : Nat) (x : Int32) (oL : Nat → Int64) (hc0 : σ 0 = o10 G (z1) (z2) (z3)) (hc1 : σ 78 = o2 G (78) (nI (nx)) (nI (m))) (hc2 : σ 294 = q_ln G 1 oL) (hn9 : 279 ≤ n) (hG : x_gm G σ 25 g) (hM : x_mx G σ) (h295n : 294 < n) : CtH G yL_count cL_count 4 (some .int) [(0, 9, 12, 13)] ⟨7, 1, 6, 164⟩ [.ref (q_h G + 0), .int (x), .ref (q_h G + 294)] n σ (fun v9 σ2 => (∃ (x1 : Nat), v9 = some (.int (nI (0))) ∧ (x = nI x1) ∧ (x1 ≤ 12) ∧ (x_mx G σ2) ∧ σ2 294 = q_ln G 1 (va_up oL 0 ((nI (s_countA g m x1)).toInt64)) ∧ (∀ i : Nat, (i < 43 ∨ 77 < i) ∧ i ≠ 294 → σ2 i = σ i)) ∨ (v9 = some (.int (nI (1))) ∧ (∀ j : Nat, 0 ≤ j → j ≤ 12 → x = nI j → False) ∧ σ2 = σ)) := by
  refine q_enterH [some (.ref (q_h G + 0)), some (.int (x)), some (.ref (q_h G + 294)), none] (by decide) (Nat.le_of_ble_eq_true rfl) rfl ?_
  intro K hg
  obtain ⟨Q, hQ⟩ : ∃ Q, Q = q_Q G K false n 1 6 (fun v9 n' σ' => n' = n ∧ (fun v9 σ2 => (∃ (x1 : Nat), v9 = some (.int (nI (0))) ∧ (x = nI x1) ∧ (x1 ≤ 12) ∧ (x_mx G σ2) ∧ σ2 294 = q_ln G 1 (va_up oL 0 ((nI (s_countA g m x1)).toInt64)) ∧ (∀ i : Nat, (i < 43 ∨ 77 < i) ∧ i ≠ 294 → σ2 i = σ i)) ∨ (v9 = some (.int (nI (1))) ∧ (∀ j : Nat, 0 ≤ j → j ≤ 12 → x = nI j → False) ∧ σ2 = σ)) v9 σ') q_noX := ⟨_, rfl⟩
  refine (?_ : AJ G K (q_Q G K false n 1 6 _ _) 0 0 false n 0 _ _ σ)
  rw [← hQ]
  refine A_aload_n hg dL_count_0 rfl rfl ?_
  refine A_iconst (v := (nI (0))) hg dL_count_1 (by decide) ?_
  refine A_aload_n hg dL_count_2 rfl rfl ?_
  refine A_iload_n hg dL_count_3 rfl rfl ?_
  refine A_hVX (kc2 := 1) (ks2 := 6) (As := [.int (x)]) (rest := [.int (nI (0)), .ref (q_h G + 294)]) hg lk_RL_7 in_X10_count se_X10_count rfl dL_count_4 ⟨by decide, by decide⟩ rfl rfl ⟨by decide, by decide⟩ hc0 (by omega) rfl rfl (Nat.le_of_ble_eq_true rfl) (c_X10_count G false n σ z1 z2 z3 g nx m x hc0 hc1 (by omega) hG hM) ?_ ?_
  · skip
    intro E σx hx
    obtain ⟨hs9, hx⟩ := hx
    rw [hs9]
    obtain ⟨rfl, h0⟩ := hx
    refine A_caught hg [] [] rfl (by decide) (by decide) clk_13 cst_13 (fun z hz => nomatch hz) (fun q9 => ?_)
    refine A_astore_n hg dL_count_12 rfl (by decide) (q_c1d rfl) ?_
    refine A_eq (ls2 := [some (.ref (q_h G + 0)), some (.int (x)), some (.ref (q_h G + 294)), some (.ref q9)]) (st2 := []) (pc2 := 0) rfl rfl ?_
    refine A_iconst (v := (nI (1))) hg dL_count_13 (by decide) ?_
    rw [hQ]
    exact A_ireturn hg (by decide) (by decide) rfl dL_count_14 ⟨rfl, Or.inr ((⟨rfl, h0, rfl⟩))⟩
  rintro _ σ_2 ⟨x1, rfl, hxe, hxl, hM2, hf_1⟩
  refine (?_ : AJ G K Q 1 6 false n 7 [some (.ref (q_h G + 0)), some (.int (x)), some (.ref (q_h G + 294)), none] [.int (nI (s_countA g m x1)), .int (nI (0)), .ref (q_h G + 294)] σ_2)
  have hc_3 : σ_2 0 = o10 G (z1) (z2) (z3) := (hf_1 _ (by omega)).trans hc0
  have hc_4 : σ_2 78 = o2 G (78) (nI (nx)) (nI (m)) := (hf_1 _ (by omega)).trans hc1
  have hc_5 : σ_2 294 = q_ln G 1 oL := (hf_1 _ (by omega)).trans hc2
  refine A_i2l (v := (nI (s_countA g m x1)).toInt64) hg dL_count_7 rfl ?_
  refine A_last (j := 0) (x := ((nI (s_countA g m x1)).toInt64)) hg dL_count_8 hc_5 (by omega) (by omega) (by decide) (fun σ_6 hc_7 hf_8 => ?_)
  have hc_9 : σ_6 0 = o10 G (z1) (z2) (z3) := (hf_8 _ (by omega)).trans hc_3
  have hc_10 : σ_6 78 = o2 G (78) (nI (nx)) (nI (m)) := (hf_8 _ (by omega)).trans hc_4
  refine A_goto (tgt := 15) hg dL_count_9 (by decide) ?_
  refine A_iconst (v := (nI (0))) hg dL_count_15 (by decide) ?_
  rw [hQ]
  exact A_ireturn hg (by decide) (by decide) rfl dL_count_16 ⟨rfl, Or.inl (⟨x1, rfl, hxe, hxl, (x_mx_e (fun i _ _ => (hf_8 i (by omega))) hM2), hc_7, (fun i hi => ((hf_8 i (by omega)).trans (hf_1 i (by omega))))⟩)⟩
set_option maxRecDepth 100000 in
set_option maxHeartbeats 4000000 in
theorem c_L_account (G : GL) (n : Nat) (σ : Nat → va_E) (z1 : Int32) (z2 : Int32) (z3 : Int32) (g : Nat → Nat) (p : Int32) (x : Int32) (oL : Nat → Int64) (hc0 : σ 0 = o10 G (z1) (z2) (z3)) (hc1 : σ 294 = q_ln G 1 oL) (hn9 : 279 ≤ n) (hG : x_gm G σ 25 g) (h295n : 294 < n) : CtH G yL_account cL_account 5 (some .int) [(0, 10, 13, 19), (0, 10, 17, 13)] ⟨8, 2, 12, 134⟩ [.ref (q_h G + 0), .int (p), .int (x), .ref (q_h G + 294)] n σ (fun v9 σ2 => (∃ (p1 : Nat), ∃ (x1 : Nat), v9 = some (.int (nI (0))) ∧ (p = nI p1) ∧ (p1 ≤ 1) ∧ (x = nI x1) ∧ (x1 ≤ 4) ∧ σ2 294 = q_ln G 1 (va_up oL 0 ((nI (g (7 + 5 * p1 + x1))).toInt64)) ∧ (∀ i : Nat, i ≠ 294 → σ2 i = σ i)) ∨ (v9 = some (.int (nI (1))) ∧ (∀ j : Nat, 0 ≤ j → j ≤ 1 → p = nI j → False) ∧ σ2 = σ) ∨ (v9 = some (.int (nI (2))) ∧ (∃ p1 : Nat, p = nI p1 ∧ p1 ≤ 1 ∧ ∀ j : Nat, 0 ≤ j → j ≤ 4 → x = nI j → False) ∧ σ2 = σ)) := by
  refine q_enterH [some (.ref (q_h G + 0)), some (.int (p)), some (.int (x)), some (.ref (q_h G + 294)), none] (by decide) (Nat.le_of_ble_eq_true rfl) rfl ?_
  intro K hg
  obtain ⟨Q, hQ⟩ : ∃ Q, Q = q_Q G K false n 2 12 (fun v9 n' σ' => n' = n ∧ (fun v9 σ2 => (∃ (p1 : Nat), ∃ (x1 : Nat), v9 = some (.int (nI (0))) ∧ (p = nI p1) ∧ (p1 ≤ 1) ∧ (x = nI x1) ∧ (x1 ≤ 4) ∧ σ2 294 = q_ln G 1 (va_up oL 0 ((nI (g (7 + 5 * p1 + x1))).toInt64)) ∧ (∀ i : Nat, i ≠ 294 → σ2 i = σ i)) ∨ (v9 = some (.int (nI (1))) ∧ (∀ j : Nat, 0 ≤ j → j ≤ 1 → p = nI j → False) ∧ σ2 = σ) ∨ (v9 = some (.int (nI (2))) ∧ (∃ p1 : Nat, p = nI p1 ∧ p1 ≤ 1 ∧ ∀ j : Nat, 0 ≤ j → j ≤ 4 → x = nI j → False) ∧ σ2 = σ)) v9 σ') q_noX := ⟨_, rfl⟩
  refine (?_ : AJ G K (q_Q G K false n 2 12 _ _) 0 0 false n 0 _ _ σ)
  rw [← hQ]
  refine A_aload_n hg dL_account_0 rfl rfl ?_
  refine A_iconst (v := (nI (0))) hg dL_account_1 (by decide) ?_
  refine A_aload_n hg dL_account_2 rfl rfl ?_
  refine A_iload_n hg dL_account_3 rfl rfl ?_
  refine A_iload_n hg dL_account_4 rfl rfl ?_
  refine A_pVX (kc2 := 2) (ks2 := 12) (As := [.int (p), .int (x)]) (rest := [.int (nI (0)), .ref (q_h G + 294)]) hg lk_RL_15 in_X10_account se_X10_account rfl dL_account_5 ⟨by decide, by decide⟩ rfl rfl ⟨by decide, by decide⟩ hc0 (by omega) rfl rfl (Nat.le_of_ble_eq_true rfl) (c_X10_account G false n σ z1 z2 z3 g p x hc0 (by omega) hG) ?_ ?_
  · skip
    intro E σx hx
    obtain ⟨hs9, hx⟩ := hx
    rw [hs9]
    rcases hx with ⟨rfl, h0⟩ | ⟨rfl, h0⟩
    · skip
      refine A_caught hg [] [(0, 10, 17, 13)] rfl (by decide) (by decide) clk_19 cst_19 (fun z hz => nomatch hz) (fun q9 => ?_)
      refine A_astore hg dL_account_13 (by decide) (q_c1d rfl) ?_
      refine A_eq (ls2 := [some (.ref (q_h G + 0)), some (.int (p)), some (.int (x)), some (.ref (q_h G + 294)), some (.ref q9)]) (st2 := []) (pc2 := 0) rfl rfl ?_
      refine A_iconst (v := (nI (1))) hg dL_account_15 (by decide) ?_
      rw [hQ]
      exact A_ireturn hg (by decide) (by decide) rfl dL_account_16 ⟨rfl, Or.inr (Or.inl (⟨rfl, h0, rfl⟩))⟩
    · skip
      refine A_caught hg [(0, 10, 13, 19)] [] rfl (by decide) (by decide) clk_13 cst_13 (List.forall_mem_cons.mpr ⟨⟨by decide, _, clk_19, nc_13_19⟩, (fun z hz => nomatch hz)⟩) (fun q9 => ?_)
      refine A_astore hg dL_account_17 (by decide) (q_c1d rfl) ?_
      refine A_eq (ls2 := [some (.ref (q_h G + 0)), some (.int (p)), some (.int (x)), some (.ref (q_h G + 294)), some (.ref q9)]) (st2 := []) (pc2 := 0) rfl rfl ?_
      refine A_iconst (v := (nI (2))) hg dL_account_19 (by decide) ?_
      rw [hQ]
      exact A_ireturn hg (by decide) (by decide) rfl dL_account_20 ⟨rfl, Or.inr (Or.inr ((⟨rfl, h0, rfl⟩)))⟩
  rintro _ ⟨p1, x1, rfl, hpe, hpl, hxe, hxl⟩
  refine (?_ : AJ G K Q 2 12 false n 8 [some (.ref (q_h G + 0)), some (.int (p)), some (.int (x)), some (.ref (q_h G + 294)), none] [.int (nI (g (7 + 5 * p1 + x1))), .int (nI (0)), .ref (q_h G + 294)] σ)
  refine A_i2l (v := (nI (g (7 + 5 * p1 + x1))).toInt64) hg dL_account_8 rfl ?_
  refine A_last (j := 0) (x := ((nI (g (7 + 5 * p1 + x1))).toInt64)) hg dL_account_9 hc1 (by omega) (by omega) (by decide) (fun σ_1 hc_2 hf_3 => ?_)
  have hc_4 : σ_1 0 = o10 G (z1) (z2) (z3) := (hf_3 _ (by omega)).trans hc0
  refine A_goto (tgt := 21) hg dL_account_10 (by decide) ?_
  refine A_iconst (v := (nI (0))) hg dL_account_21 (by decide) ?_
  rw [hQ]
  exact A_ireturn hg (by decide) (by decide) rfl dL_account_22 ⟨rfl, Or.inl (⟨p1, x1, rfl, hpe, hpl, hxe, hxl, hc_2, (fun i hi => (hf_3 i (by omega)))⟩)⟩
set_option maxRecDepth 100000 in
set_option maxHeartbeats 4000000 in
theorem c_L_turn (G : GL) (n : Nat) (σ : Nat → va_E) (z1 : Int32) (z2 : Int32) (z3 : Int32) (g : Nat → Nat) (p : Int32) (x : Int32) (oL : Nat → Int64) (hc0 : σ 0 = o10 G (z1) (z2) (z3)) (hc1 : σ 294 = q_ln G 1 oL) (hn9 : 279 ≤ n) (hG : x_gm G σ 25 g) (h295n : 294 < n) : CtH G yL_turn cL_turn 5 (some .int) [(0, 10, 13, 19), (0, 10, 17, 13)] ⟨8, 2, 12, 134⟩ [.ref (q_h G + 0), .int (p), .int (x), .ref (q_h G + 294)] n σ (fun v9 σ2 => (∃ (p1 : Nat), ∃ (x1 : Nat), v9 = some (.int (nI (0))) ∧ (p = nI p1) ∧ (p1 < g 6) ∧ (x = nI x1) ∧ (x1 ≤ 4) ∧ σ2 294 = q_ln G 1 (va_up oL 0 ((nI (g (165 + 5 * (g 6 - 1 - p1) + x1))).toInt64)) ∧ (∀ i : Nat, i ≠ 294 → σ2 i = σ i)) ∨ (v9 = some (.int (nI (1))) ∧ (∀ j : Nat, j < g 6 → p = nI j → False) ∧ σ2 = σ) ∨ (v9 = some (.int (nI (2))) ∧ (∃ p1 : Nat, p = nI p1 ∧ p1 < g 6 ∧ ∀ j : Nat, 0 ≤ j → j ≤ 4 → x = nI j → False) ∧ σ2 = σ)) := by
  refine q_enterH [some (.ref (q_h G + 0)), some (.int (p)), some (.int (x)), some (.ref (q_h G + 294)), none] (by decide) (Nat.le_of_ble_eq_true rfl) rfl ?_
  intro K hg
  obtain ⟨Q, hQ⟩ : ∃ Q, Q = q_Q G K false n 2 12 (fun v9 n' σ' => n' = n ∧ (fun v9 σ2 => (∃ (p1 : Nat), ∃ (x1 : Nat), v9 = some (.int (nI (0))) ∧ (p = nI p1) ∧ (p1 < g 6) ∧ (x = nI x1) ∧ (x1 ≤ 4) ∧ σ2 294 = q_ln G 1 (va_up oL 0 ((nI (g (165 + 5 * (g 6 - 1 - p1) + x1))).toInt64)) ∧ (∀ i : Nat, i ≠ 294 → σ2 i = σ i)) ∨ (v9 = some (.int (nI (1))) ∧ (∀ j : Nat, j < g 6 → p = nI j → False) ∧ σ2 = σ) ∨ (v9 = some (.int (nI (2))) ∧ (∃ p1 : Nat, p = nI p1 ∧ p1 < g 6 ∧ ∀ j : Nat, 0 ≤ j → j ≤ 4 → x = nI j → False) ∧ σ2 = σ)) v9 σ') q_noX := ⟨_, rfl⟩
  refine (?_ : AJ G K (q_Q G K false n 2 12 _ _) 0 0 false n 0 _ _ σ)
  rw [← hQ]
  refine A_aload_n hg dL_turn_0 rfl rfl ?_
  refine A_iconst (v := (nI (0))) hg dL_turn_1 (by decide) ?_
  refine A_aload_n hg dL_turn_2 rfl rfl ?_
  refine A_iload_n hg dL_turn_3 rfl rfl ?_
  refine A_iload_n hg dL_turn_4 rfl rfl ?_
  refine A_pVX (kc2 := 2) (ks2 := 12) (As := [.int (p), .int (x)]) (rest := [.int (nI (0)), .ref (q_h G + 294)]) hg lk_RL_21 in_X10_turn se_X10_turn rfl dL_turn_5 ⟨by decide, by decide⟩ rfl rfl ⟨by decide, by decide⟩ hc0 (by omega) rfl rfl (Nat.le_of_ble_eq_true rfl) (c_X10_turn G false n σ z1 z2 z3 g p x hc0 (by omega) hG) ?_ ?_
  · skip
    intro E σx hx
    obtain ⟨hs9, hx⟩ := hx
    rw [hs9]
    rcases hx with ⟨rfl, h0⟩ | ⟨rfl, h0⟩
    · skip
      refine A_caught hg [] [(0, 10, 17, 13)] rfl (by decide) (by decide) clk_19 cst_19 (fun z hz => nomatch hz) (fun q9 => ?_)
      refine A_astore hg dL_turn_13 (by decide) (q_c1d rfl) ?_
      refine A_eq (ls2 := [some (.ref (q_h G + 0)), some (.int (p)), some (.int (x)), some (.ref (q_h G + 294)), some (.ref q9)]) (st2 := []) (pc2 := 0) rfl rfl ?_
      refine A_iconst (v := (nI (1))) hg dL_turn_15 (by decide) ?_
      rw [hQ]
      exact A_ireturn hg (by decide) (by decide) rfl dL_turn_16 ⟨rfl, Or.inr (Or.inl (⟨rfl, h0, rfl⟩))⟩
    · skip
      refine A_caught hg [(0, 10, 13, 19)] [] rfl (by decide) (by decide) clk_13 cst_13 (List.forall_mem_cons.mpr ⟨⟨by decide, _, clk_19, nc_13_19⟩, (fun z hz => nomatch hz)⟩) (fun q9 => ?_)
      refine A_astore hg dL_turn_17 (by decide) (q_c1d rfl) ?_
      refine A_eq (ls2 := [some (.ref (q_h G + 0)), some (.int (p)), some (.int (x)), some (.ref (q_h G + 294)), some (.ref q9)]) (st2 := []) (pc2 := 0) rfl rfl ?_
      refine A_iconst (v := (nI (2))) hg dL_turn_19 (by decide) ?_
      rw [hQ]
      exact A_ireturn hg (by decide) (by decide) rfl dL_turn_20 ⟨rfl, Or.inr (Or.inr ((⟨rfl, h0, rfl⟩)))⟩
  rintro _ ⟨p1, x1, rfl, hpe, hpl, hxe, hxl⟩
  refine (?_ : AJ G K Q 2 12 false n 8 [some (.ref (q_h G + 0)), some (.int (p)), some (.int (x)), some (.ref (q_h G + 294)), none] [.int (nI (g (165 + 5 * (g 6 - 1 - p1) + x1))), .int (nI (0)), .ref (q_h G + 294)] σ)
  refine A_i2l (v := (nI (g (165 + 5 * (g 6 - 1 - p1) + x1))).toInt64) hg dL_turn_8 rfl ?_
  refine A_last (j := 0) (x := ((nI (g (165 + 5 * (g 6 - 1 - p1) + x1))).toInt64)) hg dL_turn_9 hc1 (by omega) (by omega) (by decide) (fun σ_1 hc_2 hf_3 => ?_)
  have hc_4 : σ_1 0 = o10 G (z1) (z2) (z3) := (hf_3 _ (by omega)).trans hc0
  refine A_goto (tgt := 21) hg dL_turn_10 (by decide) ?_
  refine A_iconst (v := (nI (0))) hg dL_turn_21 (by decide) ?_
  rw [hQ]
  exact A_ireturn hg (by decide) (by decide) rfl dL_turn_22 ⟨rfl, Or.inl (⟨p1, x1, rfl, hpe, hpl, hxe, hxl, hc_2, (fun i hi => (hf_3 i (by omega)))⟩)⟩
set_option maxRecDepth 100000 in
set_option maxHeartbeats 4000000 in
theorem c_L_rule (G : GL) (n : Nat) (σ : Nat → va_E) (z1 : Int32) (z2 : Int32) (z3 : Int32) (g : Nat → Nat) (r : Int32) (x : Int32) (oL : Nat → Int64) (hc0 : σ 0 = o10 G (z1) (z2) (z3)) (hc1 : σ 294 = q_ln G 1 oL) (hn9 : 279 ≤ n) (hG : x_gm G σ 25 g) (hM : x_mx G σ) (h295n : 294 < n) : CtH G yL_rule cL_rule 5 (some .int) [(0, 10, 13, 19), (0, 10, 17, 13)] ⟨8, 2, 12, 142⟩ [.ref (q_h G + 0), .int (r), .int (x), .ref (q_h G + 294)] n σ (fun v9 σ2 => (∃ (r1 : Nat), ∃ (x1 : Nat), v9 = some (.int (nI (0))) ∧ (r = nI r1) ∧ (r1 < g 0) ∧ (x = nI x1) ∧ (x1 ≤ 8) ∧ (x_mx G σ2) ∧ σ2 294 = q_ln G 1 (va_up oL 0 ((nI (s_ruleA g r1 x1)).toInt64)) ∧ (∀ i : Nat, (i < 43 ∨ 77 < i) ∧ i ≠ 294 → σ2 i = σ i)) ∨ (v9 = some (.int (nI (1))) ∧ (∀ j : Nat, j < g 0 → r = nI j → False) ∧ σ2 = σ) ∨ (v9 = some (.int (nI (2))) ∧ (∃ r1 : Nat, r = nI r1 ∧ r1 < g 0 ∧ (∀ j : Nat, 0 ≤ j → j ≤ 8 → x = nI j → False)) ∧ σ2 = σ)) := by
  refine q_enterH [some (.ref (q_h G + 0)), some (.int (r)), some (.int (x)), some (.ref (q_h G + 294)), none] (by decide) (Nat.le_of_ble_eq_true rfl) rfl ?_
  intro K hg
  obtain ⟨Q, hQ⟩ : ∃ Q, Q = q_Q G K false n 2 12 (fun v9 n' σ' => n' = n ∧ (fun v9 σ2 => (∃ (r1 : Nat), ∃ (x1 : Nat), v9 = some (.int (nI (0))) ∧ (r = nI r1) ∧ (r1 < g 0) ∧ (x = nI x1) ∧ (x1 ≤ 8) ∧ (x_mx G σ2) ∧ σ2 294 = q_ln G 1 (va_up oL 0 ((nI (s_ruleA g r1 x1)).toInt64)) ∧ (∀ i : Nat, (i < 43 ∨ 77 < i) ∧ i ≠ 294 → σ2 i = σ i)) ∨ (v9 = some (.int (nI (1))) ∧ (∀ j : Nat, j < g 0 → r = nI j → False) ∧ σ2 = σ) ∨ (v9 = some (.int (nI (2))) ∧ (∃ r1 : Nat, r = nI r1 ∧ r1 < g 0 ∧ (∀ j : Nat, 0 ≤ j → j ≤ 8 → x = nI j → False)) ∧ σ2 = σ)) v9 σ') q_noX := ⟨_, rfl⟩
  refine (?_ : AJ G K (q_Q G K false n 2 12 _ _) 0 0 false n 0 _ _ σ)
  rw [← hQ]
  refine A_aload_n hg dL_rule_0 rfl rfl ?_
  refine A_iconst (v := (nI (0))) hg dL_rule_1 (by decide) ?_
  refine A_aload_n hg dL_rule_2 rfl rfl ?_
  refine A_iload_n hg dL_rule_3 rfl rfl ?_
  refine A_iload_n hg dL_rule_4 rfl rfl ?_
  refine A_hVX (kc2 := 2) (ks2 := 12) (As := [.int (r), .int (x)]) (rest := [.int (nI (0)), .ref (q_h G + 294)]) hg lk_RL_24 in_X10_rule se_X10_rule rfl dL_rule_5 ⟨by decide, by decide⟩ rfl rfl ⟨by decide, by decide⟩ hc0 (by omega) rfl rfl (Nat.le_of_ble_eq_true rfl) (c_X10_rule G false n σ z1 z2 z3 g r x hc0 (by omega) hG hM) ?_ ?_
  · skip
    intro E σx hx
    obtain ⟨hs9, hx⟩ := hx
    rw [hs9]
    rcases hx with ⟨rfl, h0⟩ | ⟨rfl, h0⟩
    · skip
      refine A_caught hg [] [(0, 10, 17, 13)] rfl (by decide) (by decide) clk_19 cst_19 (fun z hz => nomatch hz) (fun q9 => ?_)
      refine A_astore hg dL_rule_13 (by decide) (q_c1d rfl) ?_
      refine A_eq (ls2 := [some (.ref (q_h G + 0)), some (.int (r)), some (.int (x)), some (.ref (q_h G + 294)), some (.ref q9)]) (st2 := []) (pc2 := 0) rfl rfl ?_
      refine A_iconst (v := (nI (1))) hg dL_rule_15 (by decide) ?_
      rw [hQ]
      exact A_ireturn hg (by decide) (by decide) rfl dL_rule_16 ⟨rfl, Or.inr (Or.inl (⟨rfl, h0, rfl⟩))⟩
    · skip
      refine A_caught hg [(0, 10, 13, 19)] [] rfl (by decide) (by decide) clk_13 cst_13 (List.forall_mem_cons.mpr ⟨⟨by decide, _, clk_19, nc_13_19⟩, (fun z hz => nomatch hz)⟩) (fun q9 => ?_)
      refine A_astore hg dL_rule_17 (by decide) (q_c1d rfl) ?_
      refine A_eq (ls2 := [some (.ref (q_h G + 0)), some (.int (r)), some (.int (x)), some (.ref (q_h G + 294)), some (.ref q9)]) (st2 := []) (pc2 := 0) rfl rfl ?_
      refine A_iconst (v := (nI (2))) hg dL_rule_19 (by decide) ?_
      rw [hQ]
      exact A_ireturn hg (by decide) (by decide) rfl dL_rule_20 ⟨rfl, Or.inr (Or.inr ((⟨rfl, h0, rfl⟩)))⟩
  rintro _ σ_2 ⟨r1, x1, rfl, hre, hrl, hxe, hxl, hM2, hf_1⟩
  refine (?_ : AJ G K Q 2 12 false n 8 [some (.ref (q_h G + 0)), some (.int (r)), some (.int (x)), some (.ref (q_h G + 294)), none] [.int (nI (s_ruleA g r1 x1)), .int (nI (0)), .ref (q_h G + 294)] σ_2)
  have hc_3 : σ_2 0 = o10 G (z1) (z2) (z3) := (hf_1 _ (by omega)).trans hc0
  have hc_4 : σ_2 294 = q_ln G 1 oL := (hf_1 _ (by omega)).trans hc1
  refine A_i2l (v := (nI (s_ruleA g r1 x1)).toInt64) hg dL_rule_8 rfl ?_
  refine A_last (j := 0) (x := ((nI (s_ruleA g r1 x1)).toInt64)) hg dL_rule_9 hc_4 (by omega) (by omega) (by decide) (fun σ_5 hc_6 hf_7 => ?_)
  have hc_8 : σ_5 0 = o10 G (z1) (z2) (z3) := (hf_7 _ (by omega)).trans hc_3
  refine A_goto (tgt := 21) hg dL_rule_10 (by decide) ?_
  refine A_iconst (v := (nI (0))) hg dL_rule_21 (by decide) ?_
  rw [hQ]
  exact A_ireturn hg (by decide) (by decide) rfl dL_rule_22 ⟨rfl, Or.inl (⟨r1, x1, rfl, hre, hrl, hxe, hxl, (x_mx_e (fun i _ _ => (hf_7 i (by omega))) hM2), hc_6, (fun i hi => ((hf_7 i (by omega)).trans (hf_1 i (by omega))))⟩)⟩
set_option maxRecDepth 100000 in
set_option maxHeartbeats 4000000 in
theorem c_L_only (G : GL) (n : Nat) (σ : Nat → va_E) (z1 : Int32) (z2 : Int32) (z3 : Int32) (g : Nat → Nat) (r : Int32) (x : Int32) (oL : Nat → Int64) (hc0 : σ 0 = o10 G (z1) (z2) (z3)) (hc1 : σ 294 = q_ln G 1 oL) (hn9 : 279 ≤ n) (hG : x_gm G σ 25 g) (h295n : 294 < n) : CtH G yL_only cL_only 5 (some .int) [(0, 10, 13, 19)] ⟨8, 1, 6, 133⟩ [.ref (q_h G + 0), .int (r), .int (x), .ref (q_h G + 294)] n σ (fun v9 σ2 => (∃ (r1 : Nat), ∃ (i1 : Nat), v9 = some (.int (nI (0))) ∧ (r = nI r1) ∧ (r1 < g 0) ∧ (x = nI i1) ∧ (i1 < s_rule g r1 9) ∧ σ2 294 = q_ln G 1 (va_up oL 0 ((nI (s_rule g r1 (10 + i1))).toInt64)) ∧ (∀ i : Nat, i ≠ 294 → σ2 i = σ i)) ∨ (∃ (r1 : Nat), v9 = some (.int (nI (0))) ∧ (r = nI r1) ∧ (r1 < g 0) ∧ (∀ j : Nat, j < s_rule g r1 9 → x = nI j → False) ∧ σ2 294 = q_ln G 1 (va_up oL 0 ((q_d (0)).toInt64)) ∧ (∀ i : Nat, i ≠ 294 → σ2 i = σ i)) ∨ (v9 = some (.int (nI (1))) ∧ (∀ j : Nat, j < g 0 → r = nI j → False) ∧ σ2 = σ)) := by
  refine q_enterH [some (.ref (q_h G + 0)), some (.int (r)), some (.int (x)), some (.ref (q_h G + 294)), none] (by decide) (Nat.le_of_ble_eq_true rfl) rfl ?_
  intro K hg
  obtain ⟨Q, hQ⟩ : ∃ Q, Q = q_Q G K false n 1 6 (fun v9 n' σ' => n' = n ∧ (fun v9 σ2 => (∃ (r1 : Nat), ∃ (i1 : Nat), v9 = some (.int (nI (0))) ∧ (r = nI r1) ∧ (r1 < g 0) ∧ (x = nI i1) ∧ (i1 < s_rule g r1 9) ∧ σ2 294 = q_ln G 1 (va_up oL 0 ((nI (s_rule g r1 (10 + i1))).toInt64)) ∧ (∀ i : Nat, i ≠ 294 → σ2 i = σ i)) ∨ (∃ (r1 : Nat), v9 = some (.int (nI (0))) ∧ (r = nI r1) ∧ (r1 < g 0) ∧ (∀ j : Nat, j < s_rule g r1 9 → x = nI j → False) ∧ σ2 294 = q_ln G 1 (va_up oL 0 ((q_d (0)).toInt64)) ∧ (∀ i : Nat, i ≠ 294 → σ2 i = σ i)) ∨ (v9 = some (.int (nI (1))) ∧ (∀ j : Nat, j < g 0 → r = nI j → False) ∧ σ2 = σ)) v9 σ') q_noX := ⟨_, rfl⟩
  refine (?_ : AJ G K (q_Q G K false n 1 6 _ _) 0 0 false n 0 _ _ σ)
  rw [← hQ]
  refine A_aload_n hg dL_only_0 rfl rfl ?_
  refine A_iconst (v := (nI (0))) hg dL_only_1 (by decide) ?_
  refine A_aload_n hg dL_only_2 rfl rfl ?_
  refine A_iload_n hg dL_only_3 rfl rfl ?_
  refine A_iload_n hg dL_only_4 rfl rfl ?_
  refine A_hVX (kc2 := 1) (ks2 := 6) (As := [.int (r), .int (x)]) (rest := [.int (nI (0)), .ref (q_h G + 294)]) hg lk_RL_27 in_X10_only se_X10_only rfl dL_only_5 ⟨by decide, by decide⟩ rfl rfl ⟨by decide, by decide⟩ hc0 (by omega) rfl rfl (Nat.le_of_ble_eq_true rfl) (c_X10_only G false n σ z1 z2 z3 g r x hc0 (by omega) hG) ?_ ?_
  · skip
    intro E σx hx
    obtain ⟨hs9, hx⟩ := hx
    rw [hs9]
    obtain ⟨rfl, h0⟩ := hx
    refine A_caught hg [] [] rfl (by decide) (by decide) clk_19 cst_19 (fun z hz => nomatch hz) (fun q9 => ?_)
    refine A_astore hg dL_only_13 (by decide) (q_c1d rfl) ?_
    refine A_eq (ls2 := [some (.ref (q_h G + 0)), some (.int (r)), some (.int (x)), some (.ref (q_h G + 294)), some (.ref q9)]) (st2 := []) (pc2 := 0) rfl rfl ?_
    refine A_iconst (v := (nI (1))) hg dL_only_15 (by decide) ?_
    rw [hQ]
    exact A_ireturn hg (by decide) (by decide) rfl dL_only_16 ⟨rfl, Or.inr (Or.inr ((⟨rfl, h0, rfl⟩)))⟩
  rintro _ σ_3 (⟨r1, i1, rfl, hre, hrl, hie, hil, he_1⟩ | ⟨r1, rfl, hre, hrl, hni, he_2⟩)
  · skip
    rw [he_1]
    refine (?_ : AJ G K Q 1 6 false n 8 [some (.ref (q_h G + 0)), some (.int (r)), some (.int (x)), some (.ref (q_h G + 294)), none] [.int (nI (s_rule g r1 (10 + i1))), .int (nI (0)), .ref (q_h G + 294)] σ)
    refine A_i2l (v := (nI (s_rule g r1 (10 + i1))).toInt64) hg dL_only_8 rfl ?_
    refine A_last (j := 0) (x := ((nI (s_rule g r1 (10 + i1))).toInt64)) hg dL_only_9 hc1 (by omega) (by omega) (by decide) (fun σ_4 hc_5 hf_6 => ?_)
    have hc_7 : σ_4 0 = o10 G (z1) (z2) (z3) := (hf_6 _ (by omega)).trans hc0
    refine A_goto (tgt := 17) hg dL_only_10 (by decide) ?_
    refine A_iconst (v := (nI (0))) hg dL_only_17 (by decide) ?_
    rw [hQ]
    exact A_ireturn hg (by decide) (by decide) rfl dL_only_18 ⟨rfl, Or.inl (⟨r1, i1, rfl, hre, hrl, hie, hil, hc_5, (fun i hi => (hf_6 i (by omega)))⟩)⟩
  · skip
    rw [he_2]
    refine (?_ : AJ G K Q 1 6 false n 8 [some (.ref (q_h G + 0)), some (.int (r)), some (.int (x)), some (.ref (q_h G + 294)), none] [.int (q_d (0)), .int (nI (0)), .ref (q_h G + 294)] σ)
    refine A_i2l (v := (q_d (0)).toInt64) hg dL_only_8 rfl ?_
    refine A_last (j := 0) (x := ((q_d (0)).toInt64)) hg dL_only_9 hc1 (by omega) (by omega) (by decide) (fun σ_8 hc_9 hf_10 => ?_)
    have hc_11 : σ_8 0 = o10 G (z1) (z2) (z3) := (hf_10 _ (by omega)).trans hc0
    refine A_goto (tgt := 17) hg dL_only_10 (by decide) ?_
    refine A_iconst (v := (nI (0))) hg dL_only_17 (by decide) ?_
    rw [hQ]
    exact A_ireturn hg (by decide) (by decide) rfl dL_only_18 ⟨rfl, Or.inr (Or.inl (⟨r1, rfl, hre, hrl, hni, hc_9, (fun i hi => (hf_10 i (by omega)))⟩))⟩
set_option maxRecDepth 100000 in
set_option maxHeartbeats 4000000 in
theorem c_L_barred (G : GL) (n : Nat) (σ : Nat → va_E) (z1 : Int32) (z2 : Int32) (z3 : Int32) (g : Nat → Nat) (r : Int32) (x : Int32) (s : Bool) (oL : Nat → Int64) (hc0 : σ 0 = o10 G (z1) (z2) (z3)) (hc1 : σ 294 = q_ln G 1 oL) (hn9 : 279 ≤ n) (hG : x_gm G σ 25 g) (h295n : 294 < n) : CtH G yL_barred cL_barred 6 (some .int) [(0, 12, 15, 19)] ⟨8, 1, 6, 135⟩ [.ref (q_h G + 0), .int (r), .int (x), .int (q_b (s)), .ref (q_h G + 294)] n σ (fun v9 σ2 => (∃ (r1 : Nat), ∃ (i1 : Nat), v9 = some (.int (nI (0))) ∧ (r = nI r1) ∧ (r1 < g 0) ∧ (x = nI i1) ∧ (i1 < s_rule g r1 20) ∧ σ2 294 = q_ln G 1 (va_up oL 0 ((nI (s_rule g r1 (21 + 2 * i1 + (if s = true then 1 else 0)))).toInt64)) ∧ (∀ i : Nat, i ≠ 294 → σ2 i = σ i)) ∨ (∃ (r1 : Nat), v9 = some (.int (nI (0))) ∧ (r = nI r1) ∧ (r1 < g 0) ∧ (∀ j : Nat, j < s_rule g r1 20 → x = nI j → False) ∧ σ2 294 = q_ln G 1 (va_up oL 0 ((q_d (0)).toInt64)) ∧ (∀ i : Nat, i ≠ 294 → σ2 i = σ i)) ∨ (v9 = some (.int (nI (1))) ∧ (∀ j : Nat, j < g 0 → r = nI j → False) ∧ σ2 = σ)) := by
  refine q_enterH [some (.ref (q_h G + 0)), some (.int (r)), some (.int (x)), some (.int (q_b (s))), some (.ref (q_h G + 294)), none] (by decide) (Nat.le_of_ble_eq_true rfl) rfl ?_
  intro K hg
  obtain ⟨Q, hQ⟩ : ∃ Q, Q = q_Q G K false n 1 6 (fun v9 n' σ' => n' = n ∧ (fun v9 σ2 => (∃ (r1 : Nat), ∃ (i1 : Nat), v9 = some (.int (nI (0))) ∧ (r = nI r1) ∧ (r1 < g 0) ∧ (x = nI i1) ∧ (i1 < s_rule g r1 20) ∧ σ2 294 = q_ln G 1 (va_up oL 0 ((nI (s_rule g r1 (21 + 2 * i1 + (if s = true then 1 else 0)))).toInt64)) ∧ (∀ i : Nat, i ≠ 294 → σ2 i = σ i)) ∨ (∃ (r1 : Nat), v9 = some (.int (nI (0))) ∧ (r = nI r1) ∧ (r1 < g 0) ∧ (∀ j : Nat, j < s_rule g r1 20 → x = nI j → False) ∧ σ2 294 = q_ln G 1 (va_up oL 0 ((q_d (0)).toInt64)) ∧ (∀ i : Nat, i ≠ 294 → σ2 i = σ i)) ∨ (v9 = some (.int (nI (1))) ∧ (∀ j : Nat, j < g 0 → r = nI j → False) ∧ σ2 = σ)) v9 σ') q_noX := ⟨_, rfl⟩
  refine (?_ : AJ G K (q_Q G K false n 1 6 _ _) 0 0 false n 0 _ _ σ)
  rw [← hQ]
  refine A_aload hg dL_barred_0 rfl ?_
  refine A_iconst (v := (nI (0))) hg dL_barred_2 (by decide) ?_
  refine A_aload_n hg dL_barred_3 rfl rfl ?_
  refine A_iload_n hg dL_barred_4 rfl rfl ?_
  refine A_iload_n hg dL_barred_5 rfl rfl ?_
  refine A_iload_n hg dL_barred_6 rfl rfl ?_
  refine A_hVX (kc2 := 1) (ks2 := 6) (As := [.int (r), .int (x), .int (q_b (s))]) (rest := [.int (nI (0)), .ref (q_h G + 294)]) hg lk_RL_30 in_X10_barred se_X10_barred rfl dL_barred_7 ⟨by decide, by decide⟩ rfl rfl ⟨by decide, by decide⟩ hc0 (by omega) rfl rfl (Nat.le_of_ble_eq_true rfl) (c_X10_barred G false n σ z1 z2 z3 g r x s hc0 (by omega) hG) ?_ ?_
  · skip
    intro E σx hx
    obtain ⟨hs9, hx⟩ := hx
    rw [hs9]
    obtain ⟨rfl, h0⟩ := hx
    refine A_caught hg [] [] rfl (by decide) (by decide) clk_19 cst_19 (fun z hz => nomatch hz) (fun q9 => ?_)
    refine A_astore hg dL_barred_15 (by decide) (q_c1d rfl) ?_
    refine A_eq (ls2 := [some (.ref (q_h G + 0)), some (.int (r)), some (.int (x)), some (.int (q_b (s))), some (.ref (q_h G + 294)), some (.ref q9)]) (st2 := []) (pc2 := 0) rfl rfl ?_
    refine A_iconst (v := (nI (1))) hg dL_barred_17 (by decide) ?_
    rw [hQ]
    exact A_ireturn hg (by decide) (by decide) rfl dL_barred_18 ⟨rfl, Or.inr (Or.inr ((⟨rfl, h0, rfl⟩)))⟩
  rintro _ σ_3 (⟨r1, i1, rfl, hre, hrl, hie, hil, he_1⟩ | ⟨r1, rfl, hre, hrl, hni, he_2⟩)
  · skip
    rw [he_1]
    refine (?_ : AJ G K Q 1 6 false n 10 [some (.ref (q_h G + 0)), some (.int (r)), some (.int (x)), some (.int (q_b (s))), some (.ref (q_h G + 294)), none] [.int (nI (s_rule g r1 (21 + 2 * i1 + (if s = true then 1 else 0)))), .int (nI (0)), .ref (q_h G + 294)] σ)
    refine A_i2l (v := (nI (s_rule g r1 (21 + 2 * i1 + (if s = true then 1 else 0)))).toInt64) hg dL_barred_10 rfl ?_
    refine A_last (j := 0) (x := ((nI (s_rule g r1 (21 + 2 * i1 + (if s = true then 1 else 0)))).toInt64)) hg dL_barred_11 hc1 (by omega) (by omega) (by decide) (fun σ_4 hc_5 hf_6 => ?_)
    have hc_7 : σ_4 0 = o10 G (z1) (z2) (z3) := (hf_6 _ (by omega)).trans hc0
    refine A_goto (tgt := 19) hg dL_barred_12 (by decide) ?_
    refine A_iconst (v := (nI (0))) hg dL_barred_19 (by decide) ?_
    rw [hQ]
    exact A_ireturn hg (by decide) (by decide) rfl dL_barred_20 ⟨rfl, Or.inl (⟨r1, i1, rfl, hre, hrl, hie, hil, hc_5, (fun i hi => (hf_6 i (by omega)))⟩)⟩
  · skip
    rw [he_2]
    refine (?_ : AJ G K Q 1 6 false n 10 [some (.ref (q_h G + 0)), some (.int (r)), some (.int (x)), some (.int (q_b (s))), some (.ref (q_h G + 294)), none] [.int (q_d (0)), .int (nI (0)), .ref (q_h G + 294)] σ)
    refine A_i2l (v := (q_d (0)).toInt64) hg dL_barred_10 rfl ?_
    refine A_last (j := 0) (x := ((q_d (0)).toInt64)) hg dL_barred_11 hc1 (by omega) (by omega) (by decide) (fun σ_8 hc_9 hf_10 => ?_)
    have hc_11 : σ_8 0 = o10 G (z1) (z2) (z3) := (hf_10 _ (by omega)).trans hc0
    refine A_goto (tgt := 19) hg dL_barred_12 (by decide) ?_
    refine A_iconst (v := (nI (0))) hg dL_barred_19 (by decide) ?_
    rw [hQ]
    exact A_ireturn hg (by decide) (by decide) rfl dL_barred_20 ⟨rfl, Or.inr (Or.inl (⟨r1, rfl, hre, hrl, hni, hc_9, (fun i hi => (hf_10 i (by omega)))⟩))⟩
set_option maxRecDepth 100000 in
set_option maxHeartbeats 4000000 in
theorem c_L_ruleLetter (G : GL) (n : Nat) (σ : Nat → va_E) (z1 : Int32) (z2 : Int32) (z3 : Int32) (g : Nat → Nat) (r : Int32) (x : Int32) (oL : Nat → Int64) (hc0 : σ 0 = o10 G (z1) (z2) (z3)) (hc1 : σ 294 = q_ln G 1 oL) (hn9 : 279 ≤ n) (hG : x_gm G σ 25 g) (h295n : 294 < n) : CtH G yL_ruleLetter cL_ruleLetter 5 (some .int) [(0, 10, 13, 19)] ⟨8, 1, 6, 133⟩ [.ref (q_h G + 0), .int (r), .int (x), .ref (q_h G + 294)] n σ (fun v9 σ2 => (∃ (r1 : Nat), ∃ (i1 : Nat), v9 = some (.int (nI (0))) ∧ (r = nI r1) ∧ (r1 < g 0) ∧ (x = nI i1) ∧ (i1 < s_rule g r1 0) ∧ σ2 294 = q_ln G 1 (va_up oL 0 ((nI (s_rule g r1 (1 + i1))).toInt64)) ∧ (∀ i : Nat, i ≠ 294 → σ2 i = σ i)) ∨ (∃ (r1 : Nat), v9 = some (.int (nI (0))) ∧ (r = nI r1) ∧ (r1 < g 0) ∧ (∀ j : Nat, j < s_rule g r1 0 → x = nI j → False) ∧ σ2 294 = q_ln G 1 (va_up oL 0 ((nI (0)).toInt64)) ∧ (∀ i : Nat, i ≠ 294 → σ2 i = σ i)) ∨ (v9 = some (.int (nI (1))) ∧ (∀ j : Nat, j < g 0 → r = nI j → False) ∧ σ2 = σ)) := by
  refine q_enterH [some (.ref (q_h G + 0)), some (.int (r)), some (.int (x)), some (.ref (q_h G + 294)), none] (by decide) (Nat.le_of_ble_eq_true rfl) rfl ?_
  intro K hg
  obtain ⟨Q, hQ⟩ : ∃ Q, Q = q_Q G K false n 1 6 (fun v9 n' σ' => n' = n ∧ (fun v9 σ2 => (∃ (r1 : Nat), ∃ (i1 : Nat), v9 = some (.int (nI (0))) ∧ (r = nI r1) ∧ (r1 < g 0) ∧ (x = nI i1) ∧ (i1 < s_rule g r1 0) ∧ σ2 294 = q_ln G 1 (va_up oL 0 ((nI (s_rule g r1 (1 + i1))).toInt64)) ∧ (∀ i : Nat, i ≠ 294 → σ2 i = σ i)) ∨ (∃ (r1 : Nat), v9 = some (.int (nI (0))) ∧ (r = nI r1) ∧ (r1 < g 0) ∧ (∀ j : Nat, j < s_rule g r1 0 → x = nI j → False) ∧ σ2 294 = q_ln G 1 (va_up oL 0 ((nI (0)).toInt64)) ∧ (∀ i : Nat, i ≠ 294 → σ2 i = σ i)) ∨ (v9 = some (.int (nI (1))) ∧ (∀ j : Nat, j < g 0 → r = nI j → False) ∧ σ2 = σ)) v9 σ') q_noX := ⟨_, rfl⟩
  refine (?_ : AJ G K (q_Q G K false n 1 6 _ _) 0 0 false n 0 _ _ σ)
  rw [← hQ]
  refine A_aload_n hg dL_ruleLetter_0 rfl rfl ?_
  refine A_iconst (v := (nI (0))) hg dL_ruleLetter_1 (by decide) ?_
  refine A_aload_n hg dL_ruleLetter_2 rfl rfl ?_
  refine A_iload_n hg dL_ruleLetter_3 rfl rfl ?_
  refine A_iload_n hg dL_ruleLetter_4 rfl rfl ?_
  refine A_hVX (kc2 := 1) (ks2 := 6) (As := [.int (r), .int (x)]) (rest := [.int (nI (0)), .ref (q_h G + 294)]) hg lk_RL_34 in_X10_ruleLetter se_X10_ruleLetter rfl dL_ruleLetter_5 ⟨by decide, by decide⟩ rfl rfl ⟨by decide, by decide⟩ hc0 (by omega) rfl rfl (Nat.le_of_ble_eq_true rfl) (c_X10_ruleLetter G false n σ z1 z2 z3 g r x hc0 (by omega) hG) ?_ ?_
  · skip
    intro E σx hx
    obtain ⟨hs9, hx⟩ := hx
    rw [hs9]
    obtain ⟨rfl, h0⟩ := hx
    refine A_caught hg [] [] rfl (by decide) (by decide) clk_19 cst_19 (fun z hz => nomatch hz) (fun q9 => ?_)
    refine A_astore hg dL_ruleLetter_13 (by decide) (q_c1d rfl) ?_
    refine A_eq (ls2 := [some (.ref (q_h G + 0)), some (.int (r)), some (.int (x)), some (.ref (q_h G + 294)), some (.ref q9)]) (st2 := []) (pc2 := 0) rfl rfl ?_
    refine A_iconst (v := (nI (1))) hg dL_ruleLetter_15 (by decide) ?_
    rw [hQ]
    exact A_ireturn hg (by decide) (by decide) rfl dL_ruleLetter_16 ⟨rfl, Or.inr (Or.inr ((⟨rfl, h0, rfl⟩)))⟩
  rintro _ σ_3 (⟨r1, i1, rfl, hre, hrl, hie, hil, he_1⟩ | ⟨r1, rfl, hre, hrl, hni, he_2⟩)
  · skip
    rw [he_1]
    refine (?_ : AJ G K Q 1 6 false n 8 [some (.ref (q_h G + 0)), some (.int (r)), some (.int (x)), some (.ref (q_h G + 294)), none] [.int (nI (s_rule g r1 (1 + i1))), .int (nI (0)), .ref (q_h G + 294)] σ)
    refine A_i2l (v := (nI (s_rule g r1 (1 + i1))).toInt64) hg dL_ruleLetter_8 rfl ?_
    refine A_last (j := 0) (x := ((nI (s_rule g r1 (1 + i1))).toInt64)) hg dL_ruleLetter_9 hc1 (by omega) (by omega) (by decide) (fun σ_4 hc_5 hf_6 => ?_)
    have hc_7 : σ_4 0 = o10 G (z1) (z2) (z3) := (hf_6 _ (by omega)).trans hc0
    refine A_goto (tgt := 17) hg dL_ruleLetter_10 (by decide) ?_
    refine A_iconst (v := (nI (0))) hg dL_ruleLetter_17 (by decide) ?_
    rw [hQ]
    exact A_ireturn hg (by decide) (by decide) rfl dL_ruleLetter_18 ⟨rfl, Or.inl (⟨r1, i1, rfl, hre, hrl, hie, hil, hc_5, (fun i hi => (hf_6 i (by omega)))⟩)⟩
  · skip
    rw [he_2]
    refine (?_ : AJ G K Q 1 6 false n 8 [some (.ref (q_h G + 0)), some (.int (r)), some (.int (x)), some (.ref (q_h G + 294)), none] [.int (nI (0)), .int (nI (0)), .ref (q_h G + 294)] σ)
    refine A_i2l (v := (nI (0)).toInt64) hg dL_ruleLetter_8 rfl ?_
    refine A_last (j := 0) (x := ((nI (0)).toInt64)) hg dL_ruleLetter_9 hc1 (by omega) (by omega) (by decide) (fun σ_8 hc_9 hf_10 => ?_)
    have hc_11 : σ_8 0 = o10 G (z1) (z2) (z3) := (hf_10 _ (by omega)).trans hc0
    refine A_goto (tgt := 17) hg dL_ruleLetter_10 (by decide) ?_
    refine A_iconst (v := (nI (0))) hg dL_ruleLetter_17 (by decide) ?_
    rw [hQ]
    exact A_ireturn hg (by decide) (by decide) rfl dL_ruleLetter_18 ⟨rfl, Or.inr (Or.inl (⟨r1, rfl, hre, hrl, hni, hc_9, (fun i hi => (hf_10 i (by omega)))⟩))⟩
set_option maxRecDepth 100000 in
set_option maxHeartbeats 4000000 in
theorem c_L_part (G : GL) (n : Nat) (σ : Nat → va_E) (z1 : Int32) (z2 : Int32) (z3 : Int32) (g : Nat → Nat) (p : Int32) (x : Int32) (oL : Nat → Int64) (hc0 : σ 0 = o10 G (z1) (z2) (z3)) (hc1 : σ 294 = q_ln G 1 oL) (hn9 : 279 ≤ n) (hG : x_gm G σ 25 g) (hM : x_mx G σ) (h295n : 294 < n) : CtH G yL_part cL_part 5 (some .int) [(0, 10, 13, 19), (0, 10, 17, 13)] ⟨8, 2, 12, 164⟩ [.ref (q_h G + 0), .int (p), .int (x), .ref (q_h G + 294)] n σ (fun v9 σ2 => (∃ (p1 : Nat), ∃ (x1 : Nat), v9 = some (.int (nI (0))) ∧ (p = nI p1) ∧ (p1 < s_np g) ∧ (x = nI x1) ∧ (x1 ≤ 8) ∧ (x_mx G σ2) ∧ σ2 294 = q_ln G 1 (va_up oL 0 ((s_partA g p1 x1).toInt64)) ∧ (∀ i : Nat, (i < 43 ∨ 77 < i) ∧ i ≠ 294 → σ2 i = σ i)) ∨ (v9 = some (.int (nI (1))) ∧ (∀ j : Nat, j < s_np g → p = nI j → False) ∧ σ2 = σ) ∨ (v9 = some (.int (nI (2))) ∧ (∃ p1 : Nat, p = nI p1 ∧ p1 < s_np g ∧ (∀ j : Nat, 0 ≤ j → j ≤ 8 → x = nI j → False)) ∧ σ2 = σ)) := by
  refine q_enterH [some (.ref (q_h G + 0)), some (.int (p)), some (.int (x)), some (.ref (q_h G + 294)), none] (by decide) (Nat.le_of_ble_eq_true rfl) rfl ?_
  intro K hg
  obtain ⟨Q, hQ⟩ : ∃ Q, Q = q_Q G K false n 2 12 (fun v9 n' σ' => n' = n ∧ (fun v9 σ2 => (∃ (p1 : Nat), ∃ (x1 : Nat), v9 = some (.int (nI (0))) ∧ (p = nI p1) ∧ (p1 < s_np g) ∧ (x = nI x1) ∧ (x1 ≤ 8) ∧ (x_mx G σ2) ∧ σ2 294 = q_ln G 1 (va_up oL 0 ((s_partA g p1 x1).toInt64)) ∧ (∀ i : Nat, (i < 43 ∨ 77 < i) ∧ i ≠ 294 → σ2 i = σ i)) ∨ (v9 = some (.int (nI (1))) ∧ (∀ j : Nat, j < s_np g → p = nI j → False) ∧ σ2 = σ) ∨ (v9 = some (.int (nI (2))) ∧ (∃ p1 : Nat, p = nI p1 ∧ p1 < s_np g ∧ (∀ j : Nat, 0 ≤ j → j ≤ 8 → x = nI j → False)) ∧ σ2 = σ)) v9 σ') q_noX := ⟨_, rfl⟩
  refine (?_ : AJ G K (q_Q G K false n 2 12 _ _) 0 0 false n 0 _ _ σ)
  rw [← hQ]
  refine A_aload_n hg dL_part_0 rfl rfl ?_
  refine A_iconst (v := (nI (0))) hg dL_part_1 (by decide) ?_
  refine A_aload_n hg dL_part_2 rfl rfl ?_
  refine A_iload_n hg dL_part_3 rfl rfl ?_
  refine A_iload_n hg dL_part_4 rfl rfl ?_
  refine A_hVX (kc2 := 2) (ks2 := 12) (As := [.int (p), .int (x)]) (rest := [.int (nI (0)), .ref (q_h G + 294)]) hg lk_RL_37 in_X10_part se_X10_part rfl dL_part_5 ⟨by decide, by decide⟩ rfl rfl ⟨by decide, by decide⟩ hc0 (by omega) rfl rfl (Nat.le_of_ble_eq_true rfl) (c_X10_part G false n σ z1 z2 z3 g p x hc0 (by omega) hG hM) ?_ ?_
  · skip
    intro E σx hx
    obtain ⟨hs9, hx⟩ := hx
    rw [hs9]
    rcases hx with ⟨rfl, h0⟩ | ⟨rfl, h0⟩
    · skip
      refine A_caught hg [] [(0, 10, 17, 13)] rfl (by decide) (by decide) clk_19 cst_19 (fun z hz => nomatch hz) (fun q9 => ?_)
      refine A_astore hg dL_part_13 (by decide) (q_c1d rfl) ?_
      refine A_eq (ls2 := [some (.ref (q_h G + 0)), some (.int (p)), some (.int (x)), some (.ref (q_h G + 294)), some (.ref q9)]) (st2 := []) (pc2 := 0) rfl rfl ?_
      refine A_iconst (v := (nI (1))) hg dL_part_15 (by decide) ?_
      rw [hQ]
      exact A_ireturn hg (by decide) (by decide) rfl dL_part_16 ⟨rfl, Or.inr (Or.inl (⟨rfl, h0, rfl⟩))⟩
    · skip
      refine A_caught hg [(0, 10, 13, 19)] [] rfl (by decide) (by decide) clk_13 cst_13 (List.forall_mem_cons.mpr ⟨⟨by decide, _, clk_19, nc_13_19⟩, (fun z hz => nomatch hz)⟩) (fun q9 => ?_)
      refine A_astore hg dL_part_17 (by decide) (q_c1d rfl) ?_
      refine A_eq (ls2 := [some (.ref (q_h G + 0)), some (.int (p)), some (.int (x)), some (.ref (q_h G + 294)), some (.ref q9)]) (st2 := []) (pc2 := 0) rfl rfl ?_
      refine A_iconst (v := (nI (2))) hg dL_part_19 (by decide) ?_
      rw [hQ]
      exact A_ireturn hg (by decide) (by decide) rfl dL_part_20 ⟨rfl, Or.inr (Or.inr ((⟨rfl, h0, rfl⟩)))⟩
  rintro _ σ_2 ⟨p1, x1, rfl, hpe, hpl, hxe, hxl, hM2, hf_1⟩
  refine (?_ : AJ G K Q 2 12 false n 8 [some (.ref (q_h G + 0)), some (.int (p)), some (.int (x)), some (.ref (q_h G + 294)), none] [.int (s_partA g p1 x1), .int (nI (0)), .ref (q_h G + 294)] σ_2)
  have hc_3 : σ_2 0 = o10 G (z1) (z2) (z3) := (hf_1 _ (by omega)).trans hc0
  have hc_4 : σ_2 294 = q_ln G 1 oL := (hf_1 _ (by omega)).trans hc1
  refine A_i2l (v := (s_partA g p1 x1).toInt64) hg dL_part_8 rfl ?_
  refine A_last (j := 0) (x := ((s_partA g p1 x1).toInt64)) hg dL_part_9 hc_4 (by omega) (by omega) (by decide) (fun σ_5 hc_6 hf_7 => ?_)
  have hc_8 : σ_5 0 = o10 G (z1) (z2) (z3) := (hf_7 _ (by omega)).trans hc_3
  refine A_goto (tgt := 21) hg dL_part_10 (by decide) ?_
  refine A_iconst (v := (nI (0))) hg dL_part_21 (by decide) ?_
  rw [hQ]
  exact A_ireturn hg (by decide) (by decide) rfl dL_part_22 ⟨rfl, Or.inl (⟨p1, x1, rfl, hpe, hpl, hxe, hxl, (x_mx_e (fun i _ _ => (hf_7 i (by omega))) hM2), hc_6, (fun i hi => ((hf_7 i (by omega)).trans (hf_1 i (by omega))))⟩)⟩
set_option maxRecDepth 100000 in
set_option maxHeartbeats 4000000 in
theorem c_L_allows (G : GL) (n : Nat) (σ : Nat → va_E) (z1 : Int32) (z2 : Int32) (z3 : Int32) (g : Nat → Nat) (r : Int32) (k : Int32) (l : Int32) (oL : Nat → Int64) (hc0 : σ 0 = o10 G (z1) (z2) (z3)) (hc1 : σ 294 = q_ln G 1 oL) (hn9 : 279 ≤ n) (hG : x_gm G σ 25 g) (h295n : 294 < n) : CtH G yL_allows cL_allows 6 (some .int) [(0, 19, 22, 19), (0, 19, 26, 13)] ⟨9, 3, 18, 156⟩ [.ref (q_h G + 0), .int (r), .int (k), .int (l), .ref (q_h G + 294)] n σ (fun v9 σ2 => (∃ (r1 : Nat), ∃ (a1 : Nat), ∃ (b1 : Nat), v9 = some (.int (nI (0))) ∧ (r = nI r1) ∧ (r1 < g 0) ∧ (k = nI a1) ∧ (l = nI b1) ∧ (a1 ≤ 40) ∧ (b1 ≤ 40) ∧ σ2 294 = q_ln G 1 (va_up oL 0 (lN (if s_al (s_rule g r1) a1 b1 = true then 1 else 0))) ∧ (∀ i : Nat, i ≠ 294 → σ2 i = σ i)) ∨ (v9 = some (.int (nI (1))) ∧ (∀ j : Nat, j < g 0 → r = nI j → False) ∧ σ2 = σ) ∨ (v9 = some (.int (nI (2))) ∧ (∃ r1 : Nat, r = nI r1 ∧ r1 < g 0 ∧ (∀ a b : Nat, a ≤ 40 → b ≤ 40 → k = nI a → l = nI b → False)) ∧ σ2 = σ)) := by
  refine q_enterH [some (.ref (q_h G + 0)), some (.int (r)), some (.int (k)), some (.int (l)), some (.ref (q_h G + 294)), none] (by decide) (Nat.le_of_ble_eq_true rfl) rfl ?_
  intro K hg
  obtain ⟨Q, hQ⟩ : ∃ Q, Q = q_Q G K false n 3 18 (fun v9 n' σ' => n' = n ∧ (fun v9 σ2 => (∃ (r1 : Nat), ∃ (a1 : Nat), ∃ (b1 : Nat), v9 = some (.int (nI (0))) ∧ (r = nI r1) ∧ (r1 < g 0) ∧ (k = nI a1) ∧ (l = nI b1) ∧ (a1 ≤ 40) ∧ (b1 ≤ 40) ∧ σ2 294 = q_ln G 1 (va_up oL 0 (lN (if s_al (s_rule g r1) a1 b1 = true then 1 else 0))) ∧ (∀ i : Nat, i ≠ 294 → σ2 i = σ i)) ∨ (v9 = some (.int (nI (1))) ∧ (∀ j : Nat, j < g 0 → r = nI j → False) ∧ σ2 = σ) ∨ (v9 = some (.int (nI (2))) ∧ (∃ r1 : Nat, r = nI r1 ∧ r1 < g 0 ∧ (∀ a b : Nat, a ≤ 40 → b ≤ 40 → k = nI a → l = nI b → False)) ∧ σ2 = σ)) v9 σ') q_noX := ⟨_, rfl⟩
  refine (?_ : AJ G K (q_Q G K false n 3 18 _ _) 0 0 false n 0 _ _ σ)
  rw [← hQ]
  refine A_aload hg dL_allows_0 rfl ?_
  refine A_iconst (v := (nI (0))) hg dL_allows_2 (by decide) ?_
  refine A_aload_n hg dL_allows_3 rfl rfl ?_
  refine A_iload_n hg dL_allows_4 rfl rfl ?_
  refine A_iload_n hg dL_allows_5 rfl rfl ?_
  refine A_iload_n hg dL_allows_6 rfl rfl ?_
  refine A_pVX (kc2 := 3) (ks2 := 18) (As := [.int (r), .int (k), .int (l)]) (rest := [.int (nI (0)), .ref (q_h G + 294)]) hg lk_RL_40 in_X10_allows se_X10_allows rfl dL_allows_7 ⟨by decide, by decide⟩ rfl rfl ⟨by decide, by decide⟩ hc0 (by omega) rfl rfl (Nat.le_of_ble_eq_true rfl) (c_X10_allows G false n σ z1 z2 z3 g r k l hc0 (by omega) hG) ?_ ?_
  · skip
    intro E σx hx
    obtain ⟨hs9, hx⟩ := hx
    rw [hs9]
    rcases hx with ⟨rfl, h0⟩ | ⟨rfl, h0⟩
    · skip
      refine A_caught hg [] [(0, 19, 26, 13)] rfl (by decide) (by decide) clk_19 cst_19 (fun z hz => nomatch hz) (fun q9 => ?_)
      refine A_astore hg dL_allows_22 (by decide) (q_c1d rfl) ?_
      refine A_eq (ls2 := [some (.ref (q_h G + 0)), some (.int (r)), some (.int (k)), some (.int (l)), some (.ref (q_h G + 294)), some (.ref q9)]) (st2 := []) (pc2 := 0) rfl rfl ?_
      refine A_iconst (v := (nI (1))) hg dL_allows_24 (by decide) ?_
      rw [hQ]
      exact A_ireturn hg (by decide) (by decide) rfl dL_allows_25 ⟨rfl, Or.inr (Or.inl (⟨rfl, h0, rfl⟩))⟩
    · skip
      refine A_caught hg [(0, 19, 22, 19)] [] rfl (by decide) (by decide) clk_13 cst_13 (List.forall_mem_cons.mpr ⟨⟨by decide, _, clk_19, nc_13_19⟩, (fun z hz => nomatch hz)⟩) (fun q9 => ?_)
      refine A_astore hg dL_allows_26 (by decide) (q_c1d rfl) ?_
      refine A_eq (ls2 := [some (.ref (q_h G + 0)), some (.int (r)), some (.int (k)), some (.int (l)), some (.ref (q_h G + 294)), some (.ref q9)]) (st2 := []) (pc2 := 0) rfl rfl ?_
      refine A_iconst (v := (nI (2))) hg dL_allows_28 (by decide) ?_
      rw [hQ]
      exact A_ireturn hg (by decide) (by decide) rfl dL_allows_29 ⟨rfl, Or.inr (Or.inr ((⟨rfl, h0, rfl⟩)))⟩
  rintro _ ⟨r1, a1, b1, rfl, hre, hrl, hke, hle, hkl, hll⟩
  refine (?_ : AJ G K Q 3 18 false n 10 [some (.ref (q_h G + 0)), some (.int (r)), some (.int (k)), some (.int (l)), some (.ref (q_h G + 294)), none] [.int (q_b (s_al (s_rule g r1) a1 b1)), .int (nI (0)), .ref (q_h G + 294)] σ)
  refine A_if_eqB (tgt := 17) hg dL_allows_10 (by decide) (fun c10 => ?_) (fun c10 => ?_)
  · skip
    refine A_lconst (v := (lN (0))) hg dL_allows_17 (by decide) ?_
    refine A_last (j := 0) (x := (lN (0))) hg dL_allows_18 hc1 (by omega) (by omega) (by decide) (fun σ_1 hc_2 hf_3 => ?_)
    have hc_4 : σ_1 0 = o10 G (z1) (z2) (z3) := (hf_3 _ (by omega)).trans hc0
    refine A_goto (tgt := 30) hg dL_allows_19 (by decide) ?_
    refine A_iconst (v := (nI (0))) hg dL_allows_30 (by decide) ?_
    rw [hQ]
    exact A_ireturn hg (by decide) (by decide) rfl dL_allows_31 ⟨rfl, Or.inl (⟨r1, a1, b1, rfl, hre, hrl, hke, hle, hkl, hll, (by have hz9 := hc_2; rw [if_neg (show ¬ (s_al (s_rule g r1) a1 b1 = true) by rw [c10]; decide)]; exact hz9), (fun i hi => (hf_3 i (by omega)))⟩)⟩
  · skip
    refine A_lconst (v := (lN (1))) hg dL_allows_13 (by decide) ?_
    refine A_goto (tgt := 18) hg dL_allows_14 (by decide) ?_
    refine A_last (j := 0) (x := (lN (1))) hg dL_allows_18 hc1 (by omega) (by omega) (by decide) (fun σ_5 hc_6 hf_7 => ?_)
    have hc_8 : σ_5 0 = o10 G (z1) (z2) (z3) := (hf_7 _ (by omega)).trans hc0
    refine A_goto (tgt := 30) hg dL_allows_19 (by decide) ?_
    refine A_iconst (v := (nI (0))) hg dL_allows_30 (by decide) ?_
    rw [hQ]
    exact A_ireturn hg (by decide) (by decide) rfl dL_allows_31 ⟨rfl, Or.inl (⟨r1, a1, b1, rfl, hre, hrl, hke, hle, hkl, hll, (by have hz9 := hc_6; rw [if_pos c10]; exact hz9), (fun i hi => (hf_7 i (by omega)))⟩)⟩
set_option maxRecDepth 100000 in
set_option maxHeartbeats 4000000 in
theorem c_L_whyNot (G : GL) (n : Nat) (σ : Nat → va_E) (z1 : Int32) (z2 : Int32) (z3 : Int32) (g : Nat → Nat) (p : Int32) (k : Int32) (l : Int32) (oL : Nat → Int64) (hc0 : σ 0 = o10 G (z1) (z2) (z3)) (hc1 : σ 294 = q_ln G 1 oL) (hn9 : 279 ≤ n) (hG : x_gm G σ 25 g) (h295n : 294 < n) : CtH G yL_whyNot cL_whyNot 6 (some .int) [(0, 12, 15, 19)] ⟨8, 1, 6, 134⟩ [.ref (q_h G + 0), .int (p), .int (k), .int (l), .ref (q_h G + 294)] n σ (fun v9 σ2 => (∃ (p1 : Nat), v9 = some (.int (nI (0))) ∧ (p = nI p1) ∧ (p1 < s_np g) ∧ σ2 294 = q_ln G 1 (va_up oL 0 ((nI (s_refI g p1 k l)).toInt64)) ∧ (∀ i : Nat, i ≠ 294 → σ2 i = σ i)) ∨ (v9 = some (.int (nI (1))) ∧ (∀ j : Nat, j < s_np g → p = nI j → False) ∧ σ2 = σ)) := by
  refine q_enterH [some (.ref (q_h G + 0)), some (.int (p)), some (.int (k)), some (.int (l)), some (.ref (q_h G + 294)), none] (by decide) (Nat.le_of_ble_eq_true rfl) rfl ?_
  intro K hg
  obtain ⟨Q, hQ⟩ : ∃ Q, Q = q_Q G K false n 1 6 (fun v9 n' σ' => n' = n ∧ (fun v9 σ2 => (∃ (p1 : Nat), v9 = some (.int (nI (0))) ∧ (p = nI p1) ∧ (p1 < s_np g) ∧ σ2 294 = q_ln G 1 (va_up oL 0 ((nI (s_refI g p1 k l)).toInt64)) ∧ (∀ i : Nat, i ≠ 294 → σ2 i = σ i)) ∨ (v9 = some (.int (nI (1))) ∧ (∀ j : Nat, j < s_np g → p = nI j → False) ∧ σ2 = σ)) v9 σ') q_noX := ⟨_, rfl⟩
  refine (?_ : AJ G K (q_Q G K false n 1 6 _ _) 0 0 false n 0 _ _ σ)
  rw [← hQ]
  refine A_aload hg dL_whyNot_0 rfl ?_
  refine A_iconst (v := (nI (0))) hg dL_whyNot_2 (by decide) ?_
  refine A_aload_n hg dL_whyNot_3 rfl rfl ?_
  refine A_iload_n hg dL_whyNot_4 rfl rfl ?_
  refine A_iload_n hg dL_whyNot_5 rfl rfl ?_
  refine A_iload_n hg dL_whyNot_6 rfl rfl ?_
  refine A_pVX (kc2 := 1) (ks2 := 6) (As := [.int (p), .int (k), .int (l)]) (rest := [.int (nI (0)), .ref (q_h G + 294)]) hg lk_RL_44 in_X10_whyNot se_X10_whyNot rfl dL_whyNot_7 ⟨by decide, by decide⟩ rfl rfl ⟨by decide, by decide⟩ hc0 (by omega) rfl rfl (Nat.le_of_ble_eq_true rfl) (c_X10_whyNot G false n σ z1 z2 z3 g p k l hc0 (by omega) hG) ?_ ?_
  · skip
    intro E σx hx
    obtain ⟨hs9, hx⟩ := hx
    rw [hs9]
    obtain ⟨rfl, h0⟩ := hx
    refine A_caught hg [] [] rfl (by decide) (by decide) clk_19 cst_19 (fun z hz => nomatch hz) (fun q9 => ?_)
    refine A_astore hg dL_whyNot_15 (by decide) (q_c1d rfl) ?_
    refine A_eq (ls2 := [some (.ref (q_h G + 0)), some (.int (p)), some (.int (k)), some (.int (l)), some (.ref (q_h G + 294)), some (.ref q9)]) (st2 := []) (pc2 := 0) rfl rfl ?_
    refine A_iconst (v := (nI (1))) hg dL_whyNot_17 (by decide) ?_
    rw [hQ]
    exact A_ireturn hg (by decide) (by decide) rfl dL_whyNot_18 ⟨rfl, Or.inr ((⟨rfl, h0, rfl⟩))⟩
  rintro _ ⟨p1, rfl, hpe, hpl⟩
  refine (?_ : AJ G K Q 1 6 false n 10 [some (.ref (q_h G + 0)), some (.int (p)), some (.int (k)), some (.int (l)), some (.ref (q_h G + 294)), none] [.int (nI (s_refI g p1 k l)), .int (nI (0)), .ref (q_h G + 294)] σ)
  refine A_i2l (v := (nI (s_refI g p1 k l)).toInt64) hg dL_whyNot_10 rfl ?_
  refine A_last (j := 0) (x := ((nI (s_refI g p1 k l)).toInt64)) hg dL_whyNot_11 hc1 (by omega) (by omega) (by decide) (fun σ_1 hc_2 hf_3 => ?_)
  have hc_4 : σ_1 0 = o10 G (z1) (z2) (z3) := (hf_3 _ (by omega)).trans hc0
  refine A_goto (tgt := 19) hg dL_whyNot_12 (by decide) ?_
  refine A_iconst (v := (nI (0))) hg dL_whyNot_19 (by decide) ?_
  rw [hQ]
  exact A_ireturn hg (by decide) (by decide) rfl dL_whyNot_20 ⟨rfl, Or.inl (⟨p1, rfl, hpe, hpl, hc_2, (fun i hi => (hf_3 i (by omega)))⟩)⟩
end
