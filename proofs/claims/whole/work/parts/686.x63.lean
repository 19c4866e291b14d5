section
set_option maxRecDepth 100000 in
set_option maxHeartbeats 4000000 in
theorem c_L_setSlack (G : GL) (n : Nat) (σ : Nat → va_E) (z1 : Int32) (z2 : Int32) (z3 : Int32) (g : Nat → Nat) (nx : Nat) (m : Nat) (ps : Nat → Nat → Nat) (r : Int32) (x : Int32) (oL : Nat → Int64) (hc0 : σ 0 = o10 G (z1) (z2) (z3)) (hc1 : σ 294 = q_ln G 1 oL) (hn9 : 279 ≤ n) (hG : x_gm G σ 25 g) (hHi : x_hi G σ nx m ps) (h295n : 294 < n) : CtH G yL_setSlack cL_setSlack 5 (some .int) [(0, 10, 13, 19), (0, 10, 17, 13)] ⟨8, 2, 12, 136⟩ [.ref (q_h G + 0), .int (r), .int (x), .ref (q_h G + 294)] n σ (fun v9 σ2 => (∃ (r1 : Nat), ∃ (x1 : Nat), v9 = some (.int (nI (0))) ∧ (r = nI r1) ∧ (r1 < g 0) ∧ (x = nI x1) ∧ (0 ≤ x1) ∧ (x1 ≤ 5) ∧ (x_gm G σ2 25 (s_rset g r1 18 x1)) ∧ (x_hi G σ2 ((nx + 1) % 8) (min (m + 1) 8) (x_psh m ps g)) ∧ σ2 294 = q_ln G 1 (va_up oL 0 ((nI (s_rule g r1 18)).toInt64)) ∧ (∀ i : Nat, (i < 25 ∨ (42 < i ∧ i < 78) ∨ 223 < i) ∧ i ≠ 294 → σ2 i = σ i)) ∨ (v9 = some (.int (nI (1))) ∧ (∀ j : Nat, j < g 0 → r = nI j → False) ∧ σ2 = σ) ∨ (v9 = some (.int (nI (2))) ∧ (∃ r1 : Nat, r = nI r1 ∧ r1 < g 0 ∧ ∀ j : Nat, 0 ≤ j → j ≤ 5 → x = nI j → False) ∧ σ2 = σ)) := by
  refine q_enterH [some (.ref (q_h G + 0)), some (.int (r)), some (.int (x)), some (.ref (q_h G + 294)), none] (by decide) (Nat.le_of_ble_eq_true rfl) rfl ?_
  intro K hg
  obtain ⟨Q, hQ⟩ : ∃ Q, Q = q_Q G K false n 2 12 (fun v9 n' σ' => n' = n ∧ (fun v9 σ2 => (∃ (r1 : Nat), ∃ (x1 : Nat), v9 = some (.int (nI (0))) ∧ (r = nI r1) ∧ (r1 < g 0) ∧ (x = nI x1) ∧ (0 ≤ x1) ∧ (x1 ≤ 5) ∧ (x_gm G σ2 25 (s_rset g r1 18 x1)) ∧ (x_hi G σ2 ((nx + 1) % 8) (min (m + 1) 8) (x_psh m ps g)) ∧ σ2 294 = q_ln G 1 (va_up oL 0 ((nI (s_rule g r1 18)).toInt64)) ∧ (∀ i : Nat, (i < 25 ∨ (42 < i ∧ i < 78) ∨ 223 < i) ∧ i ≠ 294 → σ2 i = σ i)) ∨ (v9 = some (.int (nI (1))) ∧ (∀ j : Nat, j < g 0 → r = nI j → False) ∧ σ2 = σ) ∨ (v9 = some (.int (nI (2))) ∧ (∃ r1 : Nat, r = nI r1 ∧ r1 < g 0 ∧ ∀ j : Nat, 0 ≤ j → j ≤ 5 → x = nI j → False) ∧ σ2 = σ)) v9 σ') q_noX := ⟨_, rfl⟩
  refine (?_ : AJ G K (q_Q G K false n 2 12 _ _) 0 0 false n 0 _ _ σ)
  rw [← hQ]
  refine A_aload_n hg dL_setSlack_0 rfl rfl ?_
  refine A_iconst (v := (nI (0))) hg dL_setSlack_1 (by decide) ?_
  refine A_aload_n hg dL_setSlack_2 rfl rfl ?_
  refine A_iload_n hg dL_setSlack_3 rfl rfl ?_
  refine A_iload_n hg dL_setSlack_4 rfl rfl ?_
  refine A_hVX (kc2 := 2) (ks2 := 12) (As := [.int (r), .int (x)]) (rest := [.int (nI (0)), .ref (q_h G + 294)]) hg lk_RL_114 in_X10_setSlack se_X10_setSlack rfl dL_setSlack_5 ⟨by decide, by decide⟩ rfl rfl ⟨by decide, by decide⟩ hc0 (by omega) rfl rfl (Nat.le_of_ble_eq_true rfl) (c_X10_setSlack G false n σ z1 z2 z3 g nx m ps r x hc0 (by omega) hG hHi) ?_ ?_
  · skip
    intro E σx hx
    obtain ⟨hs9, hx⟩ := hx
    rw [hs9]
    rcases hx with ⟨rfl, h0⟩ | ⟨rfl, h0⟩
    · skip
      refine A_caught hg [] [(0, 10, 17, 13)] rfl (by decide) (by decide) clk_19 cst_19 (fun z hz => nomatch hz) (fun q9 => ?_)
      refine A_astore hg dL_setSlack_13 (by decide) (q_c1d rfl) ?_
      refine A_eq (ls2 := [some (.ref (q_h G + 0)), some (.int (r)), some (.int (x)), some (.ref (q_h G + 294)), some (.ref q9)]) (st2 := []) (pc2 := 0) rfl rfl ?_
      refine A_iconst (v := (nI (1))) hg dL_setSlack_15 (by decide) ?_
      rw [hQ]
      exact A_ireturn hg (by decide) (by decide) rfl dL_setSlack_16 ⟨rfl, Or.inr (Or.inl (⟨rfl, h0, rfl⟩))⟩
    · skip
      refine A_caught hg [(0, 10, 13, 19)] [] rfl (by decide) (by decide) clk_13 cst_13 (List.forall_mem_cons.mpr ⟨⟨by decide, _, clk_19, nc_13_19⟩, (fun z hz => nomatch hz)⟩) (fun q9 => ?_)
      refine A_astore hg dL_setSlack_17 (by decide) (q_c1d rfl) ?_
      refine A_eq (ls2 := [some (.ref (q_h G + 0)), some (.int (r)), some (.int (x)), some (.ref (q_h G + 294)), some (.ref q9)]) (st2 := []) (pc2 := 0) rfl rfl ?_
      refine A_iconst (v := (nI (2))) hg dL_setSlack_19 (by decide) ?_
      rw [hQ]
      exact A_ireturn hg (by decide) (by decide) rfl dL_setSlack_20 ⟨rfl, Or.inr (Or.inr ((⟨rfl, h0, rfl⟩)))⟩
  rintro _ σ_2 ⟨r1, x1, rfl, hre, hrl, hxe, hxa, hxl, hG2, hHi2, hf_1⟩
  refine (?_ : AJ G K Q 2 12 false n 8 [some (.ref (q_h G + 0)), some (.int (r)), some (.int (x)), some (.ref (q_h G + 294)), none] [.int (nI (s_rule g r1 18)), .int (nI (0)), .ref (q_h G + 294)] σ_2)
  have hc_3 : σ_2 0 = o10 G (z1) (z2) (z3) := (hf_1 _ (by omega)).trans hc0
  have hc_4 : σ_2 294 = q_ln G 1 oL := (hf_1 _ (by omega)).trans hc1
  refine A_i2l (v := (nI (s_rule g r1 18)).toInt64) hg dL_setSlack_8 rfl ?_
  refine A_last (j := 0) (x := ((nI (s_rule g r1 18)).toInt64)) hg dL_setSlack_9 hc_4 (by omega) (by omega) (by decide) (fun σ_5 hc_6 hf_7 => ?_)
  have hc_8 : σ_5 0 = o10 G (z1) (z2) (z3) := (hf_7 _ (by omega)).trans hc_3
  refine A_goto (tgt := 21) hg dL_setSlack_10 (by decide) ?_
  refine A_iconst (v := (nI (0))) hg dL_setSlack_21 (by decide) ?_
  rw [hQ]
  exact A_ireturn hg (by decide) (by decide) rfl dL_setSlack_22 ⟨rfl, Or.inl (⟨r1, x1, rfl, hre, hrl, hxe, hxa, hxl, (x_gm_e (fun i _ _ => (hf_7 i (by omega))) hG2), (x_hi_e (fun i _ _ => (hf_7 i (by omega))) hHi2), hc_6, (fun i hi => ((hf_7 i (by omega)).trans (hf_1 i (by omega))))⟩)⟩
set_option maxRecDepth 100000 in
set_option maxHeartbeats 4000000 in
theorem c_L_setMost (G : GL) (n : Nat) (σ : Nat → va_E) (z1 : Int32) (z2 : Int32) (z3 : Int32) (g : Nat → Nat) (nx : Nat) (m : Nat) (ps : Nat → Nat → Nat) (r : Int32) (x : Int32) (oL : Nat → Int64) (hc0 : σ 0 = o10 G (z1) (z2) (z3)) (hc1 : σ 294 = q_ln G 1 oL) (hn9 : 279 ≤ n) (hG : x_gm G σ 25 g) (hHi : x_hi G σ nx m ps) (h295n : 294 < n) : CtH G yL_setMost cL_setMost 5 (some .int) [(0, 10, 13, 19), (0, 10, 17, 13)] ⟨8, 2, 12, 136⟩ [.ref (q_h G + 0), .int (r), .int (x), .ref (q_h G + 294)] n σ (fun v9 σ2 => (∃ (r1 : Nat), ∃ (x1 : Nat), v9 = some (.int (nI (0))) ∧ (r = nI r1) ∧ (r1 < g 0) ∧ (x = nI x1) ∧ (1 ≤ x1) ∧ (x1 ≤ 40) ∧ (x_gm G σ2 25 (s_rset g r1 19 x1)) ∧ (x_hi G σ2 ((nx + 1) % 8) (min (m + 1) 8) (x_psh m ps g)) ∧ σ2 294 = q_ln G 1 (va_up oL 0 ((nI (s_rule g r1 19)).toInt64)) ∧ (∀ i : Nat, (i < 25 ∨ (42 < i ∧ i < 78) ∨ 223 < i) ∧ i ≠ 294 → σ2 i = σ i)) ∨ (v9 = some (.int (nI (1))) ∧ (∀ j : Nat, j < g 0 → r = nI j → False) ∧ σ2 = σ) ∨ (v9 = some (.int (nI (2))) ∧ (∃ r1 : Nat, r = nI r1 ∧ r1 < g 0 ∧ ∀ j : Nat, 1 ≤ j → j ≤ 40 → x = nI j → False) ∧ σ2 = σ)) := by
  refine q_enterH [some (.ref (q_h G + 0)), some (.int (r)), some (.int (x)), some (.ref (q_h G + 294)), none] (by decide) (Nat.le_of_ble_eq_true rfl) rfl ?_
  intro K hg
  obtain ⟨Q, hQ⟩ : ∃ Q, Q = q_Q G K false n 2 12 (fun v9 n' σ' => n' = n ∧ (fun v9 σ2 => (∃ (r1 : Nat), ∃ (x1 : Nat), v9 = some (.int (nI (0))) ∧ (r = nI r1) ∧ (r1 < g 0) ∧ (x = nI x1) ∧ (1 ≤ x1) ∧ (x1 ≤ 40) ∧ (x_gm G σ2 25 (s_rset g r1 19 x1)) ∧ (x_hi G σ2 ((nx + 1) % 8) (min (m + 1) 8) (x_psh m ps g)) ∧ σ2 294 = q_ln G 1 (va_up oL 0 ((nI (s_rule g r1 19)).toInt64)) ∧ (∀ i : Nat, (i < 25 ∨ (42 < i ∧ i < 78) ∨ 223 < i) ∧ i ≠ 294 → σ2 i = σ i)) ∨ (v9 = some (.int (nI (1))) ∧ (∀ j : Nat, j < g 0 → r = nI j → False) ∧ σ2 = σ) ∨ (v9 = some (.int (nI (2))) ∧ (∃ r1 : Nat, r = nI r1 ∧ r1 < g 0 ∧ ∀ j : Nat, 1 ≤ j → j ≤ 40 → x = nI j → False) ∧ σ2 = σ)) v9 σ') q_noX := ⟨_, rfl⟩
  refine (?_ : AJ G K (q_Q G K false n 2 12 _ _) 0 0 false n 0 _ _ σ)
  rw [← hQ]
  refine A_aload_n hg dL_setMost_0 rfl rfl ?_
  refine A_iconst (v := (nI (0))) hg dL_setMost_1 (by decide) ?_
  refine A_aload_n hg dL_setMost_2 rfl rfl ?_
  refine A_iload_n hg dL_setMost_3 rfl rfl ?_
  refine A_iload_n hg dL_setMost_4 rfl rfl ?_
  refine A_hVX (kc2 := 2) (ks2 := 12) (As := [.int (r), .int (x)]) (rest := [.int (nI (0)), .ref (q_h G + 294)]) hg lk_RL_117 in_X10_setMost se_X10_setMost rfl dL_setMost_5 ⟨by decide, by decide⟩ rfl rfl ⟨by decide, by decide⟩ hc0 (by omega) rfl rfl (Nat.le_of_ble_eq_true rfl) (c_X10_setMost G false n σ z1 z2 z3 g nx m ps r x hc0 (by omega) hG hHi) ?_ ?_
  · skip
    intro E σx hx
    obtain ⟨hs9, hx⟩ := hx
    rw [hs9]
    rcases hx with ⟨rfl, h0⟩ | ⟨rfl, h0⟩
    · skip
      refine A_caught hg [] [(0, 10, 17, 13)] rfl (by decide) (by decide) clk_19 cst_19 (fun z hz => nomatch hz) (fun q9 => ?_)
      refine A_astore hg dL_setMost_13 (by decide) (q_c1d rfl) ?_
      refine A_eq (ls2 := [some (.ref (q_h G + 0)), some (.int (r)), some (.int (x)), some (.ref (q_h G + 294)), some (.ref q9)]) (st2 := []) (pc2 := 0) rfl rfl ?_
      refine A_iconst (v := (nI (1))) hg dL_setMost_15 (by decide) ?_
      rw [hQ]
      exact A_ireturn hg (by decide) (by decide) rfl dL_setMost_16 ⟨rfl, Or.inr (Or.inl (⟨rfl, h0, rfl⟩))⟩
    · skip
      refine A_caught hg [(0, 10, 13, 19)] [] rfl (by decide) (by decide) clk_13 cst_13 (List.forall_mem_cons.mpr ⟨⟨by decide, _, clk_19, nc_13_19⟩, (fun z hz => nomatch hz)⟩) (fun q9 => ?_)
      refine A_astore hg dL_setMost_17 (by decide) (q_c1d rfl) ?_
      refine A_eq (ls2 := [some (.ref (q_h G + 0)), some (.int (r)), some (.int (x)), some (.ref (q_h G + 294)), some (.ref q9)]) (st2 := []) (pc2 := 0) rfl rfl ?_
      refine A_iconst (v := (nI (2))) hg dL_setMost_19 (by decide) ?_
      rw [hQ]
      exact A_ireturn hg (by decide) (by decide) rfl dL_setMost_20 ⟨rfl, Or.inr (Or.inr ((⟨rfl, h0, rfl⟩)))⟩
  rintro _ σ_2 ⟨r1, x1, rfl, hre, hrl, hxe, hxa, hxl, hG2, hHi2, hf_1⟩
  refine (?_ : AJ G K Q 2 12 false n 8 [some (.ref (q_h G + 0)), some (.int (r)), some (.int (x)), some (.ref (q_h G + 294)), none] [.int (nI (s_rule g r1 19)), .int (nI (0)), .ref (q_h G + 294)] σ_2)
  have hc_3 : σ_2 0 = o10 G (z1) (z2) (z3) := (hf_1 _ (by omega)).trans hc0
  have hc_4 : σ_2 294 = q_ln G 1 oL := (hf_1 _ (by omega)).trans hc1
  refine A_i2l (v := (nI (s_rule g r1 19)).toInt64) hg dL_setMost_8 rfl ?_
  refine A_last (j := 0) (x := ((nI (s_rule g r1 19)).toInt64)) hg dL_setMost_9 hc_4 (by omega) (by omega) (by decide) (fun σ_5 hc_6 hf_7 => ?_)
  have hc_8 : σ_5 0 = o10 G (z1) (z2) (z3) := (hf_7 _ (by omega)).trans hc_3
  refine A_goto (tgt := 21) hg dL_setMost_10 (by decide) ?_
  refine A_iconst (v := (nI (0))) hg dL_setMost_21 (by decide) ?_
  rw [hQ]
  exact A_ireturn hg (by decide) (by decide) rfl dL_setMost_22 ⟨rfl, Or.inl (⟨r1, x1, rfl, hre, hrl, hxe, hxa, hxl, (x_gm_e (fun i _ _ => (hf_7 i (by omega))) hG2), (x_hi_e (fun i _ _ => (hf_7 i (by omega))) hHi2), hc_6, (fun i hi => ((hf_7 i (by omega)).trans (hf_1 i (by omega))))⟩)⟩
set_option maxRecDepth 100000 in
set_option maxHeartbeats 4000000 in
theorem c_L_again (G : GL) (n : Nat) (σ : Nat → va_E) (z1 : Int32) (z2 : Int32) (z3 : Int32) (g : Nat → Nat) (nx : Nat) (m : Nat) (ps : Nat → Nat → Nat) (p : Int32) (oL : Nat → Int64) (hc0 : σ 0 = o10 G (z1) (z2) (z3)) (hc1 : σ 294 = q_ln G 1 oL) (hn9 : 279 ≤ n) (hG : x_gm G σ 25 g) (hM : x_mx G σ) (hHi : x_hi G σ nx m ps) (h295n : 294 < n) : CtH G yL_again cL_again 4 (some .int) [(0, 9, 12, 19)] ⟨8, 1, 6, 161⟩ [.ref (q_h G + 0), .int (p), .ref (q_h G + 294)] n σ (fun v9 σ2 => (∃ (p1 : Nat), v9 = some (.int (nI (0))) ∧ (p = nI p1) ∧ (p1 ≤ 1) ∧ (x_gm G σ2 25 (s_again g p1)) ∧ (x_hi G σ2 ((nx + 1) % 8) (min (m + 1) 8) (x_psh m ps g)) ∧ (x_mx G σ2) ∧ σ2 294 = q_ln G 1 (va_up oL 0 ((nI (s_tot (s_again g p1))).toInt64)) ∧ (∀ i : Nat, (i < 25 ∨ 223 < i) ∧ i ≠ 294 → σ2 i = σ i)) ∨ (v9 = some (.int (nI (1))) ∧ (∀ j : Nat, 0 ≤ j → j ≤ 1 → p = nI j → False) ∧ σ2 = σ)) := by
  refine q_enterH [some (.ref (q_h G + 0)), some (.int (p)), some (.ref (q_h G + 294)), none] (by decide) (Nat.le_of_ble_eq_true rfl) rfl ?_
  intro K hg
  obtain ⟨Q, hQ⟩ : ∃ Q, Q = q_Q G K false n 1 6 (fun v9 n' σ' => n' = n ∧ (fun v9 σ2 => (∃ (p1 : Nat), v9 = some (.int (nI (0))) ∧ (p = nI p1) ∧ (p1 ≤ 1) ∧ (x_gm G σ2 25 (s_again g p1)) ∧ (x_hi G σ2 ((nx + 1) % 8) (min (m + 1) 8) (x_psh m ps g)) ∧ (x_mx G σ2) ∧ σ2 294 = q_ln G 1 (va_up oL 0 ((nI (s_tot (s_again g p1))).toInt64)) ∧ (∀ i : Nat, (i < 25 ∨ 223 < i) ∧ i ≠ 294 → σ2 i = σ i)) ∨ (v9 = some (.int (nI (1))) ∧ (∀ j : Nat, 0 ≤ j → j ≤ 1 → p = nI j → False) ∧ σ2 = σ)) v9 σ') q_noX := ⟨_, rfl⟩
  refine (?_ : AJ G K (q_Q G K false n 1 6 _ _) 0 0 false n 0 _ _ σ)
  rw [← hQ]
  refine A_aload_n hg dL_again_0 rfl rfl ?_
  refine A_iconst (v := (nI (0))) hg dL_again_1 (by decide) ?_
  refine A_aload_n hg dL_again_2 rfl rfl ?_
  refine A_iload_n hg dL_again_3 rfl rfl ?_
  refine A_hVX (kc2 := 1) (ks2 := 6) (As := [.int (p)]) (rest := [.int (nI (0)), .ref (q_h G + 294)]) hg lk_RL_120 in_X10_again se_X10_again rfl dL_again_4 ⟨by decide, by decide⟩ rfl rfl ⟨by decide, by decide⟩ hc0 (by omega) rfl rfl (Nat.le_of_ble_eq_true rfl) (c_X10_again G false n σ z1 z2 z3 g nx m ps p hc0 (by omega) hG hM hHi) ?_ ?_
  · skip
    intro E σx hx
    obtain ⟨hs9, hx⟩ := hx
    rw [hs9]
    obtain ⟨rfl, h0⟩ := hx
    refine A_caught hg [] [] rfl (by decide) (by decide) clk_19 cst_19 (fun z hz => nomatch hz) (fun q9 => ?_)
    refine A_astore_n hg dL_again_12 rfl (by decide) (q_c1d rfl) ?_
    refine A_eq (ls2 := [some (.ref (q_h G + 0)), some (.int (p)), some (.ref (q_h G + 294)), some (.ref q9)]) (st2 := []) (pc2 := 0) rfl rfl ?_
    refine A_iconst (v := (nI (1))) hg dL_again_13 (by decide) ?_
    rw [hQ]
    exact A_ireturn hg (by decide) (by decide) rfl dL_again_14 ⟨rfl, Or.inr ((⟨rfl, h0, rfl⟩))⟩
  rintro _ σ_2 ⟨p1, rfl, hpe, hpl, hG2, hHi2, hM2, hf_1⟩
  refine (?_ : AJ G K Q 1 6 false n 7 [some (.ref (q_h G + 0)), some (.int (p)), some (.ref (q_h G + 294)), none] [.int (nI (s_tot (s_again g p1))), .int (nI (0)), .ref (q_h G + 294)] σ_2)
  have hc_3 : σ_2 0 = o10 G (z1) (z2) (z3) := (hf_1 _ (by omega)).trans hc0
  have hc_4 : σ_2 294 = q_ln G 1 oL := (hf_1 _ (by omega)).trans hc1
  refine A_i2l (v := (nI (s_tot (s_again g p1))).toInt64) hg dL_again_7 rfl ?_
  refine A_last (j := 0) (x := ((nI (s_tot (s_again g p1))).toInt64)) hg dL_again_8 hc_4 (by omega) (by omega) (by decide) (fun σ_5 hc_6 hf_7 => ?_)
  have hc_8 : σ_5 0 = o10 G (z1) (z2) (z3) := (hf_7 _ (by omega)).trans hc_3
  refine A_goto (tgt := 15) hg dL_again_9 (by decide) ?_
  refine A_iconst (v := (nI (0))) hg dL_again_15 (by decide) ?_
  rw [hQ]
  exact A_ireturn hg (by decide) (by decide) rfl dL_again_16 ⟨rfl, Or.inl (⟨p1, rfl, hpe, hpl, (x_gm_e (fun i _ _ => (hf_7 i (by omega))) hG2), (x_hi_e (fun i _ _ => (hf_7 i (by omega))) hHi2), (x_mx_e (fun i _ _ => (hf_7 i (by omega))) hM2), hc_6, (fun i hi => ((hf_7 i (by omega)).trans (hf_1 i (by omega))))⟩)⟩
set_option maxRecDepth 100000 in
set_option maxHeartbeats 4000000 in
theorem c_L_undo (G : GL) (n : Nat) (σ : Nat → va_E) (z1 : Int32) (z2 : Int32) (z3 : Int32) (g : Nat → Nat) (nx : Nat) (m : Nat) (ps : Nat → Nat → Nat) (oL : Nat → Int64) (hc0 : σ 0 = o10 G (z1) (z2) (z3)) (hc1 : σ 294 = q_ln G 1 oL) (hn9 : 279 ≤ n) (hG : x_gm G σ 25 g) (hHi : x_hi G σ nx m ps) (h295n : 294 < n) : CtH G yL_undo cL_undo 3 (some .int) [(0, 8, 11, 127)] ⟨7, 1, 6, 115⟩ [.ref (q_h G + 0), .ref (q_h G + 294)] n σ (fun v9 σ2 => (v9 = some (.int (nI (0))) ∧ (¬ m = 0) ∧ (x_gm G σ2 25 (ps (m - 1))) ∧ (x_hi G σ2 ((nx + 8 - 1) % 8) (m - 1) ps) ∧ σ2 294 = q_ln G 1 (va_up oL 0 ((nI (m - 1)).toInt64)) ∧ (∀ i : Nat, (i < 25 ∨ (42 < i ∧ i < 78) ∨ 78 < i) ∧ i ≠ 294 → σ2 i = σ i)) ∨ (v9 = some (.int (nI (1))) ∧ (m = 0) ∧ σ2 = σ)) := by
  refine q_enterH [some (.ref (q_h G + 0)), some (.ref (q_h G + 294)), none] (by decide) (Nat.le_of_ble_eq_true rfl) rfl ?_
  intro K hg
  obtain ⟨Q, hQ⟩ : ∃ Q, Q = q_Q G K false n 1 6 (fun v9 n' σ' => n' = n ∧ (fun v9 σ2 => (v9 = some (.int (nI (0))) ∧ (¬ m = 0) ∧ (x_gm G σ2 25 (ps (m - 1))) ∧ (x_hi G σ2 ((nx + 8 - 1) % 8) (m - 1) ps) ∧ σ2 294 = q_ln G 1 (va_up oL 0 ((nI (m - 1)).toInt64)) ∧ (∀ i : Nat, (i < 25 ∨ (42 < i ∧ i < 78) ∨ 78 < i) ∧ i ≠ 294 → σ2 i = σ i)) ∨ (v9 = some (.int (nI (1))) ∧ (m = 0) ∧ σ2 = σ)) v9 σ') q_noX := ⟨_, rfl⟩
  refine (?_ : AJ G K (q_Q G K false n 1 6 _ _) 0 0 false n 0 _ _ σ)
  rw [← hQ]
  refine A_aload_n hg dL_undo_0 rfl rfl ?_
  refine A_iconst (v := (nI (0))) hg dL_undo_1 (by decide) ?_
  refine A_aload_n hg dL_undo_2 rfl rfl ?_
  refine A_hVX (kc2 := 1) (ks2 := 6) (As := []) (rest := [.int (nI (0)), .ref (q_h G + 294)]) hg lk_RL_123 in_X10_undo se_X10_undo rfl dL_undo_3 ⟨by decide, by decide⟩ rfl rfl ⟨by decide, by decide⟩ hc0 (by omega) rfl rfl (Nat.le_of_ble_eq_true rfl) (c_X10_undo G false n σ z1 z2 z3 g nx m ps hc0 (by omega) hG hHi) ?_ ?_
  · skip
    intro E σx hx
    obtain ⟨hs9, hx⟩ := hx
    rw [hs9]
    obtain ⟨rfl, h0⟩ := hx
    refine A_caught hg [] [] rfl (by decide) (by decide) clk_127 cst_127 (fun z hz => nomatch hz) (fun q9 => ?_)
    refine A_astore_n hg dL_undo_11 rfl (by decide) (q_c1d rfl) ?_
    refine A_eq (ls2 := [some (.ref (q_h G + 0)), some (.ref (q_h G + 294)), some (.ref q9)]) (st2 := []) (pc2 := 0) rfl rfl ?_
    refine A_iconst (v := (nI (1))) hg dL_undo_12 (by decide) ?_
    rw [hQ]
    exact A_ireturn hg (by decide) (by decide) rfl dL_undo_13 ⟨rfl, Or.inr ((⟨rfl, h0, rfl⟩))⟩
  rintro _ σ_2 ⟨rfl, hm1, hG2, hHi2, hf_1⟩
  refine (?_ : AJ G K Q 1 6 false n 6 [some (.ref (q_h G + 0)), some (.ref (q_h G + 294)), none] [.int (nI (m - 1)), .int (nI (0)), .ref (q_h G + 294)] σ_2)
  have hc_3 : σ_2 0 = o10 G (z1) (z2) (z3) := (hf_1 _ (by omega)).trans hc0
  have hc_4 : σ_2 294 = q_ln G 1 oL := (hf_1 _ (by omega)).trans hc1
  refine A_i2l (v := (nI (m - 1)).toInt64) hg dL_undo_6 rfl ?_
  refine A_last (j := 0) (x := ((nI (m - 1)).toInt64)) hg dL_undo_7 hc_4 (by omega) (by omega) (by decide) (fun σ_5 hc_6 hf_7 => ?_)
  have hc_8 : σ_5 0 = o10 G (z1) (z2) (z3) := (hf_7 _ (by omega)).trans hc_3
  refine A_goto (tgt := 14) hg dL_undo_8 (by decide) ?_
  refine A_iconst (v := (nI (0))) hg dL_undo_14 (by decide) ?_
  rw [hQ]
  exact A_ireturn hg (by decide) (by decide) rfl dL_undo_15 ⟨rfl, Or.inl (⟨rfl, hm1, (x_gm_e (fun i _ _ => (hf_7 i (by omega))) hG2), (x_hi_e (fun i _ _ => (hf_7 i (by omega))) hHi2), hc_6, (fun i hi => ((hf_7 i (by omega)).trans (hf_1 i (by omega))))⟩)⟩
set_option maxRecDepth 100000 in
set_option maxHeartbeats 4000000 in
theorem c_L_printRule (G : GL) (n : Nat) (σ : Nat → va_E) (z1 : Int32) (z2 : Int32) (z3 : Int32) (x : Int32) (o : Nat → Nat) (g : Nat → Nat) (r : Int32) (oL : Nat → Int64) (hc0 : σ 0 = o10 G (z1) (z2) (z3)) (hc1 : σ 23 = o5 G (23) (x)) (hc2 : σ 24 = q_an G 256 o) (hc3 : σ 294 = q_ln G 1 oL) (hn9 : 279 ≤ n) (hG : x_gm G σ 25 g) (h295n : 294 < n) : CtH G yL_printRule cL_printRule 4 (some .int) [(0, 9, 12, 19)] ⟨8, 1, 6, 134⟩ [.ref (q_h G + 0), .int (r), .ref (q_h G + 294)] n σ (fun v9 σ2 => (∃ (r1 : Nat), ∃ (o' : Nat → Nat), v9 = some (.int (nI (0))) ∧ (r = nI r1) ∧ (r1 < g 0) ∧ (∀ j : Nat, j < (s_prR (s_rule g r1)).length → o' j = (s_prR (s_rule g r1)).getD j 0) ∧ ((s_prR (s_rule g r1)).length ≤ 256) ∧ σ2 23 = o5 G (23) (nI ((s_prR (s_rule g r1)).length)) ∧ σ2 24 = q_an G 256 o' ∧ σ2 294 = q_ln G 1 (va_up oL 0 ((nI ((s_prR (s_rule g r1)).length)).toInt64)) ∧ (∀ i : Nat, (i ≠ 23 ∧ i ≠ 24) ∧ i ≠ 294 → σ2 i = σ i)) ∨ (v9 = some (.int (nI (1))) ∧ (∀ j : Nat, j < g 0 → r = nI j → False) ∧ σ2 = σ)) := by
  refine q_enterH [some (.ref (q_h G + 0)), some (.int (r)), some (.ref (q_h G + 294)), none] (by decide) (Nat.le_of_ble_eq_true rfl) rfl ?_
  intro K hg
  obtain ⟨Q, hQ⟩ : ∃ Q, Q = q_Q G K false n 1 6 (fun v9 n' σ' => n' = n ∧ (fun v9 σ2 => (∃ (r1 : Nat), ∃ (o' : Nat → Nat), v9 = some (.int (nI (0))) ∧ (r = nI r1) ∧ (r1 < g 0) ∧ (∀ j : Nat, j < (s_prR (s_rule g r1)).length → o' j = (s_prR (s_rule g r1)).getD j 0) ∧ ((s_prR (s_rule g r1)).length ≤ 256) ∧ σ2 23 = o5 G (23) (nI ((s_prR (s_rule g r1)).length)) ∧ σ2 24 = q_an G 256 o' ∧ σ2 294 = q_ln G 1 (va_up oL 0 ((nI ((s_prR (s_rule g r1)).length)).toInt64)) ∧ (∀ i : Nat, (i ≠ 23 ∧ i ≠ 24) ∧ i ≠ 294 → σ2 i = σ i)) ∨ (v9 = some (.int (nI (1))) ∧ (∀ j : Nat, j < g 0 → r = nI j → False) ∧ σ2 = σ)) v9 σ') q_noX := ⟨_, rfl⟩
  refine (?_ : AJ G K (q_Q G K false n 1 6 _ _) 0 0 false n 0 _ _ σ)
  rw [← hQ]
  refine A_aload_n hg dL_printRule_0 rfl rfl ?_
  refine A_iconst (v := (nI (0))) hg dL_printRule_1 (by decide) ?_
  refine A_aload_n hg dL_printRule_2 rfl rfl ?_
  refine A_iload_n hg dL_printRule_3 rfl rfl ?_
  refine A_hVX (kc2 := 1) (ks2 := 6) (As := [.int (r)]) (rest := [.int (nI (0)), .ref (q_h G + 294)]) hg lk_RL_129 in_X10_printRule se_X10_printRule rfl dL_printRule_4 ⟨by decide, by decide⟩ rfl rfl ⟨by decide, by decide⟩ hc0 (by omega) rfl rfl (Nat.le_of_ble_eq_true rfl) (c_X10_printRule G false n σ z1 z2 z3 x o g r hc0 hc1 hc2 (by omega) hG) ?_ ?_
  · skip
    intro E σx hx
    obtain ⟨hs9, hx⟩ := hx
    rw [hs9]
    obtain ⟨rfl, h0⟩ := hx
    refine A_caught hg [] [] rfl (by decide) (by decide) clk_19 cst_19 (fun z hz => nomatch hz) (fun q9 => ?_)
    refine A_astore_n hg dL_printRule_12 rfl (by decide) (q_c1d rfl) ?_
    refine A_eq (ls2 := [some (.ref (q_h G + 0)), some (.int (r)), some (.ref (q_h G + 294)), some (.ref q9)]) (st2 := []) (pc2 := 0) rfl rfl ?_
    refine A_iconst (v := (nI (1))) hg dL_printRule_13 (by decide) ?_
    rw [hQ]
    exact A_ireturn hg (by decide) (by decide) rfl dL_printRule_14 ⟨rfl, Or.inr ((⟨rfl, h0, rfl⟩))⟩
  rintro _ σ_4 ⟨r1, o', rfl, hre, hrl, hO, hlen, hc_1, hc_2, hf_3⟩
  refine (?_ : AJ G K Q 1 6 false n 7 [some (.ref (q_h G + 0)), some (.int (r)), some (.ref (q_h G + 294)), none] [.int (nI ((s_prR (s_rule g r1)).length)), .int (nI (0)), .ref (q_h G + 294)] σ_4)
  have hc_5 : σ_4 0 = o10 G (z1) (z2) (z3) := (hf_3 _ (by omega)).trans hc0
  have hc_6 : σ_4 294 = q_ln G 1 oL := (hf_3 _ (by omega)).trans hc3
  refine A_i2l (v := (nI ((s_prR (s_rule g r1)).length)).toInt64) hg dL_printRule_7 rfl ?_
  refine A_last (j := 0) (x := ((nI ((s_prR (s_rule g r1)).length)).toInt64)) hg dL_printRule_8 hc_6 (by omega) (by omega) (by decide) (fun σ_7 hc_8 hf_9 => ?_)
  have hc_10 : σ_7 0 = o10 G (z1) (z2) (z3) := (hf_9 _ (by omega)).trans hc_5
  have hc_11 : σ_7 23 = o5 G (23) (nI ((s_prR (s_rule g r1)).length)) := (hf_9 _ (by omega)).trans hc_1
  have hc_12 : σ_7 24 = q_an G 256 o' := (hf_9 _ (by omega)).trans hc_2
  refine A_goto (tgt := 15) hg dL_printRule_9 (by decide) ?_
  refine A_iconst (v := (nI (0))) hg dL_printRule_15 (by decide) ?_
  rw [hQ]
  exact A_ireturn hg (by decide) (by decide) rfl dL_printRule_16 ⟨rfl, Or.inl (⟨r1, o', rfl, hre, hrl, hO, hlen, hc_11, hc_12, hc_8, (fun i hi => ((hf_9 i (by omega)).trans (hf_3 i (by omega))))⟩)⟩
set_option maxRecDepth 100000 in
set_option maxHeartbeats 4000000 in
theorem c_L_keep (G : GL) (n : Nat) (σ : Nat → va_E) (z1 : Int32) (z2 : Int32) (z3 : Int32) (g : Nat → Nat) (kp : Nat → Nat) (x : Int32) (oL : Nat → Int64) (hc0 : σ 0 = o10 G (z1) (z2) (z3)) (hc1 : σ 224 = q_rn G 2 2 (fun j => some (243 + 18 * j))) (hc2 : σ 225 = q_bn G 2 kp) (hc3 : σ 294 = q_ln G 1 oL) (hn9 : 279 ≤ n) (hG : x_gm G σ 25 g) (hSn : ∀ j : Nat, j < 2 → x_gj G σ (243 + 18 * j)) (h295n : 294 < n) : CtH G yL_keep cL_keep 4 (some .int) [(0, 9, 12, 13)] ⟨8, 1, 6, 133⟩ [.ref (q_h G + 0), .int (x), .ref (q_h G + 294)] n σ (fun v9 σ2 => (∃ (s1 : Nat), v9 = some (.int (nI (0))) ∧ (x = nI s1) ∧ (s1 ≤ 1) ∧ (x_gm G σ2 (243 + 18 * s1) g) ∧ σ2 225 = q_bn G 2 (va_up kp s1 1) ∧ σ2 294 = q_ln G 1 (va_up oL 0 ((nI (g 4)).toInt64)) ∧ (∀ i : Nat, (i ≠ 225 ∧ (i < 243 + 18 * s1 ∨ 243 + 18 * s1 + 17 < i)) ∧ i ≠ 294 → σ2 i = σ i)) ∨ (v9 = some (.int (nI (1))) ∧ (∀ j : Nat, 0 ≤ j → j ≤ 1 → x = nI j → False) ∧ σ2 = σ)) := by
  refine q_enterH [some (.ref (q_h G + 0)), some (.int (x)), some (.ref (q_h G + 294)), none] (by decide) (Nat.le_of_ble_eq_true rfl) rfl ?_
  intro K hg
  obtain ⟨Q, hQ⟩ : ∃ Q, Q = q_Q G K false n 1 6 (fun v9 n' σ' => n' = n ∧ (fun v9 σ2 => (∃ (s1 : Nat), v9 = some (.int (nI (0))) ∧ (x = nI s1) ∧ (s1 ≤ 1) ∧ (x_gm G σ2 (243 + 18 * s1) g) ∧ σ2 225 = q_bn G 2 (va_up kp s1 1) ∧ σ2 294 = q_ln G 1 (va_up oL 0 ((nI (g 4)).toInt64)) ∧ (∀ i : Nat, (i ≠ 225 ∧ (i < 243 + 18 * s1 ∨ 243 + 18 * s1 + 17 < i)) ∧ i ≠ 294 → σ2 i = σ i)) ∨ (v9 = some (.int (nI (1))) ∧ (∀ j : Nat, 0 ≤ j → j ≤ 1 → x = nI j → False) ∧ σ2 = σ)) v9 σ') q_noX := ⟨_, rfl⟩
  refine (?_ : AJ G K (q_Q G K false n 1 6 _ _) 0 0 false n 0 _ _ σ)
  rw [← hQ]
  refine A_aload_n hg dL_keep_0 rfl rfl ?_
  refine A_iconst (v := (nI (0))) hg dL_keep_1 (by decide) ?_
  refine A_aload_n hg dL_keep_2 rfl rfl ?_
  refine A_iload_n hg dL_keep_3 rfl rfl ?_
  refine A_hVX (kc2 := 1) (ks2 := 6) (As := [.int (x)]) (rest := [.int (nI (0)), .ref (q_h G + 294)]) hg lk_RL_132 in_X10_keep se_X10_keep rfl dL_keep_4 ⟨by decide, by decide⟩ rfl rfl ⟨by decide, by decide⟩ hc0 (by omega) rfl rfl (Nat.le_of_ble_eq_true rfl) (c_X10_keep G false n σ z1 z2 z3 g kp x hc0 hc1 hc2 (by omega) hG hSn) ?_ ?_
  · skip
    intro E σx hx
    obtain ⟨hs9, hx⟩ := hx
    rw [hs9]
    obtain ⟨rfl, h0⟩ := hx
    refine A_caught hg [] [] rfl (by decide) (by decide) clk_13 cst_13 (fun z hz => nomatch hz) (fun q9 => ?_)
    refine A_astore_n hg dL_keep_12 rfl (by decide) (q_c1d rfl) ?_
    refine A_eq (ls2 := [some (.ref (q_h G + 0)), some (.int (x)), some (.ref (q_h G + 294)), some (.ref q9)]) (st2 := []) (pc2 := 0) rfl rfl ?_
    refine A_iconst (v := (nI (1))) hg dL_keep_13 (by decide) ?_
    rw [hQ]
    exact A_ireturn hg (by decide) (by decide) rfl dL_keep_14 ⟨rfl, Or.inr ((⟨rfl, h0, rfl⟩))⟩
  rintro _ σ_3 ⟨s1, rfl, hxe, hxl, hS2, hc_1, hf_2⟩
  refine (?_ : AJ G K Q 1 6 false n 7 [some (.ref (q_h G + 0)), some (.int (x)), some (.ref (q_h G + 294)), none] [.int (nI (g 4)), .int (nI (0)), .ref (q_h G + 294)] σ_3)
  have hc_4 : σ_3 0 = o10 G (z1) (z2) (z3) := (hf_2 _ (by omega)).trans hc0
  have hc_5 : σ_3 224 = q_rn G 2 2 (fun j => some (243 + 18 * j)) := (hf_2 _ (by omega)).trans hc1
  have hc_6 : σ_3 294 = q_ln G 1 oL := (hf_2 _ (by omega)).trans hc3
  refine A_i2l (v := (nI (g 4)).toInt64) hg dL_keep_7 rfl ?_
  refine A_last (j := 0) (x := ((nI (g 4)).toInt64)) hg dL_keep_8 hc_6 (by omega) (by omega) (by decide) (fun σ_7 hc_8 hf_9 => ?_)
  have hc_10 : σ_7 0 = o10 G (z1) (z2) (z3) := (hf_9 _ (by omega)).trans hc_4
  have hc_11 : σ_7 224 = q_rn G 2 2 (fun j => some (243 + 18 * j)) := (hf_9 _ (by omega)).trans hc_5
  have hc_12 : σ_7 225 = q_bn G 2 (va_up kp s1 1) := (hf_9 _ (by omega)).trans hc_1
  refine A_goto (tgt := 15) hg dL_keep_9 (by decide) ?_
  refine A_iconst (v := (nI (0))) hg dL_keep_15 (by decide) ?_
  rw [hQ]
  exact A_ireturn hg (by decide) (by decide) rfl dL_keep_16 ⟨rfl, Or.inl (⟨s1, rfl, hxe, hxl, (x_gm_e (fun i _ _ => (hf_9 i (by omega))) hS2), hc_12, hc_8, (fun i hi => ((hf_9 i (by omega)).trans (hf_2 i (by omega))))⟩)⟩
set_option maxRecDepth 100000 in
set_option maxHeartbeats 4000000 in
theorem c_L_bringBack (G : GL) (n : Nat) (σ : Nat → va_E) (z1 : Int32) (z2 : Int32) (z3 : Int32) (g : Nat → Nat) (nx : Nat) (m : Nat) (ps : Nat → Nat → Nat) (kp : Nat → Nat) (sn : Nat → Nat → Nat) (x : Int32) (oL : Nat → Int64) (hc0 : σ 0 = o10 G (z1) (z2) (z3)) (hc1 : σ 224 = q_rn G 2 2 (fun j => some (243 + 18 * j))) (hc2 : σ 225 = q_bn G 2 kp) (hc3 : σ 294 = q_ln G 1 oL) (hn9 : 279 ≤ n) (hG : x_gm G σ 25 g) (hHi : x_hi G σ nx m ps) (hk1 : ∀ j : Nat, j < 2 → kp j ≤ 1) (hKp : ∀ j : Nat, j < 2 → kp j = 1 → x_gm G σ (243 + 18 * j) (sn j)) (h295n : 294 < n) : CtH G yL_bringBack cL_bringBack 4 (some .int) [(0, 9, 12, 13), (0, 9, 15, 127)] ⟨8, 2, 12, 133⟩ [.ref (q_h G + 0), .int (x), .ref (q_h G + 294)] n σ (fun v9 σ2 => (∃ (s1 : Nat), v9 = some (.int (nI (0))) ∧ (x = nI s1) ∧ (s1 ≤ 1) ∧ (kp s1 = 1) ∧ (x_gm G σ2 25 (sn s1)) ∧ (x_hi G σ2 nx 0 ps) ∧ σ2 294 = q_ln G 1 (va_up oL 0 ((nI (sn s1 4)).toInt64)) ∧ (∀ i : Nat, (i < 25 ∨ (42 < i ∧ i < 78) ∨ 78 < i) ∧ i ≠ 294 → σ2 i = σ i)) ∨ (v9 = some (.int (nI (1))) ∧ (∀ j : Nat, 0 ≤ j → j ≤ 1 → x = nI j → False) ∧ σ2 = σ) ∨ (v9 = some (.int (nI (2))) ∧ (∃ s1 : Nat, x = nI s1 ∧ s1 ≤ 1 ∧ kp s1 = 0) ∧ σ2 = σ)) := by
  refine q_enterH [some (.ref (q_h G + 0)), some (.int (x)), some (.ref (q_h G + 294)), none] (by decide) (Nat.le_of_ble_eq_true rfl) rfl ?_
  intro K hg
  obtain ⟨Q, hQ⟩ : ∃ Q, Q = q_Q G K false n 2 12 (fun v9 n' σ' => n' = n ∧ (fun v9 σ2 => (∃ (s1 : Nat), v9 = some (.int (nI (0))) ∧ (x = nI s1) ∧ (s1 ≤ 1) ∧ (kp s1 = 1) ∧ (x_gm G σ2 25 (sn s1)) ∧ (x_hi G σ2 nx 0 ps) ∧ σ2 294 = q_ln G 1 (va_up oL 0 ((nI (sn s1 4)).toInt64)) ∧ (∀ i : Nat, (i < 25 ∨ (42 < i ∧ i < 78) ∨ 78 < i) ∧ i ≠ 294 → σ2 i = σ i)) ∨ (v9 = some (.int (nI (1))) ∧ (∀ j : Nat, 0 ≤ j → j ≤ 1 → x = nI j → False) ∧ σ2 = σ) ∨ (v9 = some (.int (nI (2))) ∧ (∃ s1 : Nat, x = nI s1 ∧ s1 ≤ 1 ∧ kp s1 = 0) ∧ σ2 = σ)) v9 σ') q_noX := ⟨_, rfl⟩
  refine (?_ : AJ G K (q_Q G K false n 2 12 _ _) 0 0 false n 0 _ _ σ)
  rw [← hQ]
  refine A_aload_n hg dL_bringBack_0 rfl rfl ?_
  refine A_iconst (v := (nI (0))) hg dL_bringBack_1 (by decide) ?_
  refine A_aload_n hg dL_bringBack_2 rfl rfl ?_
  refine A_iload_n hg dL_bringBack_3 rfl rfl ?_
  refine A_hVX (kc2 := 2) (ks2 := 12) (As := [.int (x)]) (rest := [.int (nI (0)), .ref (q_h G + 294)]) hg lk_RL_135 in_X10_bringBack se_X10_bringBack rfl dL_bringBack_4 ⟨by decide, by decide⟩ rfl rfl ⟨by decide, by decide⟩ hc0 (by omega) rfl rfl (Nat.le_of_ble_eq_true rfl) (c_X10_bringBack G false n σ z1 z2 z3 g nx m ps kp sn x hc0 hc1 hc2 (by omega) hG hHi hk1 hKp) ?_ ?_
  · skip
    intro E σx hx
    obtain ⟨hs9, hx⟩ := hx
    rw [hs9]
    rcases hx with ⟨rfl, h0⟩ | ⟨rfl, h0⟩
    · skip
      refine A_caught hg [] [(0, 9, 15, 127)] rfl (by decide) (by decide) clk_13 cst_13 (fun z hz => nomatch hz) (fun q9 => ?_)
      refine A_astore_n hg dL_bringBack_12 rfl (by decide) (q_c1d rfl) ?_
      refine A_eq (ls2 := [some (.ref (q_h G + 0)), some (.int (x)), some (.ref (q_h G + 294)), some (.ref q9)]) (st2 := []) (pc2 := 0) rfl rfl ?_
      refine A_iconst (v := (nI (1))) hg dL_bringBack_13 (by decide) ?_
      rw [hQ]
      exact A_ireturn hg (by decide) (by decide) rfl dL_bringBack_14 ⟨rfl, Or.inr (Or.inl (⟨rfl, h0, rfl⟩))⟩
    · skip
      refine A_caught hg [(0, 9, 12, 13)] [] rfl (by decide) (by decide) clk_127 cst_127 (List.forall_mem_cons.mpr ⟨⟨by decide, _, clk_13, nc_127_13⟩, (fun z hz => nomatch hz)⟩) (fun q9 => ?_)
      refine A_astore_n hg dL_bringBack_15 rfl (by decide) (q_c1d rfl) ?_
      refine A_eq (ls2 := [some (.ref (q_h G + 0)), some (.int (x)), some (.ref (q_h G + 294)), some (.ref q9)]) (st2 := []) (pc2 := 0) rfl rfl ?_
      refine A_iconst (v := (nI (2))) hg dL_bringBack_16 (by decide) ?_
      rw [hQ]
      exact A_ireturn hg (by decide) (by decide) rfl dL_bringBack_17 ⟨rfl, Or.inr (Or.inr ((⟨rfl, h0, rfl⟩)))⟩
  rintro _ σ_2 ⟨s1, rfl, hxe, hxl, hkb, hG2, hHi2, hf_1⟩
  refine (?_ : AJ G K Q 2 12 false n 7 [some (.ref (q_h G + 0)), some (.int (x)), some (.ref (q_h G + 294)), none] [.int (nI (sn s1 4)), .int (nI (0)), .ref (q_h G + 294)] σ_2)
  have hc_3 : σ_2 0 = o10 G (z1) (z2) (z3) := (hf_1 _ (by omega)).trans hc0
  have hc_4 : σ_2 224 = q_rn G 2 2 (fun j => some (243 + 18 * j)) := (hf_1 _ (by omega)).trans hc1
  have hc_5 : σ_2 225 = q_bn G 2 kp := (hf_1 _ (by omega)).trans hc2
  have hc_6 : σ_2 294 = q_ln G 1 oL := (hf_1 _ (by omega)).trans hc3
  refine A_i2l (v := (nI (sn s1 4)).toInt64) hg dL_bringBack_7 rfl ?_
  refine A_last (j := 0) (x := ((nI (sn s1 4)).toInt64)) hg dL_bringBack_8 hc_6 (by omega) (by omega) (by decide) (fun σ_7 hc_8 hf_9 => ?_)
  have hc_10 : σ_7 0 = o10 G (z1) (z2) (z3) := (hf_9 _ (by omega)).trans hc_3
  have hc_11 : σ_7 224 = q_rn G 2 2 (fun j => some (243 + 18 * j)) := (hf_9 _ (by omega)).trans hc_4
  have hc_12 : σ_7 225 = q_bn G 2 kp := (hf_9 _ (by omega)).trans hc_5
  refine A_goto (tgt := 18) hg dL_bringBack_9 (by decide) ?_
  refine A_iconst (v := (nI (0))) hg dL_bringBack_18 (by decide) ?_
  rw [hQ]
  exact A_ireturn hg (by decide) (by decide) rfl dL_bringBack_19 ⟨rfl, Or.inl (⟨s1, rfl, hxe, hxl, hkb, (x_gm_e (fun i _ _ => (hf_9 i (by omega))) hG2), (x_hi_e (fun i _ _ => (hf_9 i (by omega))) hHi2), hc_8, (fun i hi => ((hf_9 i (by omega)).trans (hf_1 i (by omega))))⟩)⟩
end
