section
set_option maxRecDepth 100000 in
set_option maxHeartbeats 4000000 in
theorem c_L_gap (G : GL) (n : Nat) (σ : Nat → va_E) (z1 : Int32) (z2 : Int32) (z3 : Int32) (g : Nat → Nat) (r : Int32) (oL : Nat → Int64) (hc0 : σ 0 = o10 G (z1) (z2) (z3)) (hc1 : σ 294 = q_ln G 1 oL) (hn9 : 279 ≤ n) (hG : x_gm G σ 25 g) (hM : x_mx G σ) (h295n : 294 < n) : CtH G yL_gap cL_gap 4 (some .int) [(0, 9, 12, 19)] ⟨8, 1, 6, 147⟩ [.ref (q_h G + 0), .int (r), .ref (q_h G + 294)] n σ (fun v9 σ2 => (∃ (r1 : Nat), v9 = some (.int (nI (0))) ∧ (r = nI r1) ∧ (r1 < g 0) ∧ (s_free (s_rule g r1) = false) ∧ (x_mx G σ2) ∧ σ2 294 = q_ln G 1 (va_up oL 0 ((q_d (0)).toInt64)) ∧ (∀ i : Nat, (i < 43 ∨ 77 < i) ∧ i ≠ 294 → σ2 i = σ i)) ∨ (∃ (r1 : Nat), v9 = some (.int (nI (0))) ∧ (r = nI r1) ∧ (r1 < g 0) ∧ (s_free (s_rule g r1) = true) ∧ (x_mx G σ2) ∧ σ2 294 = q_ln G 1 (va_up oL 0 ((nI (s_gpc (s_rule g r1) 1681)).toInt64)) ∧ (∀ i : Nat, (i < 43 ∨ 77 < i) ∧ i ≠ 294 → σ2 i = σ i)) ∨ (v9 = some (.int (nI (1))) ∧ (∀ j : Nat, j < g 0 → r = nI j → False) ∧ σ2 = σ)) := by
  refine q_enterH [some (.ref (q_h G + 0)), some (.int (r)), some (.ref (q_h G + 294)), none] (by decide) (Nat.le_of_ble_eq_true rfl) rfl ?_
  intro K hg
  obtain ⟨Q, hQ⟩ : ∃ Q, Q = q_Q G K false n 1 6 (fun v9 n' σ' => n' = n ∧ (fun v9 σ2 => (∃ (r1 : Nat), v9 = some (.int (nI (0))) ∧ (r = nI r1) ∧ (r1 < g 0) ∧ (s_free (s_rule g r1) = false) ∧ (x_mx G σ2) ∧ σ2 294 = q_ln G 1 (va_up oL 0 ((q_d (0)).toInt64)) ∧ (∀ i : Nat, (i < 43 ∨ 77 < i) ∧ i ≠ 294 → σ2 i = σ i)) ∨ (∃ (r1 : Nat), v9 = some (.int (nI (0))) ∧ (r = nI r1) ∧ (r1 < g 0) ∧ (s_free (s_rule g r1) = true) ∧ (x_mx G σ2) ∧ σ2 294 = q_ln G 1 (va_up oL 0 ((nI (s_gpc (s_rule g r1) 1681)).toInt64)) ∧ (∀ i : Nat, (i < 43 ∨ 77 < i) ∧ i ≠ 294 → σ2 i = σ i)) ∨ (v9 = some (.int (nI (1))) ∧ (∀ j : Nat, j < g 0 → r = nI j → False) ∧ σ2 = σ)) v9 σ') q_noX := ⟨_, rfl⟩
  refine (?_ : AJ G K (q_Q G K false n 1 6 _ _) 0 0 false n 0 _ _ σ)
  rw [← hQ]
  refine A_aload_n hg dL_gap_0 rfl rfl ?_
  refine A_iconst (v := (nI (0))) hg dL_gap_1 (by decide) ?_
  refine A_aload_n hg dL_gap_2 rfl rfl ?_
  refine A_iload_n hg dL_gap_3 rfl rfl ?_
  refine A_hVX (kc2 := 1) (ks2 := 6) (As := [.int (r)]) (rest := [.int (nI (0)), .ref (q_h G + 294)]) hg lk_RL_79 in_X10_gap se_X10_gap rfl dL_gap_4 ⟨by decide, by decide⟩ rfl rfl ⟨by decide, by decide⟩ hc0 (by omega) rfl rfl (Nat.le_of_ble_eq_true rfl) (c_X10_gap G false n σ z1 z2 z3 g r hc0 (by omega) hG hM) ?_ ?_
  · skip
    intro E σx hx
    obtain ⟨hs9, hx⟩ := hx
    rw [hs9]
    obtain ⟨rfl, h0⟩ := hx
    refine A_caught hg [] [] rfl (by decide) (by decide) clk_19 cst_19 (fun z hz => nomatch hz) (fun q9 => ?_)
    refine A_astore_n hg dL_gap_12 rfl (by decide) (q_c1d rfl) ?_
    refine A_eq (ls2 := [some (.ref (q_h G + 0)), some (.int (r)), some (.ref (q_h G + 294)), some (.ref q9)]) (st2 := []) (pc2 := 0) rfl rfl ?_
    refine A_iconst (v := (nI (1))) hg dL_gap_13 (by decide) ?_
    rw [hQ]
    exact A_ireturn hg (by decide) (by decide) rfl dL_gap_14 ⟨rfl, Or.inr (Or.inr ((⟨rfl, h0, rfl⟩)))⟩
  rintro _ σ_3 (⟨r1, rfl, hre, hrl, hfr, hM2, hf_1⟩ | ⟨r1, rfl, hre, hrl, hfr, hM2, hf_2⟩)
  · skip
    refine (?_ : AJ G K Q 1 6 false n 7 [some (.ref (q_h G + 0)), some (.int (r)), some (.ref (q_h G + 294)), none] [.int (q_d (0)), .int (nI (0)), .ref (q_h G + 294)] σ_3)
    have hc_4 : σ_3 0 = o10 G (z1) (z2) (z3) := (hf_1 _ (by omega)).trans hc0
    have hc_5 : σ_3 294 = q_ln G 1 oL := (hf_1 _ (by omega)).trans hc1
    refine A_i2l (v := (q_d (0)).toInt64) hg dL_gap_7 rfl ?_
    refine A_last (j := 0) (x := ((q_d (0)).toInt64)) hg dL_gap_8 hc_5 (by omega) (by omega) (by decide) (fun σ_6 hc_7 hf_8 => ?_)
    have hc_9 : σ_6 0 = o10 G (z1) (z2) (z3) := (hf_8 _ (by omega)).trans hc_4
    refine A_goto (tgt := 15) hg dL_gap_9 (by decide) ?_
    refine A_iconst (v := (nI (0))) hg dL_gap_15 (by decide) ?_
    rw [hQ]
    exact A_ireturn hg (by decide) (by decide) rfl dL_gap_16 ⟨rfl, Or.inl (⟨r1, rfl, hre, hrl, hfr, (x_mx_e (fun i _ _ => (hf_8 i (by omega))) hM2), hc_7, (fun i hi => ((hf_8 i (by omega)).trans (hf_1 i (by omega))))⟩)⟩
  · skip
    refine (?_ : AJ G K Q 1 6 false n 7 [some (.ref (q_h G + 0)), some (.int (r)), some (.ref (q_h G + 294)), none] [.int (nI (s_gpc (s_rule g r1) 1681)), .int (nI (0)), .ref (q_h G + 294)] σ_3)
    have hc_10 : σ_3 0 = o10 G (z1) (z2) (z3) := (hf_2 _ (by omega)).trans hc0
    have hc_11 : σ_3 294 = q_ln G 1 oL := (hf_2 _ (by omega)).trans hc1
    refine A_i2l (v := (nI (s_gpc (s_rule g r1) 1681)).toInt64) hg dL_gap_7 rfl ?_
    refine A_last (j := 0) (x := ((nI (s_gpc (s_rule g r1) 1681)).toInt64)) hg dL_gap_8 hc_11 (by omega) (by omega) (by decide) (fun σ_12 hc_13 hf_14 => ?_)
    have hc_15 : σ_12 0 = o10 G (z1) (z2) (z3) := (hf_14 _ (by omega)).trans hc_10
    refine A_goto (tgt := 15) hg dL_gap_9 (by decide) ?_
    refine A_iconst (v := (nI (0))) hg dL_gap_15 (by decide) ?_
    rw [hQ]
    exact A_ireturn hg (by decide) (by decide) rfl dL_gap_16 ⟨rfl, Or.inr (Or.inl (⟨r1, rfl, hre, hrl, hfr, (x_mx_e (fun i _ _ => (hf_14 i (by omega))) hM2), hc_13, (fun i hi => ((hf_14 i (by omega)).trans (hf_2 i (by omega))))⟩))⟩
set_option maxRecDepth 100000 in
set_option maxHeartbeats 4000000 in
theorem c_L_advice (G : GL) (n : Nat) (σ : Nat → va_E) (z1 : Int32) (z2 : Int32) (z3 : Int32) (g : Nat → Nat) (x : Int32) (oL : Nat → Int64) (hc0 : σ 0 = o10 G (z1) (z2) (z3)) (hc1 : σ 294 = q_ln G 1 oL) (hn9 : 279 ≤ n) (hG : x_gm G σ 25 g) (hM : x_mx G σ) (hH : x_hn G σ) (h295n : 294 < n) : CtH G yL_advice cL_advice 4 (some .int) [(0, 9, 12, 13)] ⟨8, 1, 6, 161⟩ [.ref (q_h G + 0), .int (x), .ref (q_h G + 294)] n σ (fun v9 σ2 => (∃ (x1 : Nat), v9 = some (.int (nI (0))) ∧ (x = nI x1) ∧ (x1 ≤ 3) ∧ (s_adv g = true) ∧ (x_mx G σ2) ∧ (x_hn G σ2) ∧ σ2 294 = q_ln G 1 (va_up oL 0 ((nI (s_advA g x1)).toInt64)) ∧ (∀ i : Nat, (i < 43 ∨ (77 < i ∧ i ≠ 242)) ∧ i ≠ 294 → σ2 i = σ i)) ∨ (∃ (x1 : Nat), v9 = some (.int (nI (0))) ∧ (x = nI x1) ∧ (x1 ≤ 3) ∧ (s_adv g = false) ∧ (x_mx G σ2) ∧ (x_hn G σ2) ∧ σ2 294 = q_ln G 1 (va_up oL 0 ((q_d (0)).toInt64)) ∧ (∀ i : Nat, (i < 43 ∨ (77 < i ∧ i ≠ 242)) ∧ i ≠ 294 → σ2 i = σ i)) ∨ (v9 = some (.int (nI (1))) ∧ (∀ j : Nat, 0 ≤ j → j ≤ 3 → x = nI j → False) ∧ σ2 = σ)) := by
  refine q_enterH [some (.ref (q_h G + 0)), some (.int (x)), some (.ref (q_h G + 294)), none] (by decide) (Nat.le_of_ble_eq_true rfl) rfl ?_
  intro K hg
  obtain ⟨Q, hQ⟩ : ∃ Q, Q = q_Q G K false n 1 6 (fun v9 n' σ' => n' = n ∧ (fun v9 σ2 => (∃ (x1 : Nat), v9 = some (.int (nI (0))) ∧ (x = nI x1) ∧ (x1 ≤ 3) ∧ (s_adv g = true) ∧ (x_mx G σ2) ∧ (x_hn G σ2) ∧ σ2 294 = q_ln G 1 (va_up oL 0 ((nI (s_advA g x1)).toInt64)) ∧ (∀ i : Nat, (i < 43 ∨ (77 < i ∧ i ≠ 242)) ∧ i ≠ 294 → σ2 i = σ i)) ∨ (∃ (x1 : Nat), v9 = some (.int (nI (0))) ∧ (x = nI x1) ∧ (x1 ≤ 3) ∧ (s_adv g = false) ∧ (x_mx G σ2) ∧ (x_hn G σ2) ∧ σ2 294 = q_ln G 1 (va_up oL 0 ((q_d (0)).toInt64)) ∧ (∀ i : Nat, (i < 43 ∨ (77 < i ∧ i ≠ 242)) ∧ i ≠ 294 → σ2 i = σ i)) ∨ (v9 = some (.int (nI (1))) ∧ (∀ j : Nat, 0 ≤ j → j ≤ 3 → x = nI j → False) ∧ σ2 = σ)) v9 σ') q_noX := ⟨_, rfl⟩
  refine (?_ : AJ G K (q_Q G K false n 1 6 _ _) 0 0 false n 0 _ _ σ)
  rw [← hQ]
  refine A_aload_n hg dL_advice_0 rfl rfl ?_
  refine A_iconst (v := (nI (0))) hg dL_advice_1 (by decide) ?_
  refine A_aload_n hg dL_advice_2 rfl rfl ?_
  refine A_iload_n hg dL_advice_3 rfl rfl ?_
  refine A_hVX (kc2 := 1) (ks2 := 6) (As := [.int (x)]) (rest := [.int (nI (0)), .ref (q_h G + 294)]) hg lk_RL_82 in_X10_advice se_X10_advice rfl dL_advice_4 ⟨by decide, by decide⟩ rfl rfl ⟨by decide, by decide⟩ hc0 (by omega) rfl rfl (Nat.le_of_ble_eq_true rfl) (c_X10_advice G false n σ z1 z2 z3 g x hc0 (by omega) hG hM hH) ?_ ?_
  · skip
    intro E σx hx
    obtain ⟨hs9, hx⟩ := hx
    rw [hs9]
    obtain ⟨rfl, h0⟩ := hx
    refine A_caught hg [] [] rfl (by decide) (by decide) clk_13 cst_13 (fun z hz => nomatch hz) (fun q9 => ?_)
    refine A_astore_n hg dL_advice_12 rfl (by decide) (q_c1d rfl) ?_
    refine A_eq (ls2 := [some (.ref (q_h G + 0)), some (.int (x)), some (.ref (q_h G + 294)), some (.ref q9)]) (st2 := []) (pc2 := 0) rfl rfl ?_
    refine A_iconst (v := (nI (1))) hg dL_advice_13 (by decide) ?_
    rw [hQ]
    exact A_ireturn hg (by decide) (by decide) rfl dL_advice_14 ⟨rfl, Or.inr (Or.inr ((⟨rfl, h0, rfl⟩)))⟩
  rintro _ σ_3 (⟨x1, rfl, hxe, hxl, hh, hM2, hH2, hf_1⟩ | ⟨x1, rfl, hxe, hxl, hh, hM2, hH2, hf_2⟩)
  · skip
    refine (?_ : AJ G K Q 1 6 false n 7 [some (.ref (q_h G + 0)), some (.int (x)), some (.ref (q_h G + 294)), none] [.int (nI (s_advA g x1)), .int (nI (0)), .ref (q_h G + 294)] σ_3)
    have hc_4 : σ_3 0 = o10 G (z1) (z2) (z3) := (hf_1 _ (by omega)).trans hc0
    have hc_5 : σ_3 294 = q_ln G 1 oL := (hf_1 _ (by omega)).trans hc1
    refine A_i2l (v := (nI (s_advA g x1)).toInt64) hg dL_advice_7 rfl ?_
    refine A_last (j := 0) (x := ((nI (s_advA g x1)).toInt64)) hg dL_advice_8 hc_5 (by omega) (by omega) (by decide) (fun σ_6 hc_7 hf_8 => ?_)
    have hc_9 : σ_6 0 = o10 G (z1) (z2) (z3) := (hf_8 _ (by omega)).trans hc_4
    refine A_goto (tgt := 15) hg dL_advice_9 (by decide) ?_
    refine A_iconst (v := (nI (0))) hg dL_advice_15 (by decide) ?_
    rw [hQ]
    exact A_ireturn hg (by decide) (by decide) rfl dL_advice_16 ⟨rfl, Or.inl (⟨x1, rfl, hxe, hxl, hh, (x_mx_e (fun i _ _ => (hf_8 i (by omega))) hM2), (iv_hn (fun i _ _ => (hf_8 i (by omega))) hH2), hc_7, (fun i hi => ((hf_8 i (by omega)).trans (hf_1 i (by omega))))⟩)⟩
  · skip
    refine (?_ : AJ G K Q 1 6 false n 7 [some (.ref (q_h G + 0)), some (.int (x)), some (.ref (q_h G + 294)), none] [.int (q_d (0)), .int (nI (0)), .ref (q_h G + 294)] σ_3)
    have hc_10 : σ_3 0 = o10 G (z1) (z2) (z3) := (hf_2 _ (by omega)).trans hc0
    have hc_11 : σ_3 294 = q_ln G 1 oL := (hf_2 _ (by omega)).trans hc1
    refine A_i2l (v := (q_d (0)).toInt64) hg dL_advice_7 rfl ?_
    refine A_last (j := 0) (x := ((q_d (0)).toInt64)) hg dL_advice_8 hc_11 (by omega) (by omega) (by decide) (fun σ_12 hc_13 hf_14 => ?_)
    have hc_15 : σ_12 0 = o10 G (z1) (z2) (z3) := (hf_14 _ (by omega)).trans hc_10
    refine A_goto (tgt := 15) hg dL_advice_9 (by decide) ?_
    refine A_iconst (v := (nI (0))) hg dL_advice_15 (by decide) ?_
    rw [hQ]
    exact A_ireturn hg (by decide) (by decide) rfl dL_advice_16 ⟨rfl, Or.inr (Or.inl (⟨x1, rfl, hxe, hxl, hh, (x_mx_e (fun i _ _ => (hf_14 i (by omega))) hM2), (iv_hn (fun i _ _ => (hf_14 i (by omega))) hH2), hc_13, (fun i hi => ((hf_14 i (by omega)).trans (hf_2 i (by omega))))⟩))⟩
set_option maxRecDepth 100000 in
set_option maxHeartbeats 4000000 in
theorem c_L_totalBehind (G : GL) (n : Nat) (σ : Nat → va_E) (z1 : Int32) (z2 : Int32) (z3 : Int32) (g : Nat → Nat) (p : Int32) (k : Int32) (l : Int32) (oL : Nat → Int64) (hc0 : σ 0 = o10 G (z1) (z2) (z3)) (hc1 : σ 294 = q_ln G 1 oL) (hn9 : 279 ≤ n) (hG : x_gm G σ 25 g) (hM : x_mx G σ) (hH : x_hn G σ) (hT : x_pj G σ) (h295n : 294 < n) : CtH G yL_totalBehind cL_totalBehind 6 (some .int) [(0, 12, 15, 19)] ⟨8, 1, 6, 163⟩ [.ref (q_h G + 0), .int (p), .int (k), .int (l), .ref (q_h G + 294)] n σ (fun v9 σ2 => (∃ (p1 : Nat), v9 = some (.int (nI (0))) ∧ (p = nI p1) ∧ (p1 < s_np g) ∧ (¬ s_refI g p1 k l = 0) ∧ (x_mx G σ2) ∧ (x_hn G σ2) ∧ (x_pj G σ2) ∧ σ2 294 = q_ln G 1 (va_up oL 0 ((q_d (0)).toInt64)) ∧ (∀ i : Nat, (i < 43 ∨ (77 < i ∧ i < 236) ∨ 242 < i) ∧ i ≠ 294 → σ2 i = σ i)) ∨ (∃ (p1 : Nat), ∃ (a1 : Nat), ∃ (b1 : Nat), v9 = some (.int (nI (0))) ∧ (p = nI p1) ∧ (p1 < s_np g) ∧ (k = nI a1) ∧ (l = nI b1) ∧ (s_ref g p1 a1 b1 = 0) ∧ (x_mx G σ2) ∧ (x_hn G σ2) ∧ (x_pj G σ2) ∧ σ2 294 = q_ln G 1 (va_up oL 0 ((nI (((s_tot g) ^^^ (s_pv g p1 0 0)) ^^^ (s_pv g p1 a1 b1))).toInt64)) ∧ (∀ i : Nat, (i < 43 ∨ (77 < i ∧ i < 236) ∨ 242 < i) ∧ i ≠ 294 → σ2 i = σ i)) ∨ (v9 = some (.int (nI (1))) ∧ (∀ j : Nat, j < s_np g → p = nI j → False) ∧ σ2 = σ)) := by
  refine q_enterH [some (.ref (q_h G + 0)), some (.int (p)), some (.int (k)), some (.int (l)), some (.ref (q_h G + 294)), none] (by decide) (Nat.le_of_ble_eq_true rfl) rfl ?_
  intro K hg
  obtain ⟨Q, hQ⟩ : ∃ Q, Q = q_Q G K false n 1 6 (fun v9 n' σ' => n' = n ∧ (fun v9 σ2 => (∃ (p1 : Nat), v9 = some (.int (nI (0))) ∧ (p = nI p1) ∧ (p1 < s_np g) ∧ (¬ s_refI g p1 k l = 0) ∧ (x_mx G σ2) ∧ (x_hn G σ2) ∧ (x_pj G σ2) ∧ σ2 294 = q_ln G 1 (va_up oL 0 ((q_d (0)).toInt64)) ∧ (∀ i : Nat, (i < 43 ∨ (77 < i ∧ i < 236) ∨ 242 < i) ∧ i ≠ 294 → σ2 i = σ i)) ∨ (∃ (p1 : Nat), ∃ (a1 : Nat), ∃ (b1 : Nat), v9 = some (.int (nI (0))) ∧ (p = nI p1) ∧ (p1 < s_np g) ∧ (k = nI a1) ∧ (l = nI b1) ∧ (s_ref g p1 a1 b1 = 0) ∧ (x_mx G σ2) ∧ (x_hn G σ2) ∧ (x_pj G σ2) ∧ σ2 294 = q_ln G 1 (va_up oL 0 ((nI (((s_tot g) ^^^ (s_pv g p1 0 0)) ^^^ (s_pv g p1 a1 b1))).toInt64)) ∧ (∀ i : Nat, (i < 43 ∨ (77 < i ∧ i < 236) ∨ 242 < i) ∧ i ≠ 294 → σ2 i = σ i)) ∨ (v9 = some (.int (nI (1))) ∧ (∀ j : Nat, j < s_np g → p = nI j → False) ∧ σ2 = σ)) v9 σ') q_noX := ⟨_, rfl⟩
  refine (?_ : AJ G K (q_Q G K false n 1 6 _ _) 0 0 false n 0 _ _ σ)
  rw [← hQ]
  refine A_aload hg dL_totalBehind_0 rfl ?_
  refine A_iconst (v := (nI (0))) hg dL_totalBehind_2 (by decide) ?_
  refine A_aload_n hg dL_totalBehind_3 rfl rfl ?_
  refine A_iload_n hg dL_totalBehind_4 rfl rfl ?_
  refine A_iload_n hg dL_totalBehind_5 rfl rfl ?_
  refine A_iload_n hg dL_totalBehind_6 rfl rfl ?_
  refine A_hVX (kc2 := 1) (ks2 := 6) (As := [.int (p), .int (k), .int (l)]) (rest := [.int (nI (0)), .ref (q_h G + 294)]) hg lk_RL_85 in_X10_totalBehind se_X10_totalBehind rfl dL_totalBehind_7 ⟨by decide, by decide⟩ rfl rfl ⟨by decide, by decide⟩ hc0 (by omega) rfl rfl (Nat.le_of_ble_eq_true rfl) (c_X10_totalBehind G false n σ z1 z2 z3 g p k l hc0 (by omega) hG hM hH hT) ?_ ?_
  · skip
    intro E σx hx
    obtain ⟨hs9, hx⟩ := hx
    rw [hs9]
    obtain ⟨rfl, h0⟩ := hx
    refine A_caught hg [] [] rfl (by decide) (by decide) clk_19 cst_19 (fun z hz => nomatch hz) (fun q9 => ?_)
    refine A_astore hg dL_totalBehind_15 (by decide) (q_c1d rfl) ?_
    refine A_eq (ls2 := [some (.ref (q_h G + 0)), some (.int (p)), some (.int (k)), some (.int (l)), some (.ref (q_h G + 294)), some (.ref q9)]) (st2 := []) (pc2 := 0) rfl rfl ?_
    refine A_iconst (v := (nI (1))) hg dL_totalBehind_17 (by decide) ?_
    rw [hQ]
    exact A_ireturn hg (by decide) (by decide) rfl dL_totalBehind_18 ⟨rfl, Or.inr (Or.inr ((⟨rfl, h0, rfl⟩)))⟩
  rintro _ σ_3 (⟨p1, rfl, hpe, hpl, hrf, hM2, hH2, hT2, hf_1⟩ | ⟨p1, a1, b1, rfl, hpe, hpl, hke, hle, hrf, hM2, hH2, hT2, hf_2⟩)
  · skip
    refine (?_ : AJ G K Q 1 6 false n 10 [some (.ref (q_h G + 0)), some (.int (p)), some (.int (k)), some (.int (l)), some (.ref (q_h G + 294)), none] [.int (q_d (0)), .int (nI (0)), .ref (q_h G + 294)] σ_3)
    have hc_4 : σ_3 0 = o10 G (z1) (z2) (z3) := (hf_1 _ (by omega)).trans hc0
    have hc_5 : σ_3 294 = q_ln G 1 oL := (hf_1 _ (by omega)).trans hc1
    refine A_i2l (v := (q_d (0)).toInt64) hg dL_totalBehind_10 rfl ?_
    refine A_last (j := 0) (x := ((q_d (0)).toInt64)) hg dL_totalBehind_11 hc_5 (by omega) (by omega) (by decide) (fun σ_6 hc_7 hf_8 => ?_)
    have hc_9 : σ_6 0 = o10 G (z1) (z2) (z3) := (hf_8 _ (by omega)).trans hc_4
    refine A_goto (tgt := 19) hg dL_totalBehind_12 (by decide) ?_
    refine A_iconst (v := (nI (0))) hg dL_totalBehind_19 (by decide) ?_
    rw [hQ]
    exact A_ireturn hg (by decide) (by decide) rfl dL_totalBehind_20 ⟨rfl, Or.inl (⟨p1, rfl, hpe, hpl, hrf, (x_mx_e (fun i _ _ => (hf_8 i (by omega))) hM2), (iv_hn (fun i _ _ => (hf_8 i (by omega))) hH2), (x_pj_e (fun i _ _ => (hf_8 i (by omega))) hT2), hc_7, (fun i hi => ((hf_8 i (by omega)).trans (hf_1 i (by omega))))⟩)⟩
  · skip
    refine (?_ : AJ G K Q 1 6 false n 10 [some (.ref (q_h G + 0)), some (.int (p)), some (.int (k)), some (.int (l)), some (.ref (q_h G + 294)), none] [.int (nI (((s_tot g) ^^^ (s_pv g p1 0 0)) ^^^ (s_pv g p1 a1 b1))), .int (nI (0)), .ref (q_h G + 294)] σ_3)
    have hc_10 : σ_3 0 = o10 G (z1) (z2) (z3) := (hf_2 _ (by omega)).trans hc0
    have hc_11 : σ_3 294 = q_ln G 1 oL := (hf_2 _ (by omega)).trans hc1
    refine A_i2l (v := (nI (((s_tot g) ^^^ (s_pv g p1 0 0)) ^^^ (s_pv g p1 a1 b1))).toInt64) hg dL_totalBehind_10 rfl ?_
    refine A_last (j := 0) (x := ((nI (((s_tot g) ^^^ (s_pv g p1 0 0)) ^^^ (s_pv g p1 a1 b1))).toInt64)) hg dL_totalBehind_11 hc_11 (by omega) (by omega) (by decide) (fun σ_12 hc_13 hf_14 => ?_)
    have hc_15 : σ_12 0 = o10 G (z1) (z2) (z3) := (hf_14 _ (by omega)).trans hc_10
    refine A_goto (tgt := 19) hg dL_totalBehind_12 (by decide) ?_
    refine A_iconst (v := (nI (0))) hg dL_totalBehind_19 (by decide) ?_
    rw [hQ]
    exact A_ireturn hg (by decide) (by decide) rfl dL_totalBehind_20 ⟨rfl, Or.inr (Or.inl (⟨p1, a1, b1, rfl, hpe, hpl, hke, hle, hrf, (x_mx_e (fun i _ _ => (hf_14 i (by omega))) hM2), (iv_hn (fun i _ _ => (hf_14 i (by omega))) hH2), (x_pj_e (fun i _ _ => (hf_14 i (by omega))) hT2), hc_13, (fun i hi => ((hf_14 i (by omega)).trans (hf_2 i (by omega))))⟩))⟩
set_option maxRecDepth 100000 in
set_option maxHeartbeats 4000000 in
theorem c_L_changedBy (G : GL) (n : Nat) (σ : Nat → va_E) (z1 : Int32) (z2 : Int32) (z3 : Int32) (g : Nat → Nat) (r : Int32) (k : Int32) (l : Int32) (oL : Nat → Int64) (hc0 : σ 0 = o10 G (z1) (z2) (z3)) (hc1 : σ 294 = q_ln G 1 oL) (hn9 : 279 ≤ n) (hG : x_gm G σ 25 g) (hM : x_mx G σ) (hO : x_oj G σ) (hbd : ∀ r : Nat, r < g 0 → x_bdd (s_rule g r)) (h295n : 294 < n) : CtH G yL_changedBy cL_changedBy 6 (some .int) [(0, 12, 15, 19), (0, 12, 19, 13)] ⟨10, 4, 24, 177⟩ [.ref (q_h G + 0), .int (r), .int (k), .int (l), .ref (q_h G + 294)] n σ (fun v9 σ2 => (∃ (r1 : Nat), ∃ (a1 : Nat), ∃ (b1 : Nat), v9 = some (.int (nI (0))) ∧ (r = nI r1) ∧ (r1 < g 0) ∧ (k = nI a1) ∧ (l = nI b1) ∧ (a1 ≤ 40) ∧ (b1 ≤ 40) ∧ (0 < a1 + b1) ∧ (x_mx G σ2) ∧ (x_oj G σ2) ∧ σ2 294 = q_ln G 1 (va_up oL 0 ((nI (s_chc (s_rule g r1) a1 b1 1681)).toInt64)) ∧ (∀ i : Nat, (i < 43 ∨ (77 < i ∧ i < 226) ∨ 235 < i) ∧ i ≠ 294 → σ2 i = σ i)) ∨ (v9 = some (.int (nI (1))) ∧ (∀ j : Nat, j < g 0 → r = nI j → False) ∧ σ2 = σ) ∨ (v9 = some (.int (nI (2))) ∧ (∃ r1 : Nat, r = nI r1 ∧ r1 < g 0 ∧ ∀ a b : Nat, a ≤ 40 → b ≤ 40 → 0 < a + b → k = nI a → l = nI b → False) ∧ σ2 = σ)) := by
  refine q_enterH [some (.ref (q_h G + 0)), some (.int (r)), some (.int (k)), some (.int (l)), some (.ref (q_h G + 294)), none] (by decide) (Nat.le_of_ble_eq_true rfl) rfl ?_
  intro K hg
  obtain ⟨Q, hQ⟩ : ∃ Q, Q = q_Q G K false n 4 24 (fun v9 n' σ' => n' = n ∧ (fun v9 σ2 => (∃ (r1 : Nat), ∃ (a1 : Nat), ∃ (b1 : Nat), v9 = some (.int (nI (0))) ∧ (r = nI r1) ∧ (r1 < g 0) ∧ (k = nI a1) ∧ (l = nI b1) ∧ (a1 ≤ 40) ∧ (b1 ≤ 40) ∧ (0 < a1 + b1) ∧ (x_mx G σ2) ∧ (x_oj G σ2) ∧ σ2 294 = q_ln G 1 (va_up oL 0 ((nI (s_chc (s_rule g r1) a1 b1 1681)).toInt64)) ∧ (∀ i : Nat, (i < 43 ∨ (77 < i ∧ i < 226) ∨ 235 < i) ∧ i ≠ 294 → σ2 i = σ i)) ∨ (v9 = some (.int (nI (1))) ∧ (∀ j : Nat, j < g 0 → r = nI j → False) ∧ σ2 = σ) ∨ (v9 = some (.int (nI (2))) ∧ (∃ r1 : Nat, r = nI r1 ∧ r1 < g 0 ∧ ∀ a b : Nat, a ≤ 40 → b ≤ 40 → 0 < a + b → k = nI a → l = nI b → False) ∧ σ2 = σ)) v9 σ') q_noX := ⟨_, rfl⟩
  refine (?_ : AJ G K (q_Q G K false n 4 24 _ _) 0 0 false n 0 _ _ σ)
  rw [← hQ]
  refine A_aload hg dL_changedBy_0 rfl ?_
  refine A_iconst (v := (nI (0))) hg dL_changedBy_2 (by decide) ?_
  refine A_aload_n hg dL_changedBy_3 rfl rfl ?_
  refine A_iload_n hg dL_changedBy_4 rfl rfl ?_
  refine A_iload_n hg dL_changedBy_5 rfl rfl ?_
  refine A_iload_n hg dL_changedBy_6 rfl rfl ?_
  refine A_hVX (kc2 := 4) (ks2 := 24) (As := [.int (r), .int (k), .int (l)]) (rest := [.int (nI (0)), .ref (q_h G + 294)]) hg lk_RL_88 in_X10_changedBy se_X10_changedBy rfl dL_changedBy_7 ⟨by decide, by decide⟩ rfl rfl ⟨by decide, by decide⟩ hc0 (by omega) rfl rfl (Nat.le_of_ble_eq_true rfl) (c_X10_changedBy G false n σ z1 z2 z3 g r k l hc0 (by omega) hG hM hO hbd) ?_ ?_
  · skip
    intro E σx hx
    obtain ⟨hs9, hx⟩ := hx
    rw [hs9]
    rcases hx with ⟨rfl, h0⟩ | ⟨rfl, h0⟩
    · skip
      refine A_caught hg [] [(0, 12, 19, 13)] rfl (by decide) (by decide) clk_19 cst_19 (fun z hz => nomatch hz) (fun q9 => ?_)
      refine A_astore hg dL_changedBy_15 (by decide) (q_c1d rfl) ?_
      refine A_eq (ls2 := [some (.ref (q_h G + 0)), some (.int (r)), some (.int (k)), some (.int (l)), some (.ref (q_h G + 294)), some (.ref q9)]) (st2 := []) (pc2 := 0) rfl rfl ?_
      refine A_iconst (v := (nI (1))) hg dL_changedBy_17 (by decide) ?_
      rw [hQ]
      exact A_ireturn hg (by decide) (by decide) rfl dL_changedBy_18 ⟨rfl, Or.inr (Or.inl (⟨rfl, h0, rfl⟩))⟩
    · skip
      refine A_caught hg [(0, 12, 15, 19)] [] rfl (by decide) (by decide) clk_13 cst_13 (List.forall_mem_cons.mpr ⟨⟨by decide, _, clk_19, nc_13_19⟩, (fun z hz => nomatch hz)⟩) (fun q9 => ?_)
      refine A_astore hg dL_changedBy_19 (by decide) (q_c1d rfl) ?_
      refine A_eq (ls2 := [some (.ref (q_h G + 0)), some (.int (r)), some (.int (k)), some (.int (l)), some (.ref (q_h G + 294)), some (.ref q9)]) (st2 := []) (pc2 := 0) rfl rfl ?_
      refine A_iconst (v := (nI (2))) hg dL_changedBy_21 (by decide) ?_
      rw [hQ]
      exact A_ireturn hg (by decide) (by decide) rfl dL_changedBy_22 ⟨rfl, Or.inr (Or.inr ((⟨rfl, h0, rfl⟩)))⟩
  rintro _ σ_2 ⟨r1, a1, b1, rfl, hre, hrl, hke, hle, hkl, hll, hkp, hM2, hO2, hf_1⟩
  refine (?_ : AJ G K Q 4 24 false n 10 [some (.ref (q_h G + 0)), some (.int (r)), some (.int (k)), some (.int (l)), some (.ref (q_h G + 294)), none] [.int (nI (s_chc (s_rule g r1) a1 b1 1681)), .int (nI (0)), .ref (q_h G + 294)] σ_2)
  have hc_3 : σ_2 0 = o10 G (z1) (z2) (z3) := (hf_1 _ (by omega)).trans hc0
  have hc_4 : σ_2 294 = q_ln G 1 oL := (hf_1 _ (by omega)).trans hc1
  refine A_i2l (v := (nI (s_chc (s_rule g r1) a1 b1 1681)).toInt64) hg dL_changedBy_10 rfl ?_
  refine A_last (j := 0) (x := ((nI (s_chc (s_rule g r1) a1 b1 1681)).toInt64)) hg dL_changedBy_11 hc_4 (by omega) (by omega) (by decide) (fun σ_5 hc_6 hf_7 => ?_)
  have hc_8 : σ_5 0 = o10 G (z1) (z2) (z3) := (hf_7 _ (by omega)).trans hc_3
  refine A_goto (tgt := 23) hg dL_changedBy_12 (by decide) ?_
  refine A_iconst (v := (nI (0))) hg dL_changedBy_23 (by decide) ?_
  rw [hQ]
  exact A_ireturn hg (by decide) (by decide) rfl dL_changedBy_24 ⟨rfl, Or.inl (⟨r1, a1, b1, rfl, hre, hrl, hke, hle, hkl, hll, hkp, (x_mx_e (fun i _ _ => (hf_7 i (by omega))) hM2), (x_oj_e (fun i _ _ => (hf_7 i (by omega))) hO2), hc_6, (fun i hi => ((hf_7 i (by omega)).trans (hf_1 i (by omega))))⟩)⟩
set_option maxRecDepth 100000 in
set_option maxHeartbeats 4000000 in
theorem c_L_losingWith (G : GL) (n : Nat) (σ : Nat → va_E) (z1 : Int32) (z2 : Int32) (z3 : Int32) (g : Nat → Nat) (r : Int32) (x : Int32) (oL : Nat → Int64) (hc0 : σ 0 = o10 G (z1) (z2) (z3)) (hc1 : σ 294 = q_ln G 1 oL) (hn9 : 279 ≤ n) (hG : x_gm G σ 25 g) (hO : x_oj G σ) (h295n : 294 < n) : CtH G yL_losingWith cL_losingWith 5 (some .int) [(0, 10, 13, 19), (0, 10, 17, 13)] ⟨8, 2, 12, 134⟩ [.ref (q_h G + 0), .int (r), .int (x), .ref (q_h G + 294)] n σ (fun v9 σ2 => (∃ (r1 : Nat), ∃ (x1 : Nat), v9 = some (.int (nI (0))) ∧ (r = nI r1) ∧ (r1 < g 0) ∧ (x = nI x1) ∧ (x1 ≤ 5) ∧ (x_oj G σ2) ∧ σ2 294 = q_ln G 1 (va_up oL 0 ((nI (s_cnt (fun p => s_V (s_rule (s_rset g r1 18 x1) r1) p == 0) 1681)).toInt64)) ∧ (∀ i : Nat, (i < 226 ∨ 235 < i) ∧ i ≠ 294 → σ2 i = σ i)) ∨ (v9 = some (.int (nI (1))) ∧ (∀ j : Nat, j < g 0 → r = nI j → False) ∧ σ2 = σ) ∨ (v9 = some (.int (nI (2))) ∧ (∃ r1 : Nat, r = nI r1 ∧ r1 < g 0 ∧ (∀ j : Nat, 0 ≤ j → j ≤ 5 → x = nI j → False)) ∧ σ2 = σ)) := by
  refine q_enterH [some (.ref (q_h G + 0)), some (.int (r)), some (.int (x)), some (.ref (q_h G + 294)), none] (by decide) (Nat.le_of_ble_eq_true rfl) rfl ?_
  intro K hg
  obtain ⟨Q, hQ⟩ : ∃ Q, Q = q_Q G K false n 2 12 (fun v9 n' σ' => n' = n ∧ (fun v9 σ2 => (∃ (r1 : Nat), ∃ (x1 : Nat), v9 = some (.int (nI (0))) ∧ (r = nI r1) ∧ (r1 < g 0) ∧ (x = nI x1) ∧ (x1 ≤ 5) ∧ (x_oj G σ2) ∧ σ2 294 = q_ln G 1 (va_up oL 0 ((nI (s_cnt (fun p => s_V (s_rule (s_rset g r1 18 x1) r1) p == 0) 1681)).toInt64)) ∧ (∀ i : Nat, (i < 226 ∨ 235 < i) ∧ i ≠ 294 → σ2 i = σ i)) ∨ (v9 = some (.int (nI (1))) ∧ (∀ j : Nat, j < g 0 → r = nI j → False) ∧ σ2 = σ) ∨ (v9 = some (.int (nI (2))) ∧ (∃ r1 : Nat, r = nI r1 ∧ r1 < g 0 ∧ (∀ j : Nat, 0 ≤ j → j ≤ 5 → x = nI j → False)) ∧ σ2 = σ)) v9 σ') q_noX := ⟨_, rfl⟩
  refine (?_ : AJ G K (q_Q G K false n 2 12 _ _) 0 0 false n 0 _ _ σ)
  rw [← hQ]
  refine A_aload_n hg dL_losingWith_0 rfl rfl ?_
  refine A_iconst (v := (nI (0))) hg dL_losingWith_1 (by decide) ?_
  refine A_aload_n hg dL_losingWith_2 rfl rfl ?_
  refine A_iload_n hg dL_losingWith_3 rfl rfl ?_
  refine A_iload_n hg dL_losingWith_4 rfl rfl ?_
  refine A_hVX (kc2 := 2) (ks2 := 12) (As := [.int (r), .int (x)]) (rest := [.int (nI (0)), .ref (q_h G + 294)]) hg lk_RL_91 in_X10_losingWith se_X10_losingWith rfl dL_losingWith_5 ⟨by decide, by decide⟩ rfl rfl ⟨by decide, by decide⟩ hc0 (by omega) rfl rfl (Nat.le_of_ble_eq_true rfl) (c_X10_losingWith G false n σ z1 z2 z3 g r x hc0 (by omega) hG hO) ?_ ?_
  · skip
    intro E σx hx
    obtain ⟨hs9, hx⟩ := hx
    rw [hs9]
    rcases hx with ⟨rfl, h0⟩ | ⟨rfl, h0⟩
    · skip
      refine A_caught hg [] [(0, 10, 17, 13)] rfl (by decide) (by decide) clk_19 cst_19 (fun z hz => nomatch hz) (fun q9 => ?_)
      refine A_astore hg dL_losingWith_13 (by decide) (q_c1d rfl) ?_
      refine A_eq (ls2 := [some (.ref (q_h G + 0)), some (.int (r)), some (.int (x)), some (.ref (q_h G + 294)), some (.ref q9)]) (st2 := []) (pc2 := 0) rfl rfl ?_
      refine A_iconst (v := (nI (1))) hg dL_losingWith_15 (by decide) ?_
      rw [hQ]
      exact A_ireturn hg (by decide) (by decide) rfl dL_losingWith_16 ⟨rfl, Or.inr (Or.inl (⟨rfl, h0, rfl⟩))⟩
    · skip
      refine A_caught hg [(0, 10, 13, 19)] [] rfl (by decide) (by decide) clk_13 cst_13 (List.forall_mem_cons.mpr ⟨⟨by decide, _, clk_19, nc_13_19⟩, (fun z hz => nomatch hz)⟩) (fun q9 => ?_)
      refine A_astore hg dL_losingWith_17 (by decide) (q_c1d rfl) ?_
      refine A_eq (ls2 := [some (.ref (q_h G + 0)), some (.int (r)), some (.int (x)), some (.ref (q_h G + 294)), some (.ref q9)]) (st2 := []) (pc2 := 0) rfl rfl ?_
      refine A_iconst (v := (nI (2))) hg dL_losingWith_19 (by decide) ?_
      rw [hQ]
      exact A_ireturn hg (by decide) (by decide) rfl dL_losingWith_20 ⟨rfl, Or.inr (Or.inr ((⟨rfl, h0, rfl⟩)))⟩
  rintro _ σ_2 ⟨r1, x1, rfl, hre, hrl, hxe, hxl, hO2, hf_1⟩
  refine (?_ : AJ G K Q 2 12 false n 8 [some (.ref (q_h G + 0)), some (.int (r)), some (.int (x)), some (.ref (q_h G + 294)), none] [.int (nI (s_cnt (fun p => s_V (s_rule (s_rset g r1 18 x1) r1) p == 0) 1681)), .int (nI (0)), .ref (q_h G + 294)] σ_2)
  have hc_3 : σ_2 0 = o10 G (z1) (z2) (z3) := (hf_1 _ (by omega)).trans hc0
  have hc_4 : σ_2 294 = q_ln G 1 oL := (hf_1 _ (by omega)).trans hc1
  refine A_i2l (v := (nI (s_cnt (fun p => s_V (s_rule (s_rset g r1 18 x1) r1) p == 0) 1681)).toInt64) hg dL_losingWith_8 rfl ?_
  refine A_last (j := 0) (x := ((nI (s_cnt (fun p => s_V (s_rule (s_rset g r1 18 x1) r1) p == 0) 1681)).toInt64)) hg dL_losingWith_9 hc_4 (by omega) (by omega) (by decide) (fun σ_5 hc_6 hf_7 => ?_)
  have hc_8 : σ_5 0 = o10 G (z1) (z2) (z3) := (hf_7 _ (by omega)).trans hc_3
  refine A_goto (tgt := 21) hg dL_losingWith_10 (by decide) ?_
  refine A_iconst (v := (nI (0))) hg dL_losingWith_21 (by decide) ?_
  rw [hQ]
  exact A_ireturn hg (by decide) (by decide) rfl dL_losingWith_22 ⟨rfl, Or.inl (⟨r1, x1, rfl, hre, hrl, hxe, hxl, (x_oj_e (fun i _ _ => (hf_7 i (by omega))) hO2), hc_6, (fun i hi => ((hf_7 i (by omega)).trans (hf_1 i (by omega))))⟩)⟩
set_option maxRecDepth 100000 in
set_option maxHeartbeats 4000000 in
theorem c_L_share (G : GL) (n : Nat) (σ : Nat → va_E) (z1 : Int32) (z2 : Int32) (z3 : Int32) (g : Nat → Nat) (r : Int32) (oD : Nat → UInt64) (hc0 : σ 0 = o10 G (z1) (z2) (z3)) (hc1 : σ 295 = q_dn G 1 oD) (hn9 : 279 ≤ n) (hG : x_gm G σ 25 g) (hM : x_mx G σ) (hfd : q_fdn) (h295n : 295 < n) (hf2 : q_f2n) : CtH G yL_share cL_share 4 (some .int) [(0, 9, 12, 19)] ⟨8, 1, 6, 140⟩ [.ref (q_h G + 0), .int (r), .ref (q_h G + 295)] n σ (fun v9 σ2 => (∃ (r1 : Nat), v9 = some (.int (nI (0))) ∧ (r = nI r1) ∧ (r1 < g 0) ∧ (x_mx G σ2) ∧ σ2 295 = q_dn G 1 (va_up oD 0 (FP.f2d ((FP.fdiv (FP.i2f (nI (s_lzc (s_rule g r1) 1681))) 1154621440)))) ∧ (∀ i : Nat, (i < 43 ∨ 77 < i) ∧ i ≠ 295 → σ2 i = σ i)) ∨ (v9 = some (.int (nI (1))) ∧ (∀ j : Nat, j < g 0 → r = nI j → False) ∧ σ2 = σ)) := by
  refine q_enterH [some (.ref (q_h G + 0)), some (.int (r)), some (.ref (q_h G + 295)), none] (by decide) (Nat.le_of_ble_eq_true rfl) rfl ?_
  intro K hg
  obtain ⟨Q, hQ⟩ : ∃ Q, Q = q_Q G K false n 1 6 (fun v9 n' σ' => n' = n ∧ (fun v9 σ2 => (∃ (r1 : Nat), v9 = some (.int (nI (0))) ∧ (r = nI r1) ∧ (r1 < g 0) ∧ (x_mx G σ2) ∧ σ2 295 = q_dn G 1 (va_up oD 0 (FP.f2d ((FP.fdiv (FP.i2f (nI (s_lzc (s_rule g r1) 1681))) 1154621440)))) ∧ (∀ i : Nat, (i < 43 ∨ 77 < i) ∧ i ≠ 295 → σ2 i = σ i)) ∨ (v9 = some (.int (nI (1))) ∧ (∀ j : Nat, j < g 0 → r = nI j → False) ∧ σ2 = σ)) v9 σ') q_noX := ⟨_, rfl⟩
  refine (?_ : AJ G K (q_Q G K false n 1 6 _ _) 0 0 false n 0 _ _ σ)
  rw [← hQ]
  refine A_aload_n hg dL_share_0 rfl rfl ?_
  refine A_iconst (v := (nI (0))) hg dL_share_1 (by decide) ?_
  refine A_aload_n hg dL_share_2 rfl rfl ?_
  refine A_iload_n hg dL_share_3 rfl rfl ?_
  refine A_hVX (kc2 := 1) (ks2 := 6) (As := [.int (r)]) (rest := [.int (nI (0)), .ref (q_h G + 295)]) hg lk_RL_94 in_X10_share se_X10_share rfl dL_share_4 ⟨by decide, by decide⟩ rfl rfl ⟨by decide, by decide⟩ hc0 (by omega) rfl rfl (Nat.le_of_ble_eq_true rfl) (c_X10_share G false n σ z1 z2 z3 g r hc0 (by omega) hG hM hfd) ?_ ?_
  · skip
    intro E σx hx
    obtain ⟨hs9, hx⟩ := hx
    rw [hs9]
    obtain ⟨rfl, h0⟩ := hx
    refine A_caught hg [] [] rfl (by decide) (by decide) clk_19 cst_19 (fun z hz => nomatch hz) (fun q9 => ?_)
    refine A_astore_n hg dL_share_12 rfl (by decide) (q_c1d rfl) ?_
    refine A_eq (ls2 := [some (.ref (q_h G + 0)), some (.int (r)), some (.ref (q_h G + 295)), some (.ref q9)]) (st2 := []) (pc2 := 0) rfl rfl ?_
    refine A_iconst (v := (nI (1))) hg dL_share_13 (by decide) ?_
    rw [hQ]
    exact A_ireturn hg (by decide) (by decide) rfl dL_share_14 ⟨rfl, Or.inr ((⟨rfl, h0, rfl⟩))⟩
  rintro _ σ_2 ⟨r1, rfl, hre, hrl, hM2, hf_1⟩
  refine (?_ : AJ G K Q 1 6 false n 7 [some (.ref (q_h G + 0)), some (.int (r)), some (.ref (q_h G + 295)), none] [.float (FP.fdiv (FP.i2f (nI (s_lzc (s_rule g r1) 1681))) 1154621440), .int (nI (0)), .ref (q_h G + 295)] σ_2)
  have hc_3 : σ_2 0 = o10 G (z1) (z2) (z3) := (hf_1 _ (by omega)).trans hc0
  have hc_4 : σ_2 295 = q_dn G 1 oD := (hf_1 _ (by omega)).trans hc1
  refine A_f2d hg dL_share_7 (hf2 _) ?_
  refine A_dast (j := 0) (x := (FP.f2d ((FP.fdiv (FP.i2f (nI (s_lzc (s_rule g r1) 1681))) 1154621440)))) hg dL_share_8 hc_4 (by omega) (by omega) (by decide) (fun σ_5 hc_6 hf_7 => ?_)
  have hc_8 : σ_5 0 = o10 G (z1) (z2) (z3) := (hf_7 _ (by omega)).trans hc_3
  refine A_goto (tgt := 15) hg dL_share_9 (by decide) ?_
  refine A_iconst (v := (nI (0))) hg dL_share_15 (by decide) ?_
  rw [hQ]
  exact A_ireturn hg (by decide) (by decide) rfl dL_share_16 ⟨rfl, Or.inl (⟨r1, rfl, hre, hrl, (x_mx_e (fun i _ _ => (hf_7 i (by omega))) hM2), hc_6, (fun i hi => ((hf_7 i (by omega)).trans (hf_1 i (by omega))))⟩)⟩
set_option maxRecDepth 100000 in
set_option maxHeartbeats 4000000 in
theorem c_L_meanValue (G : GL) (n : Nat) (σ : Nat → va_E) (z1 : Int32) (z2 : Int32) (z3 : Int32) (g : Nat → Nat) (r : Int32) (oD : Nat → UInt64) (hc0 : σ 0 = o10 G (z1) (z2) (z3)) (hc1 : σ 295 = q_dn G 1 oD) (hn9 : 279 ≤ n) (hG : x_gm G σ 25 g) (hM : x_mx G σ) (hdd : q_ddn) (h295n : 295 < n) : CtH G yL_meanValue cL_meanValue 4 (some .int) [(0, 8, 11, 19)] ⟨8, 1, 6, 140⟩ [.ref (q_h G + 0), .int (r), .ref (q_h G + 295)] n σ (fun v9 σ2 => (∃ (r1 : Nat), v9 = some (.int (nI (0))) ∧ (r = nI r1) ∧ (r1 < g 0) ∧ (x_mx G σ2) ∧ σ2 295 = q_dn G 1 (va_up oD 0 (FP.ddiv (FP.i2d (nI (s_vsum (s_rule g r1) 1681))) 4655107931631517696)) ∧ (∀ i : Nat, (i < 43 ∨ 77 < i) ∧ i ≠ 295 → σ2 i = σ i)) ∨ (v9 = some (.int (nI (1))) ∧ (∀ j : Nat, j < g 0 → r = nI j → False) ∧ σ2 = σ)) := by
  refine q_enterH [some (.ref (q_h G + 0)), some (.int (r)), some (.ref (q_h G + 295)), none] (by decide) (Nat.le_of_ble_eq_true rfl) rfl ?_
  intro K hg
  obtain ⟨Q, hQ⟩ : ∃ Q, Q = q_Q G K false n 1 6 (fun v9 n' σ' => n' = n ∧ (fun v9 σ2 => (∃ (r1 : Nat), v9 = some (.int (nI (0))) ∧ (r = nI r1) ∧ (r1 < g 0) ∧ (x_mx G σ2) ∧ σ2 295 = q_dn G 1 (va_up oD 0 (FP.ddiv (FP.i2d (nI (s_vsum (s_rule g r1) 1681))) 4655107931631517696)) ∧ (∀ i : Nat, (i < 43 ∨ 77 < i) ∧ i ≠ 295 → σ2 i = σ i)) ∨ (v9 = some (.int (nI (1))) ∧ (∀ j : Nat, j < g 0 → r = nI j → False) ∧ σ2 = σ)) v9 σ') q_noX := ⟨_, rfl⟩
  refine (?_ : AJ G K (q_Q G K false n 1 6 _ _) 0 0 false n 0 _ _ σ)
  rw [← hQ]
  refine A_aload_n hg dL_meanValue_0 rfl rfl ?_
  refine A_iconst (v := (nI (0))) hg dL_meanValue_1 (by decide) ?_
  refine A_aload_n hg dL_meanValue_2 rfl rfl ?_
  refine A_iload_n hg dL_meanValue_3 rfl rfl ?_
  refine A_hVX (kc2 := 1) (ks2 := 6) (As := [.int (r)]) (rest := [.int (nI (0)), .ref (q_h G + 295)]) hg lk_RL_98 in_X10_meanValue se_X10_meanValue rfl dL_meanValue_4 ⟨by decide, by decide⟩ rfl rfl ⟨by decide, by decide⟩ hc0 (by omega) rfl rfl (Nat.le_of_ble_eq_true rfl) (c_X10_meanValue G false n σ z1 z2 z3 g r hc0 (by omega) hG hM hdd) ?_ ?_
  · skip
    intro E σx hx
    obtain ⟨hs9, hx⟩ := hx
    rw [hs9]
    obtain ⟨rfl, h0⟩ := hx
    refine A_caught hg [] [] rfl (by decide) (by decide) clk_19 cst_19 (fun z hz => nomatch hz) (fun q9 => ?_)
    refine A_astore_n hg dL_meanValue_11 rfl (by decide) (q_c1d rfl) ?_
    refine A_eq (ls2 := [some (.ref (q_h G + 0)), some (.int (r)), some (.ref (q_h G + 295)), some (.ref q9)]) (st2 := []) (pc2 := 0) rfl rfl ?_
    refine A_iconst (v := (nI (1))) hg dL_meanValue_12 (by decide) ?_
    rw [hQ]
    exact A_ireturn hg (by decide) (by decide) rfl dL_meanValue_13 ⟨rfl, Or.inr ((⟨rfl, h0, rfl⟩))⟩
  rintro _ σ_2 ⟨r1, rfl, hre, hrl, hM2, hf_1⟩
  refine (?_ : AJ G K Q 1 6 false n 7 [some (.ref (q_h G + 0)), some (.int (r)), some (.ref (q_h G + 295)), none] [.double (FP.ddiv (FP.i2d (nI (s_vsum (s_rule g r1) 1681))) 4655107931631517696), .int (nI (0)), .ref (q_h G + 295)] σ_2)
  have hc_3 : σ_2 0 = o10 G (z1) (z2) (z3) := (hf_1 _ (by omega)).trans hc0
  have hc_4 : σ_2 295 = q_dn G 1 oD := (hf_1 _ (by omega)).trans hc1
  refine A_dast (j := 0) (x := (FP.ddiv (FP.i2d (nI (s_vsum (s_rule g r1) 1681))) 4655107931631517696)) hg dL_meanValue_7 hc_4 (by omega) (by omega) (by decide) (fun σ_5 hc_6 hf_7 => ?_)
  have hc_8 : σ_5 0 = o10 G (z1) (z2) (z3) := (hf_7 _ (by omega)).trans hc_3
  refine A_goto (tgt := 14) hg dL_meanValue_8 (by decide) ?_
  refine A_iconst (v := (nI (0))) hg dL_meanValue_14 (by decide) ?_
  rw [hQ]
  exact A_ireturn hg (by decide) (by decide) rfl dL_meanValue_15 ⟨rfl, Or.inl (⟨r1, rfl, hre, hrl, (x_mx_e (fun i _ _ => (hf_7 i (by omega))) hM2), hc_6, (fun i hi => ((hf_7 i (by omega)).trans (hf_1 i (by omega))))⟩)⟩
set_option maxRecDepth 100000 in
set_option maxHeartbeats 4000000 in
theorem c_L_move (G : GL) (n : Nat) (σ : Nat → va_E) (z1 : Int32) (z2 : Int32) (z3 : Int32) (g : Nat → Nat) (nx : Nat) (m : Nat) (ps : Nat → Nat → Nat) (p : Int32) (k : Int32) (l : Int32) (oL : Nat → Int64) (hc0 : σ 0 = o10 G (z1) (z2) (z3)) (hc1 : σ 294 = q_ln G 1 oL) (hn9 : 279 ≤ n) (hG : x_gm G σ 25 g) (hM : x_mx G σ) (hHi : x_hi G σ nx m ps) (h295n : 294 < n) : CtH G yL_move cL_move 6 (some .int) [(0, 12, 15, 19), (0, 12, 19, 105)] ⟨8, 2, 12, 169⟩ [.ref (q_h G + 0), .int (p), .int (k), .int (l), .ref (q_h G + 294)] n σ (fun v9 σ2 => (∃ (p1 : Nat), ∃ (a1 : Nat), ∃ (b1 : Nat), v9 = some (.int (nI (0))) ∧ (p = nI p1) ∧ (p1 < s_np g) ∧ (k = nI a1) ∧ (l = nI b1) ∧ (s_ref g p1 a1 b1 = 0) ∧ (x_gm G σ2 25 (s_play g p1 a1 b1)) ∧ (x_hi G σ2 ((nx + 1) % 8) (min (m + 1) 8) (x_psh m ps g)) ∧ (x_mx G σ2) ∧ σ2 294 = q_ln G 1 (va_up oL 0 ((nI (s_tot (s_play g p1 a1 b1))).toInt64)) ∧ (∀ i : Nat, (i < 25 ∨ 223 < i) ∧ i ≠ 294 → σ2 i = σ i)) ∨ (v9 = some (.int (nI (1))) ∧ (∀ j : Nat, j < s_np g → p = nI j → False) ∧ σ2 = σ) ∨ (v9 = some (.int (nI (2))) ∧ (∃ p1 : Nat, p = nI p1 ∧ p1 < s_np g ∧ ¬ s_refI g p1 k l = 0) ∧ σ2 = σ)) := by
  refine q_enterH [some (.ref (q_h G + 0)), some (.int (p)), some (.int (k)), some (.int (l)), some (.ref (q_h G + 294)), none] (by decide) (Nat.le_of_ble_eq_true rfl) rfl ?_
  intro K hg
  obtain ⟨Q, hQ⟩ : ∃ Q, Q = q_Q G K false n 2 12 (fun v9 n' σ' => n' = n ∧ (fun v9 σ2 => (∃ (p1 : Nat), ∃ (a1 : Nat), ∃ (b1 : Nat), v9 = some (.int (nI (0))) ∧ (p = nI p1) ∧ (p1 < s_np g) ∧ (k = nI a1) ∧ (l = nI b1) ∧ (s_ref g p1 a1 b1 = 0) ∧ (x_gm G σ2 25 (s_play g p1 a1 b1)) ∧ (x_hi G σ2 ((nx + 1) % 8) (min (m + 1) 8) (x_psh m ps g)) ∧ (x_mx G σ2) ∧ σ2 294 = q_ln G 1 (va_up oL 0 ((nI (s_tot (s_play g p1 a1 b1))).toInt64)) ∧ (∀ i : Nat, (i < 25 ∨ 223 < i) ∧ i ≠ 294 → σ2 i = σ i)) ∨ (v9 = some (.int (nI (1))) ∧ (∀ j : Nat, j < s_np g → p = nI j → False) ∧ σ2 = σ) ∨ (v9 = some (.int (nI (2))) ∧ (∃ p1 : Nat, p = nI p1 ∧ p1 < s_np g ∧ ¬ s_refI g p1 k l = 0) ∧ σ2 = σ)) v9 σ') q_noX := ⟨_, rfl⟩
  refine (?_ : AJ G K (q_Q G K false n 2 12 _ _) 0 0 false n 0 _ _ σ)
  rw [← hQ]
  refine A_aload hg dL_move_0 rfl ?_
  refine A_iconst (v := (nI (0))) hg dL_move_2 (by decide) ?_
  refine A_aload_n hg dL_move_3 rfl rfl ?_
  refine A_iload_n hg dL_move_4 rfl rfl ?_
  refine A_iload_n hg dL_move_5 rfl rfl ?_
  refine A_iload_n hg dL_move_6 rfl rfl ?_
  refine A_hVX (kc2 := 2) (ks2 := 12) (As := [.int (p), .int (k), .int (l)]) (rest := [.int (nI (0)), .ref (q_h G + 294)]) hg lk_RL_102 in_X10_move se_X10_move rfl dL_move_7 ⟨by decide, by decide⟩ rfl rfl ⟨by decide, by decide⟩ hc0 (by omega) rfl rfl (Nat.le_of_ble_eq_true rfl) (c_X10_move G false n σ z1 z2 z3 g nx m ps p k l hc0 (by omega) hG hM hHi) ?_ ?_
  · skip
    intro E σx hx
    obtain ⟨hs9, hx⟩ := hx
    rw [hs9]
    rcases hx with ⟨rfl, h0⟩ | ⟨rfl, h0⟩
    · skip
      refine A_caught hg [] [(0, 12, 19, 105)] rfl (by decide) (by decide) clk_19 cst_19 (fun z hz => nomatch hz) (fun q9 => ?_)
      refine A_astore hg dL_move_15 (by decide) (q_c1d rfl) ?_
      refine A_eq (ls2 := [some (.ref (q_h G + 0)), some (.int (p)), some (.int (k)), some (.int (l)), some (.ref (q_h G + 294)), some (.ref q9)]) (st2 := []) (pc2 := 0) rfl rfl ?_
      refine A_iconst (v := (nI (1))) hg dL_move_17 (by decide) ?_
      rw [hQ]
      exact A_ireturn hg (by decide) (by decide) rfl dL_move_18 ⟨rfl, Or.inr (Or.inl (⟨rfl, h0, rfl⟩))⟩
    · skip
      refine A_caught hg [(0, 12, 15, 19)] [] rfl (by decide) (by decide) clk_105 cst_105 (List.forall_mem_cons.mpr ⟨⟨by decide, _, clk_19, nc_105_19⟩, (fun z hz => nomatch hz)⟩) (fun q9 => ?_)
      refine A_astore hg dL_move_19 (by decide) (q_c1d rfl) ?_
      refine A_eq (ls2 := [some (.ref (q_h G + 0)), some (.int (p)), some (.int (k)), some (.int (l)), some (.ref (q_h G + 294)), some (.ref q9)]) (st2 := []) (pc2 := 0) rfl rfl ?_
      refine A_iconst (v := (nI (2))) hg dL_move_21 (by decide) ?_
      rw [hQ]
      exact A_ireturn hg (by decide) (by decide) rfl dL_move_22 ⟨rfl, Or.inr (Or.inr ((⟨rfl, h0, rfl⟩)))⟩
  rintro _ σ_2 ⟨p1, a1, b1, rfl, hpe, hpl, hke, hle, hrf, hG2, hHi2, hM2, hf_1⟩
  refine (?_ : AJ G K Q 2 12 false n 10 [some (.ref (q_h G + 0)), some (.int (p)), some (.int (k)), some (.int (l)), some (.ref (q_h G + 294)), none] [.int (nI (s_tot (s_play g p1 a1 b1))), .int (nI (0)), .ref (q_h G + 294)] σ_2)
  have hc_3 : σ_2 0 = o10 G (z1) (z2) (z3) := (hf_1 _ (by omega)).trans hc0
  have hc_4 : σ_2 294 = q_ln G 1 oL := (hf_1 _ (by omega)).trans hc1
  refine A_i2l (v := (nI (s_tot (s_play g p1 a1 b1))).toInt64) hg dL_move_10 rfl ?_
  refine A_last (j := 0) (x := ((nI (s_tot (s_play g p1 a1 b1))).toInt64)) hg dL_move_11 hc_4 (by omega) (by omega) (by decide) (fun σ_5 hc_6 hf_7 => ?_)
  have hc_8 : σ_5 0 = o10 G (z1) (z2) (z3) := (hf_7 _ (by omega)).trans hc_3
  refine A_goto (tgt := 23) hg dL_move_12 (by decide) ?_
  refine A_iconst (v := (nI (0))) hg dL_move_23 (by decide) ?_
  rw [hQ]
  exact A_ireturn hg (by decide) (by decide) rfl dL_move_24 ⟨rfl, Or.inl (⟨p1, a1, b1, rfl, hpe, hpl, hke, hle, hrf, (x_gm_e (fun i _ _ => (hf_7 i (by omega))) hG2), (x_hi_e (fun i _ _ => (hf_7 i (by omega))) hHi2), (x_mx_e (fun i _ _ => (hf_7 i (by omega))) hM2), hc_6, (fun i hi => ((hf_7 i (by omega)).trans (hf_1 i (by omega))))⟩)⟩
set_option maxRecDepth 100000 in
set_option maxHeartbeats 4000000 in
theorem c_L_follow (G : GL) (n : Nat) (σ : Nat → va_E) (z1 : Int32) (z2 : Int32) (z3 : Int32) (g : Nat → Nat) (nx : Nat) (m : Nat) (ps : Nat → Nat → Nat) (t : Int32) (oL : Nat → Int64) (hc0 : σ 0 = o10 G (z1) (z2) (z3)) (hc1 : σ 294 = q_ln G 1 oL) (hn9 : 279 ≤ n) (hG : x_gm G σ 25 g) (hM : x_mx G σ) (hH : x_hn G σ) (hHi : x_hi G σ nx m ps) (h295n : 294 < n) : CtH G yL_follow cL_follow 4 (some .int) [(0, 9, 12, 13)] ⟨8, 1, 6, 169⟩ [.ref (q_h G + 0), .int (t), .ref (q_h G + 294)] n σ (fun v9 σ2 => (∃ (t1 : Nat), v9 = some (.int (nI (0))) ∧ (t = nI t1) ∧ (1 ≤ t1) ∧ (t1 ≤ 600) ∧ (x_gm G σ2 25 (s_it g (s_fn g t1))) ∧ (x_hi G σ2 ((nx + 1) % 8) (min (m + 1) 8) (x_psh m ps g)) ∧ (x_mx G σ2) ∧ (x_hn G σ2) ∧ σ2 294 = q_ln G 1 (va_up oL 0 ((nI (s_fn g t1)).toInt64)) ∧ (∀ i : Nat, (i < 25 ∨ (223 < i ∧ i ≠ 242)) ∧ i ≠ 294 → σ2 i = σ i)) ∨ (v9 = some (.int (nI (1))) ∧ (∀ j : Nat, 1 ≤ j → j ≤ 600 → t = nI j → False) ∧ σ2 = σ)) := by
  refine q_enterH [some (.ref (q_h G + 0)), some (.int (t)), some (.ref (q_h G + 294)), none] (by decide) (Nat.le_of_ble_eq_true rfl) rfl ?_
  intro K hg
  obtain ⟨Q, hQ⟩ : ∃ Q, Q = q_Q G K false n 1 6 (fun v9 n' σ' => n' = n ∧ (fun v9 σ2 => (∃ (t1 : Nat), v9 = some (.int (nI (0))) ∧ (t = nI t1) ∧ (1 ≤ t1) ∧ (t1 ≤ 600) ∧ (x_gm G σ2 25 (s_it g (s_fn g t1))) ∧ (x_hi G σ2 ((nx + 1) % 8) (min (m + 1) 8) (x_psh m ps g)) ∧ (x_mx G σ2) ∧ (x_hn G σ2) ∧ σ2 294 = q_ln G 1 (va_up oL 0 ((nI (s_fn g t1)).toInt64)) ∧ (∀ i : Nat, (i < 25 ∨ (223 < i ∧ i ≠ 242)) ∧ i ≠ 294 → σ2 i = σ i)) ∨ (v9 = some (.int (nI (1))) ∧ (∀ j : Nat, 1 ≤ j → j ≤ 600 → t = nI j → False) ∧ σ2 = σ)) v9 σ') q_noX := ⟨_, rfl⟩
  refine (?_ : AJ G K (q_Q G K false n 1 6 _ _) 0 0 false n 0 _ _ σ)
  rw [← hQ]
  refine A_aload_n hg dL_follow_0 rfl rfl ?_
  refine A_iconst (v := (nI (0))) hg dL_follow_1 (by decide) ?_
  refine A_aload_n hg dL_follow_2 rfl rfl ?_
  refine A_iload_n hg dL_follow_3 rfl rfl ?_
  refine A_hVX (kc2 := 1) (ks2 := 6) (As := [.int (t)]) (rest := [.int (nI (0)), .ref (q_h G + 294)]) hg lk_RL_107 in_X10_follow se_X10_follow rfl dL_follow_4 ⟨by decide, by decide⟩ rfl rfl ⟨by decide, by decide⟩ hc0 (by omega) rfl rfl (Nat.le_of_ble_eq_true rfl) (c_X10_follow G false n σ z1 z2 z3 g nx m ps t hc0 (by omega) hG hM hH hHi) ?_ ?_
  · skip
    intro E σx hx
    obtain ⟨hs9, hx⟩ := hx
    rw [hs9]
    obtain ⟨rfl, h0⟩ := hx
    refine A_caught hg [] [] rfl (by decide) (by decide) clk_13 cst_13 (fun z hz => nomatch hz) (fun q9 => ?_)
    refine A_astore_n hg dL_follow_12 rfl (by decide) (q_c1d rfl) ?_
    refine A_eq (ls2 := [some (.ref (q_h G + 0)), some (.int (t)), some (.ref (q_h G + 294)), some (.ref q9)]) (st2 := []) (pc2 := 0) rfl rfl ?_
    refine A_iconst (v := (nI (1))) hg dL_follow_13 (by decide) ?_
    rw [hQ]
    exact A_ireturn hg (by decide) (by decide) rfl dL_follow_14 ⟨rfl, Or.inr ((⟨rfl, h0, rfl⟩))⟩
  rintro _ σ_2 ⟨t1, rfl, hte, hta, htl, hG2, hHi2, hM2, hH2, hf_1⟩
  refine (?_ : AJ G K Q 1 6 false n 7 [some (.ref (q_h G + 0)), some (.int (t)), some (.ref (q_h G + 294)), none] [.int (nI (s_fn g t1)), .int (nI (0)), .ref (q_h G + 294)] σ_2)
  have hc_3 : σ_2 0 = o10 G (z1) (z2) (z3) := (hf_1 _ (by omega)).trans hc0
  have hc_4 : σ_2 294 = q_ln G 1 oL := (hf_1 _ (by omega)).trans hc1
  refine A_i2l (v := (nI (s_fn g t1)).toInt64) hg dL_follow_7 rfl ?_
  refine A_last (j := 0) (x := ((nI (s_fn g t1)).toInt64)) hg dL_follow_8 hc_4 (by omega) (by omega) (by decide) (fun σ_5 hc_6 hf_7 => ?_)
  have hc_8 : σ_5 0 = o10 G (z1) (z2) (z3) := (hf_7 _ (by omega)).trans hc_3
  refine A_goto (tgt := 15) hg dL_follow_9 (by decide) ?_
  refine A_iconst (v := (nI (0))) hg dL_follow_15 (by decide) ?_
  rw [hQ]
  exact A_ireturn hg (by decide) (by decide) rfl dL_follow_16 ⟨rfl, Or.inl (⟨t1, rfl, hte, hta, htl, (x_gm_e (fun i _ _ => (hf_7 i (by omega))) hG2), (x_hi_e (fun i _ _ => (hf_7 i (by omega))) hHi2), (x_mx_e (fun i _ _ => (hf_7 i (by omega))) hM2), (iv_hn (fun i _ _ => (hf_7 i (by omega))) hH2), hc_6, (fun i hi => ((hf_7 i (by omega)).trans (hf_1 i (by omega))))⟩)⟩
set_option maxRecDepth 100000 in
set_option maxHeartbeats 4000000 in
theorem c_L_bar (G : GL) (n : Nat) (σ : Nat → va_E) (z1 : Int32) (z2 : Int32) (z3 : Int32) (g : Nat → Nat) (nx : Nat) (m : Nat) (ps : Nat → Nat → Nat) (r : Int32) (k : Int32) (l : Int32) (s : Bool) (oL : Nat → Int64) (hc0 : σ 0 = o10 G (z1) (z2) (z3)) (hc1 : σ 294 = q_ln G 1 oL) (hn9 : 279 ≤ n) (hG : x_gm G σ 25 g) (hHi : x_hi G σ nx m ps) (h295n : 294 < n) : CtH G yL_bar cL_bar 7 (some .int) [(0, 14, 17, 19), (0, 14, 21, 13), (0, 14, 25, 105)] ⟨10, 5, 30, 179⟩ [.ref (q_h G + 0), .int (r), .int (k), .int (l), .int (q_b (s)), .ref (q_h G + 294)] n σ (fun v9 σ2 => (∃ (r1 : Nat), ∃ (a1 : Nat), ∃ (b1 : Nat), v9 = some (.int (nI (0))) ∧ (r = nI r1) ∧ (r1 < g 0) ∧ (k = nI a1) ∧ (l = nI b1) ∧ (a1 ≤ 40) ∧ (b1 ≤ 40) ∧ (0 < a1 + b1) ∧ (x_gm G σ2 25 (s_barG g r1 s a1 b1)) ∧ (x_hi G σ2 ((nx + 1) % 8) (min (m + 1) 8) (x_psh m ps g)) ∧ σ2 294 = q_ln G 1 (va_up oL 0 ((nI (s_rule (s_barG g r1 s a1 b1) r1 20)).toInt64)) ∧ (∀ i : Nat, (i < 25 ∨ (42 < i ∧ i < 78) ∨ 223 < i) ∧ i ≠ 294 → σ2 i = σ i)) ∨ (v9 = some (.int (nI (1))) ∧ (∀ j : Nat, j < g 0 → r = nI j → False) ∧ σ2 = σ) ∨ (v9 = some (.int (nI (2))) ∧ (∃ r1 : Nat, r = nI r1 ∧ r1 < g 0 ∧ ∀ a b : Nat, a ≤ 40 → b ≤ 40 → 0 < a + b → k = nI a → l = nI b → False) ∧ σ2 = σ) ∨ (v9 = some (.int (nI (3))) ∧ (∃ r1 a1 b1 : Nat, r = nI r1 ∧ r1 < g 0 ∧ k = nI a1 ∧ l = nI b1 ∧ a1 ≤ 40 ∧ b1 ≤ 40 ∧ 0 < a1 + b1 ∧ s = true ∧ s_barred (s_rule g r1) a1 b1 = false ∧ s_rule g r1 20 = 4) ∧ σ2 = σ)) := by
  refine q_enterH [some (.ref (q_h G + 0)), some (.int (r)), some (.int (k)), some (.int (l)), some (.int (q_b (s))), some (.ref (q_h G + 294)), none] (by decide) (Nat.le_of_ble_eq_true rfl) rfl ?_
  intro K hg
  obtain ⟨Q, hQ⟩ : ∃ Q, Q = q_Q G K false n 5 30 (fun v9 n' σ' => n' = n ∧ (fun v9 σ2 => (∃ (r1 : Nat), ∃ (a1 : Nat), ∃ (b1 : Nat), v9 = some (.int (nI (0))) ∧ (r = nI r1) ∧ (r1 < g 0) ∧ (k = nI a1) ∧ (l = nI b1) ∧ (a1 ≤ 40) ∧ (b1 ≤ 40) ∧ (0 < a1 + b1) ∧ (x_gm G σ2 25 (s_barG g r1 s a1 b1)) ∧ (x_hi G σ2 ((nx + 1) % 8) (min (m + 1) 8) (x_psh m ps g)) ∧ σ2 294 = q_ln G 1 (va_up oL 0 ((nI (s_rule (s_barG g r1 s a1 b1) r1 20)).toInt64)) ∧ (∀ i : Nat, (i < 25 ∨ (42 < i ∧ i < 78) ∨ 223 < i) ∧ i ≠ 294 → σ2 i = σ i)) ∨ (v9 = some (.int (nI (1))) ∧ (∀ j : Nat, j < g 0 → r = nI j → False) ∧ σ2 = σ) ∨ (v9 = some (.int (nI (2))) ∧ (∃ r1 : Nat, r = nI r1 ∧ r1 < g 0 ∧ ∀ a b : Nat, a ≤ 40 → b ≤ 40 → 0 < a + b → k = nI a → l = nI b → False) ∧ σ2 = σ) ∨ (v9 = some (.int (nI (3))) ∧ (∃ r1 a1 b1 : Nat, r = nI r1 ∧ r1 < g 0 ∧ k = nI a1 ∧ l = nI b1 ∧ a1 ≤ 40 ∧ b1 ≤ 40 ∧ 0 < a1 + b1 ∧ s = true ∧ s_barred (s_rule g r1) a1 b1 = false ∧ s_rule g r1 20 = 4) ∧ σ2 = σ)) v9 σ') q_noX := ⟨_, rfl⟩
  refine (?_ : AJ G K (q_Q G K false n 5 30 _ _) 0 0 false n 0 _ _ σ)
  rw [← hQ]
  refine A_aload hg dL_bar_0 rfl ?_
  refine A_iconst (v := (nI (0))) hg dL_bar_2 (by decide) ?_
  refine A_aload_n hg dL_bar_3 rfl rfl ?_
  refine A_iload_n hg dL_bar_4 rfl rfl ?_
  refine A_iload_n hg dL_bar_5 rfl rfl ?_
  refine A_iload_n hg dL_bar_6 rfl rfl ?_
  refine A_iload hg dL_bar_7 rfl ?_
  refine A_hVX (kc2 := 5) (ks2 := 30) (As := [.int (r), .int (k), .int (l), .int (q_b (s))]) (rest := [.int (nI (0)), .ref (q_h G + 294)]) hg lk_RL_110 in_X10_bar se_X10_bar rfl dL_bar_9 ⟨by decide, by decide⟩ rfl rfl ⟨by decide, by decide⟩ hc0 (by omega) rfl rfl (Nat.le_of_ble_eq_true rfl) (c_X10_bar G false n σ z1 z2 z3 g nx m ps r k l s hc0 (by omega) hG hHi) ?_ ?_
  · skip
    intro E σx hx
    obtain ⟨hs9, hx⟩ := hx
    rw [hs9]
    rcases hx with ⟨rfl, h0⟩ | ⟨rfl, h0⟩ | ⟨rfl, h0⟩
    · skip
      refine A_caught hg [] [(0, 14, 21, 13), (0, 14, 25, 105)] rfl (by decide) (by decide) clk_19 cst_19 (fun z hz => nomatch hz) (fun q9 => ?_)
      refine A_astore hg dL_bar_17 (by decide) (q_c1d rfl) ?_
      refine A_eq (ls2 := [some (.ref (q_h G + 0)), some (.int (r)), some (.int (k)), some (.int (l)), some (.int (q_b (s))), some (.ref (q_h G + 294)), some (.ref q9)]) (st2 := []) (pc2 := 0) rfl rfl ?_
      refine A_iconst (v := (nI (1))) hg dL_bar_19 (by decide) ?_
      rw [hQ]
      exact A_ireturn hg (by decide) (by decide) rfl dL_bar_20 ⟨rfl, Or.inr (Or.inl (⟨rfl, h0, rfl⟩))⟩
    · skip
      refine A_caught hg [(0, 14, 17, 19)] [(0, 14, 25, 105)] rfl (by decide) (by decide) clk_13 cst_13 (List.forall_mem_cons.mpr ⟨⟨by decide, _, clk_19, nc_13_19⟩, (fun z hz => nomatch hz)⟩) (fun q9 => ?_)
      refine A_astore hg dL_bar_21 (by decide) (q_c1d rfl) ?_
      refine A_eq (ls2 := [some (.ref (q_h G + 0)), some (.int (r)), some (.int (k)), some (.int (l)), some (.int (q_b (s))), some (.ref (q_h G + 294)), some (.ref q9)]) (st2 := []) (pc2 := 0) rfl rfl ?_
      refine A_iconst (v := (nI (2))) hg dL_bar_23 (by decide) ?_
      rw [hQ]
      exact A_ireturn hg (by decide) (by decide) rfl dL_bar_24 ⟨rfl, Or.inr (Or.inr (Or.inl (⟨rfl, h0, rfl⟩)))⟩
    · skip
      refine A_caught hg [(0, 14, 17, 19), (0, 14, 21, 13)] [] rfl (by decide) (by decide) clk_105 cst_105 (List.forall_mem_cons.mpr ⟨⟨by decide, _, clk_19, nc_105_19⟩, (List.forall_mem_cons.mpr ⟨⟨by decide, _, clk_13, nc_105_13⟩, (fun z hz => nomatch hz)⟩)⟩) (fun q9 => ?_)
      refine A_astore hg dL_bar_25 (by decide) (q_c1d rfl) ?_
      refine A_eq (ls2 := [some (.ref (q_h G + 0)), some (.int (r)), some (.int (k)), some (.int (l)), some (.int (q_b (s))), some (.ref (q_h G + 294)), some (.ref q9)]) (st2 := []) (pc2 := 0) rfl rfl ?_
      refine A_iconst (v := (nI (3))) hg dL_bar_27 (by decide) ?_
      rw [hQ]
      exact A_ireturn hg (by decide) (by decide) rfl dL_bar_28 ⟨rfl, Or.inr (Or.inr (Or.inr ((⟨rfl, h0, rfl⟩))))⟩
  rintro _ σ_2 ⟨r1, a1, b1, rfl, hre, hrl, hke, hle, hkl, hll, hkp, hG2, hHi2, hf_1⟩
  refine (?_ : AJ G K Q 5 30 false n 12 [some (.ref (q_h G + 0)), some (.int (r)), some (.int (k)), some (.int (l)), some (.int (q_b (s))), some (.ref (q_h G + 294)), none] [.int (nI (s_rule (s_barG g r1 s a1 b1) r1 20)), .int (nI (0)), .ref (q_h G + 294)] σ_2)
  have hc_3 : σ_2 0 = o10 G (z1) (z2) (z3) := (hf_1 _ (by omega)).trans hc0
  have hc_4 : σ_2 294 = q_ln G 1 oL := (hf_1 _ (by omega)).trans hc1
  refine A_i2l (v := (nI (s_rule (s_barG g r1 s a1 b1) r1 20)).toInt64) hg dL_bar_12 rfl ?_
  refine A_last (j := 0) (x := ((nI (s_rule (s_barG g r1 s a1 b1) r1 20)).toInt64)) hg dL_bar_13 hc_4 (by omega) (by omega) (by decide) (fun σ_5 hc_6 hf_7 => ?_)
  have hc_8 : σ_5 0 = o10 G (z1) (z2) (z3) := (hf_7 _ (by omega)).trans hc_3
  refine A_goto (tgt := 29) hg dL_bar_14 (by decide) ?_
  refine A_iconst (v := (nI (0))) hg dL_bar_29 (by decide) ?_
  rw [hQ]
  exact A_ireturn hg (by decide) (by decide) rfl dL_bar_30 ⟨rfl, Or.inl (⟨r1, a1, b1, rfl, hre, hrl, hke, hle, hkl, hll, hkp, (x_gm_e (fun i _ _ => (hf_7 i (by omega))) hG2), (x_hi_e (fun i _ _ => (hf_7 i (by omega))) hHi2), hc_6, (fun i hi => ((hf_7 i (by omega)).trans (hf_1 i (by omega))))⟩)⟩
end
