section
set_option maxRecDepth 100000 in
set_option maxHeartbeats 4000000 in
theorem c_J7_fill_53178 (G : GL) (ex : Bool) (n : Nat) (σ : Nat → va_E) (q : Nat) (ln : Nat) (f : Nat → Nat) (v : Nat) (hc0 : σ q = q_an G (ln) f) (hq : q < n) (hl : ln < 2 ^ 31) : Ct G yJ7_fill_53178 cJ7_fill_53178 4 none ⟨0, 0, 0, 0⟩ [.ref (q_h G + q), .int (nI (v))] ex n σ (fun v9 σ2 => v9 = none ∧ σ2 q = q_an G (ln) (fun _ => v) ∧ (∀ i : Nat, i ≠ q → σ2 i = σ i)) := by
  refine q_enter [some (.ref (q_h G + q)), some (.int (nI (v))), none, none] (by decide) (Nat.le_of_ble_eq_true rfl) rfl ?_
  intro K hg
  obtain ⟨Q, hQ⟩ : ∃ Q, Q = q_Q G K ex n 0 0 (fun v9 n' σ' => n' = n ∧ (fun v9 σ2 => v9 = none ∧ σ2 q = q_an G (ln) (fun _ => v) ∧ (∀ i : Nat, i ≠ q → σ2 i = σ i)) v9 σ') q_noX := ⟨_, rfl⟩
  refine (?_ : AJ G K (q_Q G K ex n 0 0 _ _) 0 0 ex n 0 _ _ σ)
  rw [← hQ]
  refine A_iconst (v := (nI (0))) hg dJ7_fill_53178_0 (by decide) ?_
  refine A_istore_n hg dJ7_fill_53178_1 rfl (by decide) (q_c1d rfl) ?_
  refine A_eq (ls2 := [some (.ref (q_h G + q)), some (.int (nI (v))), some (.int (nI (0))), none]) (st2 := []) (pc2 := 0) rfl rfl ?_
  refine A_aload_n hg dJ7_fill_53178_2 rfl rfl ?_
  refine A_alen (t := 0) (len := ln) hg dJ7_fill_53178_3 hc0 (by decide) (by omega) ?_
  refine A_istore_n hg dJ7_fill_53178_4 rfl (by decide) (q_c1d rfl) ?_
  refine A_eq (ls2 := [some (.ref (q_h G + q)), some (.int (nI (v))), some (.int (nI (0))), some (.int (nI (ln)))]) (st2 := []) (pc2 := 0) rfl rfl ?_
  have hL5 : ∀ (fu : Nat) (i : Nat) (σ_1 : Nat → va_E), (σ_1 q = q_an G (ln) (fun j => if j < i then v else f j)) → (∀ i : Nat, i ≠ q → σ_1 i = σ i) → (i ≤ ln) → (ln - i) < fu → AJ G K Q 0 0 ex n 5 [some (.ref (q_h G + q)), some (.int (nI (v))), some (.int (nI (i))), some (.int (nI (ln)))] [] σ_1 := by
    intro fu
    induction fu with
    | zero => intro i σ_1 hc_2 hf_3 hi hm; exact absurd hm (Nat.not_lt_zero _)
    | succ fu ih5 =>
      intro i σ_1 hc_2 hf_3 hi hm5
      refine A_iload_n hg dJ7_fill_53178_5 rfl rfl ?_
      refine A_iload_n hg dJ7_fill_53178_6 rfl rfl ?_
      refine A_icmp_geN (tgt := 20) hg dJ7_fill_53178_7 (by omega) (by omega) (by decide) (fun c7 => ?_) (fun c7 => ?_)
      · skip
        refine A_canon (fun _ => v) hc_2 (fun jj hj => by rw [show i = ln by omega]; exact if_pos hj) (fun σ_4 hc_5 hf_6 => ?_)
        rw [hQ]
        exact A_return hg (by decide) (by decide) rfl dJ7_fill_53178_20 ⟨rfl, ⟨rfl, hc_5, (fun i hi => ((hf_6 i (by omega)).trans (hf_3 i (by omega))))⟩⟩
      · skip
        refine A_aload_n hg dJ7_fill_53178_10 rfl rfl ?_
        refine A_iload_n hg dJ7_fill_53178_11 rfl rfl ?_
        refine A_iload_n hg dJ7_fill_53178_12 rfl rfl ?_
        refine A_iast (j := i) (x := v) hg dJ7_fill_53178_13 hc_2 (by omega) (by omega) (by omega) (fun σ_7 hc_8 hf_9 => ?_)
        refine A_canon (fun j => if j < i + 1 then v else f j) hc_8 (fun jj _ => x_fill f v i jj) (fun σ_10 hc_11 hf_12 => ?_)
        refine A_iincN (k' := 1) hg dJ7_fill_53178_14 (by decide) rfl (by decide) (q_c1d rfl) ?_
        refine A_eq (ls2 := [some (.ref (q_h G + q)), some (.int (nI (v))), some (.int (nI (i + 1))), some (.int (nI (ln)))]) (st2 := []) (pc2 := 0) rfl rfl ?_
        refine A_goto (tgt := 5) hg dJ7_fill_53178_17 (by decide) ?_
        exact ih5 (i + 1) σ_10 hc_11 (fun i hi => ((hf_12 i (by omega)).trans ((hf_9 i (by omega)).trans (hf_3 i (by omega))))) (by omega) (by omega)
  exact hL5 _ 0 σ hc0 (fun _ _ => rfl) (Nat.zero_le _) (Nat.lt_succ_self _)
set_option maxRecDepth 100000 in
set_option maxHeartbeats 4000000 in
theorem c_X0_ruleAt (G : GL) (ex : Bool) (n : Nat) (σ : Nat → va_E) (gb : Nat) (rm : Nat) (pl : Nat) (tn : Nat) (gm : Nat) (tk : Nat) (r : Nat) (hc0 : σ gb = o0 G (gb) (nI (rm)) (nI (pl)) (nI (tn)) (nI (gm)) (nI (tk))) (hc1 : σ (gb + 1) = q_rn G 3 4 (fun j => some (gb + 10 + 2 * j))) (hgb : gb + 17 < n) (hr : r < 4) : Ct G yX0_ruleAt cX0_ruleAt 2 (some (.object "GoldenHeaps$Rule")) ⟨0, 0, 0, 0⟩ [.ref (q_h G + gb), .int (nI (r))] ex n σ (fun v9 σ2 => σ2 = σ ∧ v9 = some (.ref (q_h G + (gb + 10 + 2 * r)))) := by
  refine q_enter [some (.ref (q_h G + gb)), some (.int (nI (r)))] (by decide) (Nat.le_of_ble_eq_true rfl) rfl ?_
  intro K hg
  obtain ⟨Q, hQ⟩ : ∃ Q, Q = q_Q G K ex n 0 0 (fun v9 n' σ' => n' = n ∧ (fun v9 σ2 => σ2 = σ ∧ v9 = some (.ref (q_h G + (gb + 10 + 2 * r)))) v9 σ') q_noX := ⟨_, rfl⟩
  refine (?_ : AJ G K (q_Q G K ex n 0 0 _ _) 0 0 ex n 0 _ _ σ)
  rw [← hQ]
  refine A_iload_n hg dX0_ruleAt_0 rfl rfl ?_
  refine A_if_ltN (tgt := 18) hg dX0_ruleAt_1 (by omega) (by decide) ?_
  refine A_iload_n hg dX0_ruleAt_4 rfl rfl ?_
  refine A_iconst (v := (nI (4))) hg dX0_ruleAt_5 (by decide) ?_
  refine A_icmp_geN (tgt := 18) hg dX0_ruleAt_6 (by omega) (by decide) (by decide) (fun c6 => absurd c6 (by omega)) (fun c6 => ?_)
  refine A_aload_n hg dX0_ruleAt_9 rfl rfl ?_
  refine A_getf (v := .ref (q_h G + (gb + 1))) hg fl_RX0_11 dX0_ruleAt_10 hc0 (by omega) rfl ?_
  refine A_iload_n hg dX0_ruleAt_13 rfl rfl ?_
  refine A_aald (i := (gb + 10 + 2 * r)) hg dX0_ruleAt_14 hc1 (by decide) rfl (by omega) (by omega) (by decide) rfl ?_
  refine A_goto (tgt := 24) hg dX0_ruleAt_15 (by decide) ?_
  rw [hQ]
  exact A_areturn hg (by decide) (by decide) rfl dX0_ruleAt_24 ⟨rfl, ⟨rfl, rfl⟩⟩
set_option maxRecDepth 100000 in
set_option maxHeartbeats 4000000 in
theorem c_X0_accountOf (G : GL) (ex : Bool) (n : Nat) (σ : Nat → va_E) (gb : Nat) (rm : Nat) (pl : Nat) (tn : Nat) (gm : Nat) (tk : Nat) (ac : Nat → Nat) (i0 : Nat) (w : Nat) (hc0 : σ gb = o0 G (gb) (nI (rm)) (nI (pl)) (nI (tn)) (nI (gm)) (nI (tk))) (hc1 : σ (gb + 8) = q_an G 10 ac) (hgb : gb + 17 < n) (hi0 : i0 < 2) (hw5 : w < 5) : Ct G yX0_accountOf cX0_accountOf 4 (some .int) ⟨0, 0, 0, 0⟩ [.ref (q_h G + gb), .int (nI (i0)), .int (nI (w))] ex n σ (fun v9 σ2 => σ2 = σ ∧ v9 = some (.int (nI (ac (i0 * 5 + w))))) := by
  refine q_enter [some (.ref (q_h G + gb)), some (.int (nI (i0))), some (.int (nI (w))), none] (by decide) (Nat.le_of_ble_eq_true rfl) rfl ?_
  intro K hg
  obtain ⟨Q, hQ⟩ : ∃ Q, Q = q_Q G K ex n 0 0 (fun v9 n' σ' => n' = n ∧ (fun v9 σ2 => σ2 = σ ∧ v9 = some (.int (nI (ac (i0 * 5 + w))))) v9 σ') q_noX := ⟨_, rfl⟩
  refine (?_ : AJ G K (q_Q G K ex n 0 0 _ _) 0 0 ex n 0 _ _ σ)
  rw [← hQ]
  refine A_iload_n hg dX0_accountOf_0 rfl rfl ?_
  refine A_iconst (v := (nI (5))) hg dX0_accountOf_1 (by decide) ?_
  refine A_imulN hg dX0_accountOf_2 ?_
  refine A_iload_n hg dX0_accountOf_3 rfl rfl ?_
  refine A_iaddN hg dX0_accountOf_4 ?_
  refine A_istore_n hg dX0_accountOf_5 rfl (by decide) (q_c1d rfl) ?_
  refine A_eq (ls2 := [some (.ref (q_h G + gb)), some (.int (nI (i0))), some (.int (nI (w))), some (.int (nI ((i0 * 5) + w)))]) (st2 := []) (pc2 := 0) rfl rfl ?_
  refine A_iload_n hg dX0_accountOf_6 rfl rfl ?_
  refine A_if_ltN (tgt := 28) hg dX0_accountOf_7 (by omega) (by decide) ?_
  refine A_iload_n hg dX0_accountOf_10 rfl rfl ?_
  refine A_aload_n hg dX0_accountOf_11 rfl rfl ?_
  refine A_getf (v := .ref (q_h G + (gb + 8))) hg fl_RX0_37 dX0_accountOf_12 hc0 (by omega) rfl ?_
  refine A_alen (t := 0) (len := 10) hg dX0_accountOf_15 hc1 (by decide) (by omega) ?_
  refine A_icmp_geN (tgt := 28) hg dX0_accountOf_16 (by omega) (by decide) (by decide) (fun c16 => absurd c16 (by omega)) (fun c16 => ?_)
  refine A_aload_n hg dX0_accountOf_19 rfl rfl ?_
  refine A_getf (v := .ref (q_h G + (gb + 8))) hg fl_RX0_37 dX0_accountOf_20 hc0 (by omega) rfl ?_
  refine A_iload_n hg dX0_accountOf_23 rfl rfl ?_
  refine A_iald (j := ((i0 * 5) + w)) hg dX0_accountOf_24 hc1 (by omega) (by omega) (by decide) ?_
  refine A_goto (tgt := 29) hg dX0_accountOf_25 (by decide) ?_
  rw [hQ]
  exact A_ireturn hg (by decide) (by decide) rfl dX0_accountOf_29 ⟨rfl, ⟨rfl, rfl⟩⟩
set_option maxRecDepth 100000 in
set_option maxHeartbeats 4000000 in
theorem c_X0_turnNumber (G : GL) (ex : Bool) (n : Nat) (σ : Nat → va_E) (gb : Nat) (rm : Nat) (pl : Nat) (tn : Nat) (gm : Nat) (tk : Nat) (tu : Nat → Nat) (i0 : Nat) (w : Nat) (hc0 : σ gb = o0 G (gb) (nI (rm)) (nI (pl)) (nI (tn)) (nI (gm)) (nI (tk))) (hc1 : σ (gb + 9) = q_an G 100 tu) (hgb : gb + 17 < n) (hi0 : i0 < 20) (hw5 : w < 5) : Ct G yX0_turnNumber cX0_turnNumber 4 (some .int) ⟨0, 0, 0, 0⟩ [.ref (q_h G + gb), .int (nI (i0)), .int (nI (w))] ex n σ (fun v9 σ2 => σ2 = σ ∧ v9 = some (.int (nI (tu (i0 * 5 + w))))) := by
  refine q_enter [some (.ref (q_h G + gb)), some (.int (nI (i0))), some (.int (nI (w))), none] (by decide) (Nat.le_of_ble_eq_true rfl) rfl ?_
  intro K hg
  obtain ⟨Q, hQ⟩ : ∃ Q, Q = q_Q G K ex n 0 0 (fun v9 n' σ' => n' = n ∧ (fun v9 σ2 => σ2 = σ ∧ v9 = some (.int (nI (tu (i0 * 5 + w))))) v9 σ') q_noX := ⟨_, rfl⟩
  refine (?_ : AJ G K (q_Q G K ex n 0 0 _ _) 0 0 ex n 0 _ _ σ)
  rw [← hQ]
  refine A_iload_n hg dX0_turnNumber_0 rfl rfl ?_
  refine A_iconst (v := (nI (5))) hg dX0_turnNumber_1 (by decide) ?_
  refine A_imulN hg dX0_turnNumber_2 ?_
  refine A_iload_n hg dX0_turnNumber_3 rfl rfl ?_
  refine A_iaddN hg dX0_turnNumber_4 ?_
  refine A_istore_n hg dX0_turnNumber_5 rfl (by decide) (q_c1d rfl) ?_
  refine A_eq (ls2 := [some (.ref (q_h G + gb)), some (.int (nI (i0))), some (.int (nI (w))), some (.int (nI ((i0 * 5) + w)))]) (st2 := []) (pc2 := 0) rfl rfl ?_
  refine A_iload_n hg dX0_turnNumber_6 rfl rfl ?_
  refine A_if_ltN (tgt := 28) hg dX0_turnNumber_7 (by omega) (by decide) ?_
  refine A_iload_n hg dX0_turnNumber_10 rfl rfl ?_
  refine A_aload_n hg dX0_turnNumber_11 rfl rfl ?_
  refine A_getf (v := .ref (q_h G + (gb + 9))) hg fl_RX0_41 dX0_turnNumber_12 hc0 (by omega) rfl ?_
  refine A_alen (t := 0) (len := 100) hg dX0_turnNumber_15 hc1 (by decide) (by omega) ?_
  refine A_icmp_geN (tgt := 28) hg dX0_turnNumber_16 (by omega) (by decide) (by decide) (fun c16 => absurd c16 (by omega)) (fun c16 => ?_)
  refine A_aload_n hg dX0_turnNumber_19 rfl rfl ?_
  refine A_getf (v := .ref (q_h G + (gb + 9))) hg fl_RX0_41 dX0_turnNumber_20 hc0 (by omega) rfl ?_
  refine A_iload_n hg dX0_turnNumber_23 rfl rfl ?_
  refine A_iald (j := ((i0 * 5) + w)) hg dX0_turnNumber_24 hc1 (by omega) (by omega) (by decide) ?_
  refine A_goto (tgt := 29) hg dX0_turnNumber_25 (by decide) ?_
  rw [hQ]
  exact A_ireturn hg (by decide) (by decide) rfl dX0_turnNumber_29 ⟨rfl, ⟨rfl, rfl⟩⟩
set_option maxRecDepth 100000 in
set_option maxHeartbeats 4000000 in
theorem c_X0_addToAccount (G : GL) (ex : Bool) (n : Nat) (σ : Nat → va_E) (gb : Nat) (rm : Nat) (pl : Nat) (tn : Nat) (gm : Nat) (tk : Nat) (ac : Nat → Nat) (w : Nat) (x : Nat) (hc0 : σ gb = o0 G (gb) (nI (rm)) (nI (pl)) (nI (tn)) (nI (gm)) (nI (tk))) (hc1 : σ (gb + 8) = q_an G 10 ac) (hgb : gb + 17 < n) (hpl : pl ≤ 1) (hw5 : w < 5) : Ct G yX0_addToAccount cX0_addToAccount 4 none ⟨0, 0, 0, 0⟩ [.ref (q_h G + gb), .int (nI (w)), .int (nI (x))] ex n σ (fun v9 σ2 => v9 = none ∧ σ2 (gb + 8) = q_an G 10 (va_up ac (pl * 5 + w) (ac (pl * 5 + w) + x)) ∧ (∀ i : Nat, i ≠ gb + 8 → σ2 i = σ i)) := by
  refine q_enter [some (.ref (q_h G + gb)), some (.int (nI (w))), some (.int (nI (x))), none] (by decide) (Nat.le_of_ble_eq_true rfl) rfl ?_
  intro K hg
  obtain ⟨Q, hQ⟩ : ∃ Q, Q = q_Q G K ex n 0 0 (fun v9 n' σ' => n' = n ∧ (fun v9 σ2 => v9 = none ∧ σ2 (gb + 8) = q_an G 10 (va_up ac (pl * 5 + w) (ac (pl * 5 + w) + x)) ∧ (∀ i : Nat, i ≠ gb + 8 → σ2 i = σ i)) v9 σ') q_noX := ⟨_, rfl⟩
  refine (?_ : AJ G K (q_Q G K ex n 0 0 _ _) 0 0 ex n 0 _ _ σ)
  rw [← hQ]
  refine A_aload_n hg dX0_addToAccount_0 rfl rfl ?_
  refine A_getf (v := .int (nI (pl))) hg fl_RX0_28 dX0_addToAccount_1 hc0 (by omega) rfl ?_
  refine A_iconst (v := (nI (5))) hg dX0_addToAccount_4 (by decide) ?_
  refine A_imulN hg dX0_addToAccount_5 ?_
  refine A_iload_n hg dX0_addToAccount_6 rfl rfl ?_
  refine A_iaddN hg dX0_addToAccount_7 ?_
  refine A_istore_n hg dX0_addToAccount_8 rfl (by decide) (q_c1d rfl) ?_
  refine A_eq (ls2 := [some (.ref (q_h G + gb)), some (.int (nI (w))), some (.int (nI (x))), some (.int (nI ((pl * 5) + w)))]) (st2 := []) (pc2 := 0) rfl rfl ?_
  refine A_iload_n hg dX0_addToAccount_9 rfl rfl ?_
  refine A_if_ltN (tgt := 32) hg dX0_addToAccount_10 (by omega) (by decide) ?_
  refine A_iload_n hg dX0_addToAccount_13 rfl rfl ?_
  refine A_aload_n hg dX0_addToAccount_14 rfl rfl ?_
  refine A_getf (v := .ref (q_h G + (gb + 8))) hg fl_RX0_37 dX0_addToAccount_15 hc0 (by omega) rfl ?_
  refine A_alen (t := 0) (len := 10) hg dX0_addToAccount_18 hc1 (by decide) (by omega) ?_
  refine A_icmp_geN (tgt := 32) hg dX0_addToAccount_19 (by omega) (by decide) (by decide) (fun c19 => absurd c19 (by omega)) (fun c19 => ?_)
  refine A_aload_n hg dX0_addToAccount_22 rfl rfl ?_
  refine A_getf (v := .ref (q_h G + (gb + 8))) hg fl_RX0_37 dX0_addToAccount_23 hc0 (by omega) rfl ?_
  refine A_iload_n hg dX0_addToAccount_26 rfl rfl ?_
  refine A_dup2 hg dX0_addToAccount_27 rfl rfl ?_
  refine A_iald (j := ((pl * 5) + w)) hg dX0_addToAccount_28 hc1 (by omega) (by omega) (by decide) ?_
  refine A_iload_n hg dX0_addToAccount_29 rfl rfl ?_
  refine A_iaddN hg dX0_addToAccount_30 ?_
  refine A_iast (j := ((pl * 5) + w)) (x := ((ac ((pl * 5) + w)) + x)) hg dX0_addToAccount_31 hc1 (by omega) (by omega) (by decide) (fun σ_1 hc_2 hf_3 => ?_)
  have hc_4 : σ_1 gb = o0 G (gb) (nI (rm)) (nI (pl)) (nI (tn)) (nI (gm)) (nI (tk)) := (hf_3 _ (by omega)).trans hc0
  rw [hQ]
  exact A_return hg (by decide) (by decide) rfl dX0_addToAccount_32 ⟨rfl, ⟨rfl, hc_2, (fun i hi => (hf_3 i (by omega)))⟩⟩
set_option maxRecDepth 100000 in
set_option maxHeartbeats 4000000 in
theorem c_X0_keepTurn (G : GL) (ex : Bool) (n : Nat) (σ : Nat → va_E) (gb : Nat) (rm : Nat) (pl : Nat) (tn : Nat) (gm : Nat) (tk : Nat) (tu : Nat → Nat) (p : Nat) (k : Nat) (l : Nat) (t : Nat) (hc0 : σ gb = o0 G (gb) (nI (rm)) (nI (pl)) (nI (tn)) (nI (gm)) (nI (tk))) (hc1 : σ (gb + 9) = q_an G 100 tu) (hgb : gb + 17 < n) (htk : tk ≤ 20) : Ct G yX0_keepTurn cX0_keepTurn 5 none ⟨1, 0, 0, 30⟩ [.ref (q_h G + gb), .int (nI (p)), .int (nI (k)), .int (nI (l)), .int (nI (t))] ex n σ (fun v9 σ2 => v9 = none ∧ σ2 gb = o0 G (gb) (nI (rm)) (nI (pl)) (nI (tn)) (nI (gm)) (nI (min (tk + 1) 20)) ∧ σ2 (gb + 9) = q_an G 100 (fun j => if j < 5 then (if j = 0 then pl else if j = 1 then p else if j = 2 then k else if j = 3 then l else t) else tu (j - 5)) ∧ (∀ i : Nat, i ≠ gb ∧ i ≠ gb + 9 → σ2 i = σ i)) := by
  refine q_enter [some (.ref (q_h G + gb)), some (.int (nI (p))), some (.int (nI (k))), some (.int (nI (l))), some (.int (nI (t)))] (by decide) (Nat.le_of_ble_eq_true rfl) rfl ?_
  intro K hg
  obtain ⟨Q, hQ⟩ : ∃ Q, Q = q_Q G K ex n 0 0 (fun v9 n' σ' => n' = n ∧ (fun v9 σ2 => v9 = none ∧ σ2 gb = o0 G (gb) (nI (rm)) (nI (pl)) (nI (tn)) (nI (gm)) (nI (min (tk + 1) 20)) ∧ σ2 (gb + 9) = q_an G 100 (fun j => if j < 5 then (if j = 0 then pl else if j = 1 then p else if j = 2 then k else if j = 3 then l else t) else tu (j - 5)) ∧ (∀ i : Nat, i ≠ gb ∧ i ≠ gb + 9 → σ2 i = σ i)) v9 σ') q_noX := ⟨_, rfl⟩
  refine (?_ : AJ G K (q_Q G K ex n 0 0 _ _) 0 0 ex n 0 _ _ σ)
  rw [← hQ]
  refine A_aload_n hg dX0_keepTurn_0 rfl rfl ?_
  refine A_getf (v := .ref (q_h G + (gb + 9))) hg fl_RX0_41 dX0_keepTurn_1 hc0 (by omega) rfl ?_
  refine A_iconst (v := (nI (0))) hg dX0_keepTurn_4 (by decide) ?_
  refine A_aload_n hg dX0_keepTurn_5 rfl rfl ?_
  refine A_getf (v := .ref (q_h G + (gb + 9))) hg fl_RX0_41 dX0_keepTurn_6 hc0 (by omega) rfl ?_
  refine A_iconst (v := (nI (5))) hg dX0_keepTurn_9 (by decide) ?_
  refine A_aload_n hg dX0_keepTurn_10 rfl rfl ?_
  refine A_getf (v := .ref (q_h G + (gb + 9))) hg fl_RX0_41 dX0_keepTurn_11 hc0 (by omega) rfl ?_
  refine A_alen (t := 0) (len := 100) hg dX0_keepTurn_14 hc1 (by decide) (by omega) ?_
  refine A_iconst (v := (nI (5))) hg dX0_keepTurn_15 (by decide) ?_
  refine A_isubN hg dX0_keepTurn_16 (by omega) ?_
  refine A_copy (x := 0) (y := 5) (z := 100 - 5) hg (q_mt 639 (by decide +kernel)) (q_mt 633 (by decide +kernel)) (q_mt 632 (by decide +kernel)) (q_mt 19 (by decide +kernel)) dX0_keepTurn_17 ⟨by decide, by decide⟩ (Nat.le_of_ble_eq_true rfl) hc1 hc1 (by omega) (by omega) (by omega) (by omega) (by decide) (by decide) (by omega) (fun σ_1 hc_2 hf_3 => ?_)
  have hc_4 : σ_1 gb = o0 G (gb) (nI (rm)) (nI (pl)) (nI (tn)) (nI (gm)) (nI (tk)) := (hf_3 _ (by omega)).trans hc0
  refine A_aload_n hg dX0_keepTurn_20 rfl rfl ?_
  refine A_getf (v := .ref (q_h G + (gb + 9))) hg fl_RX0_41 dX0_keepTurn_21 hc_4 (by omega) rfl ?_
  refine A_iconst (v := (nI (0))) hg dX0_keepTurn_24 (by decide) ?_
  refine A_aload_n hg dX0_keepTurn_25 rfl rfl ?_
  refine A_getf (v := .int (nI (pl))) hg fl_RX0_28 dX0_keepTurn_26 hc_4 (by omega) rfl ?_
  refine A_iast (j := 0) (x := pl) hg dX0_keepTurn_29 hc_2 (by omega) (by omega) (by decide) (fun σ_5 hc_6 hf_7 => ?_)
  have hc_8 : σ_5 gb = o0 G (gb) (nI (rm)) (nI (pl)) (nI (tn)) (nI (gm)) (nI (tk)) := (hf_7 _ (by omega)).trans hc_4
  refine A_aload_n hg dX0_keepTurn_30 rfl rfl ?_
  refine A_getf (v := .ref (q_h G + (gb + 9))) hg fl_RX0_41 dX0_keepTurn_31 hc_8 (by omega) rfl ?_
  refine A_iconst (v := (nI (1))) hg dX0_keepTurn_34 (by decide) ?_
  refine A_iload_n hg dX0_keepTurn_35 rfl rfl ?_
  refine A_iast (j := 1) (x := p) hg dX0_keepTurn_36 hc_6 (by omega) (by omega) (by decide) (fun σ_9 hc_10 hf_11 => ?_)
  have hc_12 : σ_9 gb = o0 G (gb) (nI (rm)) (nI (pl)) (nI (tn)) (nI (gm)) (nI (tk)) := (hf_11 _ (by omega)).trans hc_8
  refine A_aload_n hg dX0_keepTurn_37 rfl rfl ?_
  refine A_getf (v := .ref (q_h G + (gb + 9))) hg fl_RX0_41 dX0_keepTurn_38 hc_12 (by omega) rfl ?_
  refine A_iconst (v := (nI (2))) hg dX0_keepTurn_41 (by decide) ?_
  refine A_iload_n hg dX0_keepTurn_42 rfl rfl ?_
  refine A_iast (j := 2) (x := k) hg dX0_keepTurn_43 hc_10 (by omega) (by omega) (by decide) (fun σ_13 hc_14 hf_15 => ?_)
  have hc_16 : σ_13 gb = o0 G (gb) (nI (rm)) (nI (pl)) (nI (tn)) (nI (gm)) (nI (tk)) := (hf_15 _ (by omega)).trans hc_12
  refine A_aload_n hg dX0_keepTurn_44 rfl rfl ?_
  refine A_getf (v := .ref (q_h G + (gb + 9))) hg fl_RX0_41 dX0_keepTurn_45 hc_16 (by omega) rfl ?_
  refine A_iconst (v := (nI (3))) hg dX0_keepTurn_48 (by decide) ?_
  refine A_iload_n hg dX0_keepTurn_49 rfl rfl ?_
  refine A_iast (j := 3) (x := l) hg dX0_keepTurn_50 hc_14 (by omega) (by omega) (by decide) (fun σ_17 hc_18 hf_19 => ?_)
  have hc_20 : σ_17 gb = o0 G (gb) (nI (rm)) (nI (pl)) (nI (tn)) (nI (gm)) (nI (tk)) := (hf_19 _ (by omega)).trans hc_16
  refine A_aload_n hg dX0_keepTurn_51 rfl rfl ?_
  refine A_getf (v := .ref (q_h G + (gb + 9))) hg fl_RX0_41 dX0_keepTurn_52 hc_20 (by omega) rfl ?_
  refine A_iconst (v := (nI (4))) hg dX0_keepTurn_55 (by decide) ?_
  refine A_iload hg dX0_keepTurn_56 rfl ?_
  refine A_iast (j := 4) (x := t) hg dX0_keepTurn_58 hc_18 (by omega) (by omega) (by decide) (fun σ_21 hc_22 hf_23 => ?_)
  have hc_24 : σ_21 gb = o0 G (gb) (nI (rm)) (nI (pl)) (nI (tn)) (nI (gm)) (nI (tk)) := (hf_23 _ (by omega)).trans hc_20
  refine A_aload_n hg dX0_keepTurn_59 rfl rfl ?_
  refine A_aload_n hg dX0_keepTurn_60 rfl rfl ?_
  refine A_getf (v := .int (nI (tk))) hg fl_RX0_44 dX0_keepTurn_61 hc_24 (by omega) rfl ?_
  refine A_iconst (v := (nI (1))) hg dX0_keepTurn_64 (by decide) ?_
  refine A_iaddN hg dX0_keepTurn_65 ?_
  refine A_bipush (v := (nI (20))) hg dX0_keepTurn_66 (by decide) ?_
  refine A_min hg ml_RX0_113 dX0_keepTurn_68 ⟨by decide, by decide, by decide, by decide⟩ (Nat.le_of_ble_eq_true rfl) ?_
  refine A_top (w := .int (nI (min (tk + 1) 20))) (q_min (a := tk + 1) (b := 20) (by omega) (by decide)) ?_
  refine A_putf hg fl_RX0_44 dX0_keepTurn_71 hc_24 (by omega) (Nat.le_of_ble_eq_true rfl) rfl rfl rfl (fun σ_25 hc_26 hf_27 => ?_)
  have hc_26 : σ_25 gb = o0 G (gb) (nI (rm)) (nI (pl)) (nI (tn)) (nI (gm)) (nI (min (tk + 1) 20)) := hc_26
  have hc_28 : σ_25 (gb + 9) = q_an G 100 (va_up (va_up (va_up (va_up (va_up (va_cpy tu tu 0 5 (100 - 5)) 0 pl) 1 p) 2 k) 3 l) 4 t) := (hf_27 _ (by omega)).trans hc_22
  refine A_canon (fun j => if j < 5 then (if j = 0 then pl else if j = 1 then p else if j = 2 then k else if j = 3 then l else t) else tu (j - 5)) hc_28 (fun jj hj => x_kept tu pl p k l t jj hj) (fun σ_29 hc_30 hf_31 => ?_)
  have hc_32 : σ_29 gb = o0 G (gb) (nI (rm)) (nI (pl)) (nI (tn)) (nI (gm)) (nI (min (tk + 1) 20)) := (hf_31 _ (by omega)).trans hc_26
  rw [hQ]
  exact A_return hg (by decide) (by decide) rfl dX0_keepTurn_74 ⟨rfl, ⟨rfl, hc_32, hc_30, (fun i hi => ((hf_31 i (by omega)).trans ((hf_27 i (by omega)).trans ((hf_23 i (by omega)).trans ((hf_19 i (by omega)).trans ((hf_15 i (by omega)).trans ((hf_11 i (by omega)).trans ((hf_7 i (by omega)).trans (hf_3 i (by omega))))))))))⟩⟩
set_option maxRecDepth 100000 in
set_option maxHeartbeats 4000000 in
theorem c_X0_ruleNamed (G : GL) (ex : Bool) (n : Nat) (σ : Nat → va_E) (gb : Nat) (rm : Nat) (pl : Nat) (tn : Nat) (gm : Nat) (tk : Nat) (nm : Nat → Nat) (on : Nat → Nat) (sl : Nat → Nat) (mo : Nat → Nat) (nb : Nat → Nat) (x : Nat) (hc0 : σ gb = o0 G (gb) (nI (rm)) (nI (pl)) (nI (tn)) (nI (gm)) (nI (tk))) (hc1 : σ (gb + 1) = q_rn G 3 4 (fun j => some (gb + 10 + 2 * j))) (hc2 : ∀ j9 : Nat, j9 < 4 → σ (gb + 10 + 2 * j9) = o7 G (gb + 10 + 2 * j9) (lN (nm j9)) (lN (on j9)) (nI (sl j9)) (nI (mo j9)) (nI (nb j9))) (hgb : gb + 17 < n) (hnm : ∀ j : Nat, j < rm → nm j < 2 ^ 41) (hx41 : x < 2 ^ 41) (hrm : rm ≤ 4) : Ct G yX0_ruleNamed cX0_ruleNamed 4 (some .int) ⟨0, 0, 0, 0⟩ [.ref (q_h G + gb), .long (lN (x))] ex n σ (fun v9 σ2 => (∃ (r : Nat), v9 = some (.int (nI (r))) ∧ (r < rm) ∧ (nm r = x) ∧ (∀ j : Nat, j < r → nm j = x → False) ∧ σ2 = σ) ∨ (v9 = some (.int (q_d (0))) ∧ (∀ j : Nat, j < rm → nm j = x → False) ∧ σ2 = σ)) := by
  refine q_enter [some (.ref (q_h G + gb)), some (.long (lN (x))), none, none] (by decide) (Nat.le_of_ble_eq_true rfl) rfl ?_
  intro K hg
  obtain ⟨Q, hQ⟩ : ∃ Q, Q = q_Q G K ex n 0 0 (fun v9 n' σ' => n' = n ∧ (fun v9 σ2 => (∃ (r : Nat), v9 = some (.int (nI (r))) ∧ (r < rm) ∧ (nm r = x) ∧ (∀ j : Nat, j < r → nm j = x → False) ∧ σ2 = σ) ∨ (v9 = some (.int (q_d (0))) ∧ (∀ j : Nat, j < rm → nm j = x → False) ∧ σ2 = σ)) v9 σ') q_noX := ⟨_, rfl⟩
  refine (?_ : AJ G K (q_Q G K ex n 0 0 _ _) 0 0 ex n 0 _ _ σ)
  rw [← hQ]
  refine A_iconst (v := (nI (0))) hg dX0_ruleNamed_0 (by decide) ?_
  refine A_istore_n hg dX0_ruleNamed_1 rfl (by decide) (q_c1d rfl) ?_
  refine A_eq (ls2 := [some (.ref (q_h G + gb)), some (.long (lN (x))), none, some (.int (nI (0)))]) (st2 := []) (pc2 := 0) rfl rfl ?_
  have hL2 : ∀ (fu : Nat) (i : Nat), (i ≤ rm) → (∀ j : Nat, j < i → nm j = x → False) → (rm - i) < fu → AJ G K Q 0 0 ex n 2 [some (.ref (q_h G + gb)), some (.long (lN (x))), none, some (.int (nI (i)))] [] σ := by
    intro fu
    induction fu with
    | zero => intro i hi hno hm; exact absurd hm (Nat.not_lt_zero _)
    | succ fu ih2 =>
      intro i hi hno hm2
      refine A_iload_n hg dX0_ruleNamed_2 rfl rfl ?_
      refine A_aload_n hg dX0_ruleNamed_3 rfl rfl ?_
      refine A_getf (v := .int (nI (rm))) hg fl_RX0_17 dX0_ruleNamed_4 hc0 (by omega) rfl ?_
      refine A_icmp_geN (tgt := 37) hg dX0_ruleNamed_7 (by omega) (by omega) (by decide) (fun c7 => ?_) (fun c7 => ?_)
      · skip
        refine A_iconst (v := (q_d (0))) hg dX0_ruleNamed_37 (by decide) ?_
        rw [hQ]
        exact A_ireturn hg (by decide) (by decide) rfl dX0_ruleNamed_38 ⟨rfl, Or.inr ((⟨rfl, (fun j hj => hno j (by omega)), rfl⟩))⟩
      · skip
        refine A_iload_n hg dX0_ruleNamed_10 rfl rfl ?_
        refine A_iconst (v := (nI (4))) hg dX0_ruleNamed_11 (by decide) ?_
        refine A_icmp_geN (tgt := 37) hg dX0_ruleNamed_12 (by omega) (by decide) (by decide) (fun c12 => ?_) (fun c12 => ?_)
        · skip
          refine A_iconst (v := (q_d (0))) hg dX0_ruleNamed_37 (by decide) ?_
          rw [hQ]
          exact A_ireturn hg (by decide) (by decide) rfl dX0_ruleNamed_38 ⟨rfl, Or.inr ((⟨rfl, (fun j hj => hno j (by omega)), rfl⟩))⟩
        · skip
          refine A_aload_n hg dX0_ruleNamed_15 rfl rfl ?_
          refine A_getf (v := .ref (q_h G + (gb + 1))) hg fl_RX0_11 dX0_ruleNamed_16 hc0 (by omega) rfl ?_
          refine A_iload_n hg dX0_ruleNamed_19 rfl rfl ?_
          refine A_aald (i := (gb + 10 + 2 * i)) hg dX0_ruleNamed_20 hc1 (by decide) rfl (by omega) (by omega) (by decide) rfl ?_
          refine A_getf (v := .long (lN (nm i))) hg fl_RX0_118 dX0_ruleNamed_21 (hc2 i (by omega)) (by omega) rfl ?_
          refine A_lload_n hg dX0_ruleNamed_24 rfl rfl ?_
          refine A_lcmp hg dX0_ruleNamed_25 ?_
          refine A_lc_ne (tgt := 31) hg dX0_ruleNamed_26 (by first | exact Nat.lt_of_lt_of_le (hnm _ (by omega)) (by decide) | omega) (by first | exact Nat.lt_of_lt_of_le (hnm _ (by omega)) (by decide) | omega) (by decide) (fun c26 => ?_) (fun c26 => ?_)
          · skip
            refine A_iincN (k' := 1) hg dX0_ruleNamed_31 (by decide) rfl (by decide) (q_c1d rfl) ?_
            refine A_eq (ls2 := [some (.ref (q_h G + gb)), some (.long (lN (x))), none, some (.int (nI (i + 1)))]) (st2 := []) (pc2 := 0) rfl rfl ?_
            refine A_goto (tgt := 2) hg dX0_ruleNamed_34 (by decide) ?_
            exact ih2 (i + 1) (by omega) (fun j hj e => by by_cases z : j = i; (exact c26 (by rw [← z]; exact e)); exact hno j (by omega) e) (by omega)
          · skip
            refine A_iload_n hg dX0_ruleNamed_29 rfl rfl ?_
            rw [hQ]
            exact A_ireturn hg (by decide) (by decide) rfl dX0_ruleNamed_30 ⟨rfl, Or.inl (⟨i, rfl, (by first | rfl | assumption | omega), c26, (by first | rfl | assumption | omega), rfl⟩)⟩
  exact hL2 _ 0 (Nat.zero_le _) (fun j h => absurd h (Nat.not_lt_zero j)) (Nat.lt_succ_self _)
set_option maxRecDepth 100000 in
set_option maxHeartbeats 4000000 in
theorem c_X0_reasonAgainst (G : GL) (ex : Bool) (n : Nat) (σ : Nat → va_E) (gb : Nat) (rm : Nat) (pl : Nat) (tn : Nat) (gm : Nat) (tk : Nat) (g : Nat → Nat) (kd : Nat → Nat) (fi : Nat → Nat) (se : Nat → Nat) (nm : Nat → Nat) (on : Nat → Nat) (bm : Nat → Nat → Nat) (p : Nat) (k : Int32) (l : Int32) (hc0 : σ gb = o0 G (gb) (nI (rm)) (nI (pl)) (nI (tn)) (nI (gm)) (nI (tk))) (hc1 : σ (gb + 1) = q_rn G 3 4 (fun j => some (gb + 10 + 2 * j))) (hc2 : σ (gb + 2) = o6 G (gb + 2) (nI (g 1)) (nI (g 2))) (hc3 : σ (gb + 3) = q_an G 8 kd) (hc4 : σ (gb + 4) = q_an G 8 fi) (hc5 : σ (gb + 5) = q_an G 8 se) (hc6 : ∀ j9 : Nat, j9 < g 0 → σ (gb + 10 + 2 * j9) = o7 G (gb + 10 + 2 * j9) (lN (nm j9)) (lN (on j9)) (nI (s_rule g j9 18)) (nI (s_rule g j9 19)) (nI (s_rule g j9 20))) (hc7 : ∀ j9 : Nat, j9 < g 0 → σ (gb + 10 + 2 * j9 + 1) = q_an G 5 (bm j9)) (hgb : gb + 17 < n) (hgw : s_gwf g) (hxp : x_p g kd fi se) (hrs : x_rs g nm on bm) (hpp : p < s_np g) : Ct G yX0_reasonAgainst cX0_reasonAgainst 5 (some .int) ⟨2, 0, 0, 45⟩ [.ref (q_h G + gb), .int (nI (p)), .int (k), .int (l)] ex n σ (fun v9 σ2 => σ2 = σ ∧ v9 = some (.int (nI (s_refI g p k l)))) := by
  refine q_enter [some (.ref (q_h G + gb)), some (.int (nI (p))), some (.int (k)), some (.int (l)), none] (by decide) (Nat.le_of_ble_eq_true rfl) rfl ?_
  intro K hg
  obtain ⟨Q, hQ⟩ : ∃ Q, Q = q_Q G K ex n 0 0 (fun v9 n' σ' => n' = n ∧ (fun v9 σ2 => σ2 = σ ∧ v9 = some (.int (nI (s_refI g p k l)))) v9 σ') q_noX := ⟨_, rfl⟩
  refine (?_ : AJ G K (q_Q G K ex n 0 0 _ _) 0 0 ex n 0 _ _ σ)
  rw [← hQ]
  have hpart := s_part hgw hpp
  have hg1 := hgw.2.1
  have hg2 := hgw.2.2.1
  have hg0 := hgw.1
  have hnp : s_np g = g 1 + g 2 := rfl
  refine A_iload_n hg dX0_reasonAgainst_0 rfl rfl ?_
  refine A_if_lt (tgt := 16) hg dX0_reasonAgainst_1 (by decide) (fun c1 => ?_) (fun c1 => ?_)
  · skip
    refine A_iconst (v := (nI (1))) hg dX0_reasonAgainst_16 (by decide) ?_
    rw [hQ]
    exact A_ireturn hg (by decide) (by decide) rfl dX0_reasonAgainst_17 ⟨rfl, ⟨rfl, (by rw [s_refI_1 (by first | exact Or.inl c1 | exact Or.inr c5)])⟩⟩
  · skip
    refine A_iload_n hg dX0_reasonAgainst_4 rfl rfl ?_
    refine A_if_lt (tgt := 16) hg dX0_reasonAgainst_5 (by decide) (fun c5 => ?_) (fun c5 => ?_)
    · skip
      refine A_iconst (v := (nI (1))) hg dX0_reasonAgainst_16 (by decide) ?_
      rw [hQ]
      exact A_ireturn hg (by decide) (by decide) rfl dX0_reasonAgainst_17 ⟨rfl, ⟨rfl, (by rw [s_refI_1 (by first | exact Or.inl c1 | exact Or.inr c5)])⟩⟩
    · skip
      obtain ⟨k1, hk31, hke⟩ := nI_of c1
      subst hke
      obtain ⟨l1, hl31, hle⟩ := nI_of c5
      subst hle
      refine A_iload_n hg dX0_reasonAgainst_8 rfl rfl ?_
      refine A_if_neN (tgt := 18) hg dX0_reasonAgainst_9 (by omega) (by decide) (fun c9 => ?_) (fun c9 => ?_)
      · skip
        refine A_iload_n hg dX0_reasonAgainst_18 rfl rfl ?_
        refine A_aload_n hg dX0_reasonAgainst_19 rfl rfl ?_
        refine A_getf (v := .ref (q_h G + (gb + 2))) hg fl_RX0_24 dX0_reasonAgainst_20 hc0 (by omega) rfl ?_
        refine A_iload_n hg dX0_reasonAgainst_23 rfl rfl ?_
        refine A_eV (kc2 := 0) (ks2 := 0) (As := [.int (nI (p))]) (rest := [.int (nI (k1))]) hg lk_RX0_87 in_X6_firstOf se_X6_firstOf rfl dX0_reasonAgainst_24 ⟨by decide, by decide⟩ rfl rfl ⟨by decide, by decide⟩ hc2 (by omega) rfl rfl (Nat.le_of_ble_eq_true rfl) (c_X6_firstOf G ex n σ (gb + 2) (g 1) (g 2) fi p hc2 hc4 (by omega) (by omega) (by omega)) ?_
        refine A_top (w := .int (nI (s_x g p))) (by rw [x_p_x hxp hpp]) ?_
        refine A_icmp_gtN (tgt := 42) hg dX0_reasonAgainst_27 (by omega) (by omega) (by decide) (fun c27 => ?_) (fun c27 => ?_)
        · skip
          refine A_iconst (v := (nI (2))) hg dX0_reasonAgainst_42 (by decide) ?_
          rw [hQ]
          exact A_ireturn hg (by decide) (by decide) rfl dX0_reasonAgainst_43 ⟨rfl, ⟨rfl, (by rw [s_refI_n hk31 hl31, s_ref_2 (by omega) (by omega)])⟩⟩
        · skip
          refine A_iload_n hg dX0_reasonAgainst_30 rfl rfl ?_
          refine A_aload_n hg dX0_reasonAgainst_31 rfl rfl ?_
          refine A_getf (v := .ref (q_h G + (gb + 2))) hg fl_RX0_24 dX0_reasonAgainst_32 hc0 (by omega) rfl ?_
          refine A_iload_n hg dX0_reasonAgainst_35 rfl rfl ?_
          refine A_eV (kc2 := 0) (ks2 := 0) (As := [.int (nI (p))]) (rest := [.int (nI (l1))]) hg lk_RX0_91 in_X6_secondOf se_X6_secondOf rfl dX0_reasonAgainst_36 ⟨by decide, by decide⟩ rfl rfl ⟨by decide, by decide⟩ hc2 (by omega) rfl rfl (Nat.le_of_ble_eq_true rfl) (c_X6_secondOf G ex n σ (gb + 2) (g 1) (g 2) se p hc2 hc5 (by omega) (by omega) (by omega)) ?_
          refine A_top (w := .int (nI (s_y g p))) (by rw [x_p_y hxp hpp]) ?_
          refine A_icmp_leN (tgt := 44) hg dX0_reasonAgainst_39 (by omega) (by omega) (by decide) (fun c39 => ?_) (fun c39 => ?_)
          · skip
            refine A_aload_n hg dX0_reasonAgainst_44 rfl rfl ?_
            refine A_getf (v := .ref (q_h G + (gb + 2))) hg fl_RX0_24 dX0_reasonAgainst_45 hc0 (by omega) rfl ?_
            refine A_iload_n hg dX0_reasonAgainst_48 rfl rfl ?_
            refine A_eV (kc2 := 0) (ks2 := 0) (As := [.int (nI (p))]) (rest := []) hg lk_RX0_94 in_X6_kindOf se_X6_kindOf rfl dX0_reasonAgainst_49 ⟨by decide, by decide⟩ rfl rfl ⟨by decide, by decide⟩ hc2 (by omega) rfl rfl (Nat.le_of_ble_eq_true rfl) (c_X6_kindOf G ex n σ (gb + 2) (g 1) (g 2) kd p hc2 hc3 (by omega) (by omega) (by omega)) ?_
            refine A_top (w := .int (nI (s_kind g p))) (by rw [x_p_k hxp hpp]) ?_
            refine A_istore hg dX0_reasonAgainst_52 (by decide) (q_c1d rfl) ?_
            refine A_eq (ls2 := [some (.ref (q_h G + gb)), some (.int (nI (p))), some (.int (nI (k1))), some (.int (nI (l1))), some (.int (nI (s_kind g p)))]) (st2 := []) (pc2 := 0) rfl rfl ?_
            refine A_aload_n hg dX0_reasonAgainst_54 rfl rfl ?_
            refine A_getf (v := .ref (q_h G + (gb + 2))) hg fl_RX0_24 dX0_reasonAgainst_55 hc0 (by omega) rfl ?_
            refine A_iload_n hg dX0_reasonAgainst_58 rfl rfl ?_
            refine A_eV (kc2 := 0) (ks2 := 0) (As := [.int (nI (p))]) (rest := []) hg lk_RX0_97 in_X6_isBoard se_X6_isBoard rfl dX0_reasonAgainst_59 ⟨by decide, by decide⟩ rfl rfl ⟨by decide, by decide⟩ hc2 (by omega) rfl rfl (Nat.le_of_ble_eq_true rfl) (c_X6_isBoard G ex n σ (gb + 2) (g 1) (g 2) p hc2 (by omega) (by omega) (by omega)) ?_
            refine A_if_eqB (tgt := 77) hg dX0_reasonAgainst_62 (by decide) (fun c62 => ?_) (fun c62 => ?_)
            · skip
              have hpb := x_of_ndec c62
              refine A_iload_n hg dX0_reasonAgainst_77 rfl rfl ?_
              refine A_iload hg dX0_reasonAgainst_78 rfl ?_
              refine A_icmp_leN (tgt := 87) hg dX0_reasonAgainst_80 (by omega) (by omega) (by decide) (fun c80 => ?_) (fun c80 => ?_)
              · skip
                refine A_iconst (v := (nI (0))) hg dX0_reasonAgainst_87 (by decide) ?_
                rw [hQ]
                exact A_ireturn hg (by decide) (by decide) rfl dX0_reasonAgainst_88 ⟨rfl, ⟨rfl, (by rw [s_refI_n hk31 hl31, x_ref_s (by omega) (by omega) hpb, if_neg (by omega)])⟩⟩
              · skip
                refine A_iconst (v := (nI (3))) hg dX0_reasonAgainst_83 (by decide) ?_
                refine A_goto (tgt := 88) hg dX0_reasonAgainst_84 (by decide) ?_
                rw [hQ]
                exact A_ireturn hg (by decide) (by decide) rfl dX0_reasonAgainst_88 ⟨rfl, ⟨rfl, (by rw [s_refI_n hk31 hl31, x_ref_s (by omega) (by omega) hpb, if_pos (show s_kind g p < k1 by omega)])⟩⟩
            · skip
              have hpb := x_of_dec c62
              have hkb := (hpart.2.2.2.1 hpb).2
              refine A_aload_n hg dX0_reasonAgainst_65 rfl rfl ?_
              refine A_iload hg dX0_reasonAgainst_66 rfl ?_
              refine A_eV (kc2 := 0) (ks2 := 0) (As := [.int (nI (s_kind g p))]) (rest := []) hg lk_RX0_101 in_X0_ruleAt se_X0_ruleAt rfl dX0_reasonAgainst_68 ⟨by decide, by decide⟩ rfl rfl ⟨by decide, by decide⟩ hc0 (by omega) rfl rfl (Nat.le_of_ble_eq_true rfl) (c_X0_ruleAt G ex n σ gb rm pl tn gm tk (s_kind g p) hc0 hc1 (by omega) (by omega)) ?_
              refine A_iload_n hg dX0_reasonAgainst_71 rfl rfl ?_
              refine A_iload_n hg dX0_reasonAgainst_72 rfl rfl ?_
              refine A_eV (kc2 := 0) (ks2 := 0) (As := [.int (nI (k1)), .int (nI (l1))]) (rest := []) hg lk_RX0_105 in_X7_refusal se_X7_refusal rfl dX0_reasonAgainst_73 ⟨by decide, by decide⟩ rfl rfl ⟨by decide, by decide⟩ (hc6 (s_kind g p) (by omega)) (by omega) rfl rfl (Nat.le_of_ble_eq_true rfl) (c_X7_refusal G ex n σ (gb + 10 + 2 * (s_kind g p)) (s_rule g (s_kind g p)) (nm (s_kind g p)) (on (s_kind g p)) (bm (s_kind g p)) k1 l1 (hc6 (s_kind g p) (by omega)) (hc7 (s_kind g p) (by omega)) (by omega) (x_w_of (hgw.2.2.2.2.2.1 _ hkb)) ((hrs _ hkb).1) ((hrs _ hkb).2) (by omega) (by omega)) ?_
              rw [hQ]
              exact A_ireturn hg (by decide) (by decide) rfl dX0_reasonAgainst_76 ⟨rfl, ⟨rfl, (by rw [s_refI_n hk31 hl31, x_ref_b (by omega) (by omega) hpb])⟩⟩
          · skip
            refine A_iconst (v := (nI (2))) hg dX0_reasonAgainst_42 (by decide) ?_
            rw [hQ]
            exact A_ireturn hg (by decide) (by decide) rfl dX0_reasonAgainst_43 ⟨rfl, ⟨rfl, (by rw [s_refI_n hk31 hl31, s_ref_2 (by omega) (by omega)])⟩⟩
      · skip
        refine A_iload_n hg dX0_reasonAgainst_12 rfl rfl ?_
        refine A_if_neN (tgt := 18) hg dX0_reasonAgainst_13 (by omega) (by decide) (fun c13 => ?_) (fun c13 => ?_)
        · skip
          refine A_iload_n hg dX0_reasonAgainst_18 rfl rfl ?_
          refine A_aload_n hg dX0_reasonAgainst_19 rfl rfl ?_
          refine A_getf (v := .ref (q_h G + (gb + 2))) hg fl_RX0_24 dX0_reasonAgainst_20 hc0 (by omega) rfl ?_
          refine A_iload_n hg dX0_reasonAgainst_23 rfl rfl ?_
          refine A_eV (kc2 := 0) (ks2 := 0) (As := [.int (nI (p))]) (rest := [.int (nI (k1))]) hg lk_RX0_87 in_X6_firstOf se_X6_firstOf rfl dX0_reasonAgainst_24 ⟨by decide, by decide⟩ rfl rfl ⟨by decide, by decide⟩ hc2 (by omega) rfl rfl (Nat.le_of_ble_eq_true rfl) (c_X6_firstOf G ex n σ (gb + 2) (g 1) (g 2) fi p hc2 hc4 (by omega) (by omega) (by omega)) ?_
          refine A_top (w := .int (nI (s_x g p))) (by rw [x_p_x hxp hpp]) ?_
          refine A_icmp_gtN (tgt := 42) hg dX0_reasonAgainst_27 (by omega) (by omega) (by decide) (fun c27 => ?_) (fun c27 => ?_)
          · skip
            refine A_iconst (v := (nI (2))) hg dX0_reasonAgainst_42 (by decide) ?_
            rw [hQ]
            exact A_ireturn hg (by decide) (by decide) rfl dX0_reasonAgainst_43 ⟨rfl, ⟨rfl, (by rw [s_refI_n hk31 hl31, s_ref_2 (by omega) (by omega)])⟩⟩
          · skip
            refine A_iload_n hg dX0_reasonAgainst_30 rfl rfl ?_
            refine A_aload_n hg dX0_reasonAgainst_31 rfl rfl ?_
            refine A_getf (v := .ref (q_h G + (gb + 2))) hg fl_RX0_24 dX0_reasonAgainst_32 hc0 (by omega) rfl ?_
            refine A_iload_n hg dX0_reasonAgainst_35 rfl rfl ?_
            refine A_eV (kc2 := 0) (ks2 := 0) (As := [.int (nI (p))]) (rest := [.int (nI (l1))]) hg lk_RX0_91 in_X6_secondOf se_X6_secondOf rfl dX0_reasonAgainst_36 ⟨by decide, by decide⟩ rfl rfl ⟨by decide, by decide⟩ hc2 (by omega) rfl rfl (Nat.le_of_ble_eq_true rfl) (c_X6_secondOf G ex n σ (gb + 2) (g 1) (g 2) se p hc2 hc5 (by omega) (by omega) (by omega)) ?_
            refine A_top (w := .int (nI (s_y g p))) (by rw [x_p_y hxp hpp]) ?_
            refine A_icmp_leN (tgt := 44) hg dX0_reasonAgainst_39 (by omega) (by omega) (by decide) (fun c39 => ?_) (fun c39 => ?_)
            · skip
              refine A_aload_n hg dX0_reasonAgainst_44 rfl rfl ?_
              refine A_getf (v := .ref (q_h G + (gb + 2))) hg fl_RX0_24 dX0_reasonAgainst_45 hc0 (by omega) rfl ?_
              refine A_iload_n hg dX0_reasonAgainst_48 rfl rfl ?_
              refine A_eV (kc2 := 0) (ks2 := 0) (As := [.int (nI (p))]) (rest := []) hg lk_RX0_94 in_X6_kindOf se_X6_kindOf rfl dX0_reasonAgainst_49 ⟨by decide, by decide⟩ rfl rfl ⟨by decide, by decide⟩ hc2 (by omega) rfl rfl (Nat.le_of_ble_eq_true rfl) (c_X6_kindOf G ex n σ (gb + 2) (g 1) (g 2) kd p hc2 hc3 (by omega) (by omega) (by omega)) ?_
              refine A_top (w := .int (nI (s_kind g p))) (by rw [x_p_k hxp hpp]) ?_
              refine A_istore hg dX0_reasonAgainst_52 (by decide) (q_c1d rfl) ?_
              refine A_eq (ls2 := [some (.ref (q_h G + gb)), some (.int (nI (p))), some (.int (nI (k1))), some (.int (nI (l1))), some (.int (nI (s_kind g p)))]) (st2 := []) (pc2 := 0) rfl rfl ?_
              refine A_aload_n hg dX0_reasonAgainst_54 rfl rfl ?_
              refine A_getf (v := .ref (q_h G + (gb + 2))) hg fl_RX0_24 dX0_reasonAgainst_55 hc0 (by omega) rfl ?_
              refine A_iload_n hg dX0_reasonAgainst_58 rfl rfl ?_
              refine A_eV (kc2 := 0) (ks2 := 0) (As := [.int (nI (p))]) (rest := []) hg lk_RX0_97 in_X6_isBoard se_X6_isBoard rfl dX0_reasonAgainst_59 ⟨by decide, by decide⟩ rfl rfl ⟨by decide, by decide⟩ hc2 (by omega) rfl rfl (Nat.le_of_ble_eq_true rfl) (c_X6_isBoard G ex n σ (gb + 2) (g 1) (g 2) p hc2 (by omega) (by omega) (by omega)) ?_
              refine A_if_eqB (tgt := 77) hg dX0_reasonAgainst_62 (by decide) (fun c62 => ?_) (fun c62 => ?_)
              · skip
                have hpb := x_of_ndec c62
                refine A_iload_n hg dX0_reasonAgainst_77 rfl rfl ?_
                refine A_iload hg dX0_reasonAgainst_78 rfl ?_
                refine A_icmp_leN (tgt := 87) hg dX0_reasonAgainst_80 (by omega) (by omega) (by decide) (fun c80 => ?_) (fun c80 => ?_)
                · skip
                  refine A_iconst (v := (nI (0))) hg dX0_reasonAgainst_87 (by decide) ?_
                  rw [hQ]
                  exact A_ireturn hg (by decide) (by decide) rfl dX0_reasonAgainst_88 ⟨rfl, ⟨rfl, (by rw [s_refI_n hk31 hl31, x_ref_s (by omega) (by omega) hpb, if_neg (by omega)])⟩⟩
                · skip
                  refine A_iconst (v := (nI (3))) hg dX0_reasonAgainst_83 (by decide) ?_
                  refine A_goto (tgt := 88) hg dX0_reasonAgainst_84 (by decide) ?_
                  rw [hQ]
                  exact A_ireturn hg (by decide) (by decide) rfl dX0_reasonAgainst_88 ⟨rfl, ⟨rfl, (by rw [s_refI_n hk31 hl31, x_ref_s (by omega) (by omega) hpb, if_pos (show s_kind g p < k1 by omega)])⟩⟩
              · skip
                have hpb := x_of_dec c62
                have hkb := (hpart.2.2.2.1 hpb).2
                refine A_aload_n hg dX0_reasonAgainst_65 rfl rfl ?_
                refine A_iload hg dX0_reasonAgainst_66 rfl ?_
                refine A_eV (kc2 := 0) (ks2 := 0) (As := [.int (nI (s_kind g p))]) (rest := []) hg lk_RX0_101 in_X0_ruleAt se_X0_ruleAt rfl dX0_reasonAgainst_68 ⟨by decide, by decide⟩ rfl rfl ⟨by decide, by decide⟩ hc0 (by omega) rfl rfl (Nat.le_of_ble_eq_true rfl) (c_X0_ruleAt G ex n σ gb rm pl tn gm tk (s_kind g p) hc0 hc1 (by omega) (by omega)) ?_
                refine A_iload_n hg dX0_reasonAgainst_71 rfl rfl ?_
                refine A_iload_n hg dX0_reasonAgainst_72 rfl rfl ?_
                refine A_eV (kc2 := 0) (ks2 := 0) (As := [.int (nI (k1)), .int (nI (l1))]) (rest := []) hg lk_RX0_105 in_X7_refusal se_X7_refusal rfl dX0_reasonAgainst_73 ⟨by decide, by decide⟩ rfl rfl ⟨by decide, by decide⟩ (hc6 (s_kind g p) (by omega)) (by omega) rfl rfl (Nat.le_of_ble_eq_true rfl) (c_X7_refusal G ex n σ (gb + 10 + 2 * (s_kind g p)) (s_rule g (s_kind g p)) (nm (s_kind g p)) (on (s_kind g p)) (bm (s_kind g p)) k1 l1 (hc6 (s_kind g p) (by omega)) (hc7 (s_kind g p) (by omega)) (by omega) (x_w_of (hgw.2.2.2.2.2.1 _ hkb)) ((hrs _ hkb).1) ((hrs _ hkb).2) (by omega) (by omega)) ?_
                rw [hQ]
                exact A_ireturn hg (by decide) (by decide) rfl dX0_reasonAgainst_76 ⟨rfl, ⟨rfl, (by rw [s_refI_n hk31 hl31, x_ref_b (by omega) (by omega) hpb])⟩⟩
            · skip
              refine A_iconst (v := (nI (2))) hg dX0_reasonAgainst_42 (by decide) ?_
              rw [hQ]
              exact A_ireturn hg (by decide) (by decide) rfl dX0_reasonAgainst_43 ⟨rfl, ⟨rfl, (by rw [s_refI_n hk31 hl31, s_ref_2 (by omega) (by omega)])⟩⟩
        · skip
          refine A_iconst (v := (nI (1))) hg dX0_reasonAgainst_16 (by decide) ?_
          rw [hQ]
          exact A_ireturn hg (by decide) (by decide) rfl dX0_reasonAgainst_17 ⟨rfl, ⟨rfl, (by rw [s_refI_n hk31 hl31, s_ref_1 (by omega)])⟩⟩
set_option maxRecDepth 100000 in
set_option maxHeartbeats 4000000 in
theorem c_X0_copyFrom (G : GL) (ex : Bool) (n : Nat) (σ : Nat → va_E) (gb : Nat) (rm : Nat) (pl : Nat) (tn : Nat) (gm : Nat) (tk : Nat) (b : Nat) (sk : Nat) (kd : Nat → Nat) (fi : Nat → Nat) (se : Nat → Nat) (tf : Nat → Nat) (ts : Nat → Nat) (ac : Nat → Nat) (tu : Nat → Nat) (nm : Nat → Nat) (on : Nat → Nat) (sl : Nat → Nat) (mo : Nat → Nat) (nb : Nat → Nat) (bm : Nat → Nat → Nat) (g2 : Nat) (rm2 : Nat) (pl2 : Nat) (tn2 : Nat) (gm2 : Nat) (tk2 : Nat) (b2 : Nat) (sk2 : Nat) (kd2 : Nat → Nat) (fi2 : Nat → Nat) (se2 : Nat → Nat) (tf2 : Nat → Nat) (ts2 : Nat → Nat) (ac2 : Nat → Nat) (tu2 : Nat → Nat) (nm2 : Nat → Nat) (on2 : Nat → Nat) (sl2 : Nat → Nat) (mo2 : Nat → Nat) (nb2 : Nat → Nat) (bm2 : Nat → Nat → Nat) (hc0 : σ gb = o0 G (gb) (nI (rm)) (nI (pl)) (nI (tn)) (nI (gm)) (nI (tk))) (hc1 : σ (gb + 1) = q_rn G 3 4 (fun j => some (gb + 10 + 2 * j))) (hc2 : σ (gb + 2) = o6 G (gb + 2) (nI (b)) (nI (sk))) (hc3 : σ (gb + 2 + 1) = q_an G 8 kd) (hc4 : σ (gb + 2 + 2) = q_an G 8 fi) (hc5 : σ (gb + 2 + 3) = q_an G 8 se) (hc6 : σ (gb + 2 + 4) = q_an G 8 tf) (hc7 : σ (gb + 2 + 5) = q_an G 8 ts) (hc8 : σ (gb + 8) = q_an G 10 ac) (hc9 : σ (gb + 9) = q_an G 100 tu) (hc10 : ∀ j9 : Nat, j9 < 4 → σ (gb + 10 + 2 * j9) = o7 G (gb + 10 + 2 * j9) (lN (nm j9)) (lN (on j9)) (nI (sl j9)) (nI (mo j9)) (nI (nb j9))) (hc11 : ∀ j9 : Nat, j9 < 4 → σ (gb + 10 + 2 * j9 + 1) = q_an G 5 (bm j9)) (hc12 : σ g2 = o0 G (g2) (nI (rm2)) (nI (pl2)) (nI (tn2)) (nI (gm2)) (nI (tk2))) (hc13 : σ (g2 + 1) = q_rn G 3 4 (fun j => some (g2 + 10 + 2 * j))) (hc14 : σ (g2 + 2) = o6 G (g2 + 2) (nI (b2)) (nI (sk2))) (hc15 : σ (g2 + 2 + 1) = q_an G 8 kd2) (hc16 : σ (g2 + 2 + 2) = q_an G 8 fi2) (hc17 : σ (g2 + 2 + 3) = q_an G 8 se2) (hc18 : σ (g2 + 2 + 4) = q_an G 8 tf2) (hc19 : σ (g2 + 2 + 5) = q_an G 8 ts2) (hc20 : σ (g2 + 8) = q_an G 10 ac2) (hc21 : σ (g2 + 9) = q_an G 100 tu2) (hc22 : ∀ j9 : Nat, j9 < 4 → σ (g2 + 10 + 2 * j9) = o7 G (g2 + 10 + 2 * j9) (lN (nm2 j9)) (lN (on2 j9)) (nI (sl2 j9)) (nI (mo2 j9)) (nI (nb2 j9))) (hc23 : ∀ j9 : Nat, j9 < 4 → σ (g2 + 10 + 2 * j9 + 1) = q_an G 5 (bm2 j9)) (hgb : gb + 17 < n) (hg2 : g2 + 17 < n) (hap : gb + 17 < g2 ∨ g2 + 17 < gb) : Ct G yX0_copyFrom cX0_copyFrom 3 none ⟨2, 0, 0, 51⟩ [.ref (q_h G + gb), .ref (q_h G + g2)] ex n σ (fun v9 σ2 => v9 = none ∧ σ2 gb = o0 G (gb) (nI (rm2)) (nI (pl2)) (nI (tn2)) (nI (gm2)) (nI (tk2)) ∧ σ2 (gb + 1) = q_rn G 3 4 (fun j => some (gb + 10 + 2 * j)) ∧ σ2 (gb + 2) = o6 G (gb + 2) (nI (b2)) (nI (sk2)) ∧ σ2 (gb + 2 + 1) = q_an G 8 kd2 ∧ σ2 (gb + 2 + 2) = q_an G 8 fi2 ∧ σ2 (gb + 2 + 3) = q_an G 8 se2 ∧ σ2 (gb + 2 + 4) = q_an G 8 tf2 ∧ σ2 (gb + 2 + 5) = q_an G 8 ts2 ∧ σ2 (gb + 8) = q_an G 10 ac2 ∧ σ2 (gb + 9) = q_an G 100 tu2 ∧ (∀ j9 : Nat, j9 < 4 → σ2 (gb + 10 + 2 * j9) = o7 G (gb + 10 + 2 * j9) (lN (nm2 j9)) (lN (on2 j9)) (nI (sl2 j9)) (nI (mo2 j9)) (nI (nb2 j9))) ∧ (∀ j9 : Nat, j9 < 4 → σ2 (gb + 10 + 2 * j9 + 1) = q_an G 5 (bm2 j9)) ∧ (∀ i : Nat, i < gb ∨ gb + 17 < i → σ2 i = σ i)) := by
  refine q_enter [some (.ref (q_h G + gb)), some (.ref (q_h G + g2)), none] (by decide) (Nat.le_of_ble_eq_true rfl) rfl ?_
  intro K hg
  obtain ⟨Q, hQ⟩ : ∃ Q, Q = q_Q G K ex n 0 0 (fun v9 n' σ' => n' = n ∧ (fun v9 σ2 => v9 = none ∧ σ2 gb = o0 G (gb) (nI (rm2)) (nI (pl2)) (nI (tn2)) (nI (gm2)) (nI (tk2)) ∧ σ2 (gb + 1) = q_rn G 3 4 (fun j => some (gb + 10 + 2 * j)) ∧ σ2 (gb + 2) = o6 G (gb + 2) (nI (b2)) (nI (sk2)) ∧ σ2 (gb + 2 + 1) = q_an G 8 kd2 ∧ σ2 (gb + 2 + 2) = q_an G 8 fi2 ∧ σ2 (gb + 2 + 3) = q_an G 8 se2 ∧ σ2 (gb + 2 + 4) = q_an G 8 tf2 ∧ σ2 (gb + 2 + 5) = q_an G 8 ts2 ∧ σ2 (gb + 8) = q_an G 10 ac2 ∧ σ2 (gb + 9) = q_an G 100 tu2 ∧ (∀ j9 : Nat, j9 < 4 → σ2 (gb + 10 + 2 * j9) = o7 G (gb + 10 + 2 * j9) (lN (nm2 j9)) (lN (on2 j9)) (nI (sl2 j9)) (nI (mo2 j9)) (nI (nb2 j9))) ∧ (∀ j9 : Nat, j9 < 4 → σ2 (gb + 10 + 2 * j9 + 1) = q_an G 5 (bm2 j9)) ∧ (∀ i : Nat, i < gb ∨ gb + 17 < i → σ2 i = σ i)) v9 σ') q_noX := ⟨_, rfl⟩
  refine (?_ : AJ G K (q_Q G K ex n 0 0 _ _) 0 0 ex n 0 _ _ σ)
  rw [← hQ]
  refine A_iconst (v := (nI (0))) hg dX0_copyFrom_0 (by decide) ?_
  refine A_istore_n hg dX0_copyFrom_1 rfl (by decide) (q_c1d rfl) ?_
  refine A_eq (ls2 := [some (.ref (q_h G + gb)), some (.ref (q_h G + g2)), some (.int (nI (0)))]) (st2 := []) (pc2 := 0) rfl rfl ?_
  have hL2 : ∀ (fu : Nat) (i : Nat) (σ_1 : Nat → va_E), (σ_1 gb = o0 G (gb) (nI (rm)) (nI (pl)) (nI (tn)) (nI (gm)) (nI (tk))) → (σ_1 (gb + 1) = q_rn G 3 4 (fun j => some (gb + 10 + 2 * j))) → (σ_1 (gb + 2) = o6 G (gb + 2) (nI (b)) (nI (sk))) → (σ_1 (gb + 2 + 1) = q_an G 8 kd) → (σ_1 (gb + 2 + 2) = q_an G 8 fi) → (σ_1 (gb + 2 + 3) = q_an G 8 se) → (σ_1 (gb + 2 + 4) = q_an G 8 tf) → (σ_1 (gb + 2 + 5) = q_an G 8 ts) → (σ_1 (gb + 8) = q_an G 10 ac) → (σ_1 (gb + 9) = q_an G 100 tu) → (∀ j9 : Nat, j9 < 4 → σ_1 (gb + 10 + 2 * j9) = o7 G (gb + 10 + 2 * j9) (lN (x_mix i nm2 nm j9)) (lN (x_mix i on2 on j9)) (nI (x_mix i sl2 sl j9)) (nI (x_mix i mo2 mo j9)) (nI (x_mix i nb2 nb j9))) → (∀ j9 : Nat, j9 < 4 → σ_1 (gb + 10 + 2 * j9 + 1) = q_an G 5 (x_mix i bm2 bm j9)) → (σ_1 g2 = o0 G (g2) (nI (rm2)) (nI (pl2)) (nI (tn2)) (nI (gm2)) (nI (tk2))) → (σ_1 (g2 + 1) = q_rn G 3 4 (fun j => some (g2 + 10 + 2 * j))) → (σ_1 (g2 + 2) = o6 G (g2 + 2) (nI (b2)) (nI (sk2))) → (σ_1 (g2 + 2 + 1) = q_an G 8 kd2) → (σ_1 (g2 + 2 + 2) = q_an G 8 fi2) → (σ_1 (g2 + 2 + 3) = q_an G 8 se2) → (σ_1 (g2 + 2 + 4) = q_an G 8 tf2) → (σ_1 (g2 + 2 + 5) = q_an G 8 ts2) → (σ_1 (g2 + 8) = q_an G 10 ac2) → (σ_1 (g2 + 9) = q_an G 100 tu2) → (∀ j9 : Nat, j9 < 4 → σ_1 (g2 + 10 + 2 * j9) = o7 G (g2 + 10 + 2 * j9) (lN (nm2 j9)) (lN (on2 j9)) (nI (sl2 j9)) (nI (mo2 j9)) (nI (nb2 j9))) → (∀ j9 : Nat, j9 < 4 → σ_1 (g2 + 10 + 2 * j9 + 1) = q_an G 5 (bm2 j9)) → (∀ i : Nat, i < gb ∨ gb + 17 < i → σ_1 i = σ i) → (i ≤ 4) → (4 - i) < fu → AJ G K Q 0 0 ex n 2 [some (.ref (q_h G + gb)), some (.ref (q_h G + g2)), some (.int (nI (i)))] [] σ_1 := by
    intro fu
    induction fu with
    | zero => intro i σ_1 hc_2 hc_3 hc_4 hc_5 hc_6 hc_7 hc_8 hc_9 hc_10 hc_11 hc_12 hc_13 hc_14 hc_15 hc_16 hc_17 hc_18 hc_19 hc_20 hc_21 hc_22 hc_23 hc_24 hc_25 hf_26 hi hm; exact absurd hm (Nat.not_lt_zero _)
    | succ fu ih2 =>
      intro i σ_1 hc_2 hc_3 hc_4 hc_5 hc_6 hc_7 hc_8 hc_9 hc_10 hc_11 hc_12 hc_13 hc_14 hc_15 hc_16 hc_17 hc_18 hc_19 hc_20 hc_21 hc_22 hc_23 hc_24 hc_25 hf_26 hi hm2
      refine A_iload_n hg dX0_copyFrom_2 rfl rfl ?_
      refine A_iconst (v := (nI (4))) hg dX0_copyFrom_3 (by decide) ?_
      refine A_icmp_geN (tgt := 28) hg dX0_copyFrom_4 (by omega) (by decide) (by decide) (fun c4 => ?_) (fun c4 => ?_)
      · skip
        have hc_27 : ∀ j9 : Nat, j9 < 4 → σ_1 (gb + 10 + 2 * j9) = o7 G (gb + 10 + 2 * j9) (lN (nm2 j9)) (lN (on2 j9)) (nI (sl2 j9)) (nI (mo2 j9)) (nI (nb2 j9)) := fun j9 hj0 => (hc_12 j9 (by omega)).trans (by simp only [x_mix_d (show j9 < i by omega)])
        have hc_28 : ∀ j9 : Nat, j9 < 4 → σ_1 (gb + 10 + 2 * j9 + 1) = q_an G 5 (bm2 j9) := fun j9 hj0 => (hc_13 j9 (by omega)).trans (by simp only [x_mix_d (show j9 < i by omega)])
        refine A_aload_n hg dX0_copyFrom_28 rfl rfl ?_
        refine A_aload_n hg dX0_copyFrom_29 rfl rfl ?_
        refine A_getf (v := .int (nI (rm2))) hg fl_RX0_17 dX0_copyFrom_30 hc_14 (by omega) rfl ?_
        refine A_putf hg fl_RX0_17 dX0_copyFrom_33 hc_2 (by omega) (Nat.le_of_ble_eq_true rfl) rfl rfl rfl (fun σ_29 hc_30 hf_31 => ?_)
        have hc_30 : σ_29 gb = o0 G (gb) (nI (rm2)) (nI (pl)) (nI (tn)) (nI (gm)) (nI (tk)) := hc_30
        have hc_32 : σ_29 (gb + 1) = q_rn G 3 4 (fun j => some (gb + 10 + 2 * j)) := (hf_31 _ (by omega)).trans hc_3
        have hc_33 : σ_29 (gb + 2) = o6 G (gb + 2) (nI (b)) (nI (sk)) := (hf_31 _ (by omega)).trans hc_4
        have hc_34 : σ_29 (gb + 2 + 1) = q_an G 8 kd := (hf_31 _ (by omega)).trans hc_5
        have hc_35 : σ_29 (gb + 2 + 2) = q_an G 8 fi := (hf_31 _ (by omega)).trans hc_6
        have hc_36 : σ_29 (gb + 2 + 3) = q_an G 8 se := (hf_31 _ (by omega)).trans hc_7
        have hc_37 : σ_29 (gb + 2 + 4) = q_an G 8 tf := (hf_31 _ (by omega)).trans hc_8
        have hc_38 : σ_29 (gb + 2 + 5) = q_an G 8 ts := (hf_31 _ (by omega)).trans hc_9
        have hc_39 : σ_29 (gb + 8) = q_an G 10 ac := (hf_31 _ (by omega)).trans hc_10
        have hc_40 : σ_29 (gb + 9) = q_an G 100 tu := (hf_31 _ (by omega)).trans hc_11
        have hc_41 : σ_29 g2 = o0 G (g2) (nI (rm2)) (nI (pl2)) (nI (tn2)) (nI (gm2)) (nI (tk2)) := (hf_31 _ (by omega)).trans hc_14
        have hc_42 : σ_29 (g2 + 1) = q_rn G 3 4 (fun j => some (g2 + 10 + 2 * j)) := (hf_31 _ (by omega)).trans hc_15
        have hc_43 : σ_29 (g2 + 2) = o6 G (g2 + 2) (nI (b2)) (nI (sk2)) := (hf_31 _ (by omega)).trans hc_16
        have hc_44 : σ_29 (g2 + 2 + 1) = q_an G 8 kd2 := (hf_31 _ (by omega)).trans hc_17
        have hc_45 : σ_29 (g2 + 2 + 2) = q_an G 8 fi2 := (hf_31 _ (by omega)).trans hc_18
        have hc_46 : σ_29 (g2 + 2 + 3) = q_an G 8 se2 := (hf_31 _ (by omega)).trans hc_19
        have hc_47 : σ_29 (g2 + 2 + 4) = q_an G 8 tf2 := (hf_31 _ (by omega)).trans hc_20
        have hc_48 : σ_29 (g2 + 2 + 5) = q_an G 8 ts2 := (hf_31 _ (by omega)).trans hc_21
        have hc_49 : σ_29 (g2 + 8) = q_an G 10 ac2 := (hf_31 _ (by omega)).trans hc_22
        have hc_50 : σ_29 (g2 + 9) = q_an G 100 tu2 := (hf_31 _ (by omega)).trans hc_23
        have hc_51 : ∀ j9 : Nat, j9 < 4 → σ_29 (g2 + 10 + 2 * j9) = o7 G (g2 + 10 + 2 * j9) (lN (nm2 j9)) (lN (on2 j9)) (nI (sl2 j9)) (nI (mo2 j9)) (nI (nb2 j9)) := fun j9 hj0 => (hf_31 _ (by omega)).trans (hc_24 j9 (by omega))
        have hc_52 : ∀ j9 : Nat, j9 < 4 → σ_29 (g2 + 10 + 2 * j9 + 1) = q_an G 5 (bm2 j9) := fun j9 hj0 => (hf_31 _ (by omega)).trans (hc_25 j9 (by omega))
        have hc_53 : ∀ j9 : Nat, j9 < 4 → σ_29 (gb + 10 + 2 * j9) = o7 G (gb + 10 + 2 * j9) (lN (nm2 j9)) (lN (on2 j9)) (nI (sl2 j9)) (nI (mo2 j9)) (nI (nb2 j9)) := fun j9 hj0 => (hf_31 _ (by omega)).trans (hc_27 j9 (by omega))
        have hc_54 : ∀ j9 : Nat, j9 < 4 → σ_29 (gb + 10 + 2 * j9 + 1) = q_an G 5 (bm2 j9) := fun j9 hj0 => (hf_31 _ (by omega)).trans (hc_28 j9 (by omega))
        refine A_aload_n hg dX0_copyFrom_36 rfl rfl ?_
        refine A_getf (v := .ref (q_h G + (gb + 2))) hg fl_RX0_24 dX0_copyFrom_37 hc_30 (by omega) rfl ?_
        refine A_aload_n hg dX0_copyFrom_40 rfl rfl ?_
        refine A_getf (v := .ref (q_h G + (g2 + 2))) hg fl_RX0_24 dX0_copyFrom_41 hc_41 (by omega) rfl ?_
        refine A_vV (kc2 := 0) (ks2 := 0) (As := [.ref (q_h G + (g2 + 2))]) (rest := []) hg lk_RX0_78 in_X6_copyFrom se_X6_copyFrom rfl dX0_copyFrom_44 ⟨by decide, by decide⟩ rfl rfl ⟨by decide, by decide⟩ hc_33 (by omega) rfl rfl (Nat.le_of_ble_eq_true rfl) (c_X6_copyFrom G ex n σ_29 (gb + 2) b sk kd fi se tf ts (g2 + 2) b2 sk2 kd2 fi2 se2 tf2 ts2 hc_33 hc_34 hc_35 hc_36 hc_37 hc_38 hc_43 hc_44 hc_45 hc_46 hc_47 hc_48 (by omega) (by omega) (by omega)) ?_
        rintro σ_62 ⟨hc_55, hc_56, hc_57, hc_58, hc_59, hc_60, hf_61⟩
        have hc_63 : σ_62 (gb + 1) = q_rn G 3 4 (fun j => some (gb + 10 + 2 * j)) := (hf_61 _ (by omega)).trans hc_32
        have hc_64 : σ_62 (gb + 8) = q_an G 10 ac := (hf_61 _ (by omega)).trans hc_39
        have hc_65 : σ_62 (gb + 9) = q_an G 100 tu := (hf_61 _ (by omega)).trans hc_40
        have hc_66 : σ_62 g2 = o0 G (g2) (nI (rm2)) (nI (pl2)) (nI (tn2)) (nI (gm2)) (nI (tk2)) := (hf_61 _ (by omega)).trans hc_41
        have hc_67 : σ_62 (g2 + 1) = q_rn G 3 4 (fun j => some (g2 + 10 + 2 * j)) := (hf_61 _ (by omega)).trans hc_42
        have hc_68 : σ_62 (g2 + 2) = o6 G (g2 + 2) (nI (b2)) (nI (sk2)) := (hf_61 _ (by omega)).trans hc_43
        have hc_69 : σ_62 (g2 + 2 + 1) = q_an G 8 kd2 := (hf_61 _ (by omega)).trans hc_44
        have hc_70 : σ_62 (g2 + 2 + 2) = q_an G 8 fi2 := (hf_61 _ (by omega)).trans hc_45
        have hc_71 : σ_62 (g2 + 2 + 3) = q_an G 8 se2 := (hf_61 _ (by omega)).trans hc_46
        have hc_72 : σ_62 (g2 + 2 + 4) = q_an G 8 tf2 := (hf_61 _ (by omega)).trans hc_47
        have hc_73 : σ_62 (g2 + 2 + 5) = q_an G 8 ts2 := (hf_61 _ (by omega)).trans hc_48
        have hc_74 : σ_62 (g2 + 8) = q_an G 10 ac2 := (hf_61 _ (by omega)).trans hc_49
        have hc_75 : σ_62 (g2 + 9) = q_an G 100 tu2 := (hf_61 _ (by omega)).trans hc_50
        have hc_76 : ∀ j9 : Nat, j9 < 4 → σ_62 (g2 + 10 + 2 * j9) = o7 G (g2 + 10 + 2 * j9) (lN (nm2 j9)) (lN (on2 j9)) (nI (sl2 j9)) (nI (mo2 j9)) (nI (nb2 j9)) := fun j9 hj0 => (hf_61 _ (by omega)).trans (hc_51 j9 (by omega))
        have hc_77 : ∀ j9 : Nat, j9 < 4 → σ_62 (g2 + 10 + 2 * j9 + 1) = q_an G 5 (bm2 j9) := fun j9 hj0 => (hf_61 _ (by omega)).trans (hc_52 j9 (by omega))
        have hc_78 : ∀ j9 : Nat, j9 < 4 → σ_62 (gb + 10 + 2 * j9) = o7 G (gb + 10 + 2 * j9) (lN (nm2 j9)) (lN (on2 j9)) (nI (sl2 j9)) (nI (mo2 j9)) (nI (nb2 j9)) := fun j9 hj0 => (hf_61 _ (by omega)).trans (hc_53 j9 (by omega))
        have hc_79 : ∀ j9 : Nat, j9 < 4 → σ_62 (gb + 10 + 2 * j9 + 1) = q_an G 5 (bm2 j9) := fun j9 hj0 => (hf_61 _ (by omega)).trans (hc_54 j9 (by omega))
        have hc_80 : σ_62 gb = o0 G (gb) (nI (rm2)) (nI (pl)) (nI (tn)) (nI (gm)) (nI (tk)) := (hf_61 _ (by omega)).trans hc_30
        refine A_aload_n hg dX0_copyFrom_47 rfl rfl ?_
        refine A_aload_n hg dX0_copyFrom_48 rfl rfl ?_
        refine A_getf (v := .int (nI (pl2))) hg fl_RX0_28 dX0_copyFrom_49 hc_66 (by omega) rfl ?_
        refine A_putf hg fl_RX0_28 dX0_copyFrom_52 hc_80 (by omega) (Nat.le_of_ble_eq_true rfl) rfl rfl rfl (fun σ_81 hc_82 hf_83 => ?_)
        have hc_82 : σ_81 gb = o0 G (gb) (nI (rm2)) (nI (pl2)) (nI (tn)) (nI (gm)) (nI (tk)) := hc_82
        have hc_84 : σ_81 (gb + 1) = q_rn G 3 4 (fun j => some (gb + 10 + 2 * j)) := (hf_83 _ (by omega)).trans hc_63
        have hc_85 : σ_81 (gb + 8) = q_an G 10 ac := (hf_83 _ (by omega)).trans hc_64
        have hc_86 : σ_81 (gb + 9) = q_an G 100 tu := (hf_83 _ (by omega)).trans hc_65
        have hc_87 : σ_81 g2 = o0 G (g2) (nI (rm2)) (nI (pl2)) (nI (tn2)) (nI (gm2)) (nI (tk2)) := (hf_83 _ (by omega)).trans hc_66
        have hc_88 : σ_81 (g2 + 1) = q_rn G 3 4 (fun j => some (g2 + 10 + 2 * j)) := (hf_83 _ (by omega)).trans hc_67
        have hc_89 : σ_81 (g2 + 2) = o6 G (g2 + 2) (nI (b2)) (nI (sk2)) := (hf_83 _ (by omega)).trans hc_68
        have hc_90 : σ_81 (g2 + 2 + 1) = q_an G 8 kd2 := (hf_83 _ (by omega)).trans hc_69
        have hc_91 : σ_81 (g2 + 2 + 2) = q_an G 8 fi2 := (hf_83 _ (by omega)).trans hc_70
        have hc_92 : σ_81 (g2 + 2 + 3) = q_an G 8 se2 := (hf_83 _ (by omega)).trans hc_71
        have hc_93 : σ_81 (g2 + 2 + 4) = q_an G 8 tf2 := (hf_83 _ (by omega)).trans hc_72
        have hc_94 : σ_81 (g2 + 2 + 5) = q_an G 8 ts2 := (hf_83 _ (by omega)).trans hc_73
        have hc_95 : σ_81 (g2 + 8) = q_an G 10 ac2 := (hf_83 _ (by omega)).trans hc_74
        have hc_96 : σ_81 (g2 + 9) = q_an G 100 tu2 := (hf_83 _ (by omega)).trans hc_75
        have hc_97 : ∀ j9 : Nat, j9 < 4 → σ_81 (g2 + 10 + 2 * j9) = o7 G (g2 + 10 + 2 * j9) (lN (nm2 j9)) (lN (on2 j9)) (nI (sl2 j9)) (nI (mo2 j9)) (nI (nb2 j9)) := fun j9 hj0 => (hf_83 _ (by omega)).trans (hc_76 j9 (by omega))
        have hc_98 : ∀ j9 : Nat, j9 < 4 → σ_81 (g2 + 10 + 2 * j9 + 1) = q_an G 5 (bm2 j9) := fun j9 hj0 => (hf_83 _ (by omega)).trans (hc_77 j9 (by omega))
        have hc_99 : ∀ j9 : Nat, j9 < 4 → σ_81 (gb + 10 + 2 * j9) = o7 G (gb + 10 + 2 * j9) (lN (nm2 j9)) (lN (on2 j9)) (nI (sl2 j9)) (nI (mo2 j9)) (nI (nb2 j9)) := fun j9 hj0 => (hf_83 _ (by omega)).trans (hc_78 j9 (by omega))
        have hc_100 : ∀ j9 : Nat, j9 < 4 → σ_81 (gb + 10 + 2 * j9 + 1) = q_an G 5 (bm2 j9) := fun j9 hj0 => (hf_83 _ (by omega)).trans (hc_79 j9 (by omega))
        have hc_101 : σ_81 (gb + 2) = o6 G (gb + 2) (nI (b2)) (nI (sk2)) := (hf_83 _ (by omega)).trans hc_55
        have hc_102 : σ_81 ((gb + 2) + 1) = q_an G 8 kd2 := (hf_83 _ (by omega)).trans hc_56
        have hc_103 : σ_81 ((gb + 2) + 2) = q_an G 8 fi2 := (hf_83 _ (by omega)).trans hc_57
        have hc_104 : σ_81 ((gb + 2) + 3) = q_an G 8 se2 := (hf_83 _ (by omega)).trans hc_58
        have hc_105 : σ_81 ((gb + 2) + 4) = q_an G 8 tf2 := (hf_83 _ (by omega)).trans hc_59
        have hc_106 : σ_81 ((gb + 2) + 5) = q_an G 8 ts2 := (hf_83 _ (by omega)).trans hc_60
        refine A_aload_n hg dX0_copyFrom_55 rfl rfl ?_
        refine A_aload_n hg dX0_copyFrom_56 rfl rfl ?_
        refine A_getf (v := .int (nI (tn2))) hg fl_RX0_31 dX0_copyFrom_57 hc_87 (by omega) rfl ?_
        refine A_putf hg fl_RX0_31 dX0_copyFrom_60 hc_82 (by omega) (Nat.le_of_ble_eq_true rfl) rfl rfl rfl (fun σ_107 hc_108 hf_109 => ?_)
        have hc_108 : σ_107 gb = o0 G (gb) (nI (rm2)) (nI (pl2)) (nI (tn2)) (nI (gm)) (nI (tk)) := hc_108
        have hc_110 : σ_107 (gb + 1) = q_rn G 3 4 (fun j => some (gb + 10 + 2 * j)) := (hf_109 _ (by omega)).trans hc_84
        have hc_111 : σ_107 (gb + 8) = q_an G 10 ac := (hf_109 _ (by omega)).trans hc_85
        have hc_112 : σ_107 (gb + 9) = q_an G 100 tu := (hf_109 _ (by omega)).trans hc_86
        have hc_113 : σ_107 g2 = o0 G (g2) (nI (rm2)) (nI (pl2)) (nI (tn2)) (nI (gm2)) (nI (tk2)) := (hf_109 _ (by omega)).trans hc_87
        have hc_114 : σ_107 (g2 + 1) = q_rn G 3 4 (fun j => some (g2 + 10 + 2 * j)) := (hf_109 _ (by omega)).trans hc_88
        have hc_115 : σ_107 (g2 + 2) = o6 G (g2 + 2) (nI (b2)) (nI (sk2)) := (hf_109 _ (by omega)).trans hc_89
        have hc_116 : σ_107 (g2 + 2 + 1) = q_an G 8 kd2 := (hf_109 _ (by omega)).trans hc_90
        have hc_117 : σ_107 (g2 + 2 + 2) = q_an G 8 fi2 := (hf_109 _ (by omega)).trans hc_91
        have hc_118 : σ_107 (g2 + 2 + 3) = q_an G 8 se2 := (hf_109 _ (by omega)).trans hc_92
        have hc_119 : σ_107 (g2 + 2 + 4) = q_an G 8 tf2 := (hf_109 _ (by omega)).trans hc_93
        have hc_120 : σ_107 (g2 + 2 + 5) = q_an G 8 ts2 := (hf_109 _ (by omega)).trans hc_94
        have hc_121 : σ_107 (g2 + 8) = q_an G 10 ac2 := (hf_109 _ (by omega)).trans hc_95
        have hc_122 : σ_107 (g2 + 9) = q_an G 100 tu2 := (hf_109 _ (by omega)).trans hc_96
        have hc_123 : ∀ j9 : Nat, j9 < 4 → σ_107 (g2 + 10 + 2 * j9) = o7 G (g2 + 10 + 2 * j9) (lN (nm2 j9)) (lN (on2 j9)) (nI (sl2 j9)) (nI (mo2 j9)) (nI (nb2 j9)) := fun j9 hj0 => (hf_109 _ (by omega)).trans (hc_97 j9 (by omega))
        have hc_124 : ∀ j9 : Nat, j9 < 4 → σ_107 (g2 + 10 + 2 * j9 + 1) = q_an G 5 (bm2 j9) := fun j9 hj0 => (hf_109 _ (by omega)).trans (hc_98 j9 (by omega))
        have hc_125 : ∀ j9 : Nat, j9 < 4 → σ_107 (gb + 10 + 2 * j9) = o7 G (gb + 10 + 2 * j9) (lN (nm2 j9)) (lN (on2 j9)) (nI (sl2 j9)) (nI (mo2 j9)) (nI (nb2 j9)) := fun j9 hj0 => (hf_109 _ (by omega)).trans (hc_99 j9 (by omega))
        have hc_126 : ∀ j9 : Nat, j9 < 4 → σ_107 (gb + 10 + 2 * j9 + 1) = q_an G 5 (bm2 j9) := fun j9 hj0 => (hf_109 _ (by omega)).trans (hc_100 j9 (by omega))
        have hc_127 : σ_107 (gb + 2) = o6 G (gb + 2) (nI (b2)) (nI (sk2)) := (hf_109 _ (by omega)).trans hc_101
        have hc_128 : σ_107 ((gb + 2) + 1) = q_an G 8 kd2 := (hf_109 _ (by omega)).trans hc_102
        have hc_129 : σ_107 ((gb + 2) + 2) = q_an G 8 fi2 := (hf_109 _ (by omega)).trans hc_103
        have hc_130 : σ_107 ((gb + 2) + 3) = q_an G 8 se2 := (hf_109 _ (by omega)).trans hc_104
        have hc_131 : σ_107 ((gb + 2) + 4) = q_an G 8 tf2 := (hf_109 _ (by omega)).trans hc_105
        have hc_132 : σ_107 ((gb + 2) + 5) = q_an G 8 ts2 := (hf_109 _ (by omega)).trans hc_106
        refine A_aload_n hg dX0_copyFrom_63 rfl rfl ?_
        refine A_aload_n hg dX0_copyFrom_64 rfl rfl ?_
        refine A_getf (v := .int (nI (gm2))) hg fl_RX0_34 dX0_copyFrom_65 hc_113 (by omega) rfl ?_
        refine A_putf hg fl_RX0_34 dX0_copyFrom_68 hc_108 (by omega) (Nat.le_of_ble_eq_true rfl) rfl rfl rfl (fun σ_133 hc_134 hf_135 => ?_)
        have hc_134 : σ_133 gb = o0 G (gb) (nI (rm2)) (nI (pl2)) (nI (tn2)) (nI (gm2)) (nI (tk)) := hc_134
        have hc_136 : σ_133 (gb + 1) = q_rn G 3 4 (fun j => some (gb + 10 + 2 * j)) := (hf_135 _ (by omega)).trans hc_110
        have hc_137 : σ_133 (gb + 8) = q_an G 10 ac := (hf_135 _ (by omega)).trans hc_111
        have hc_138 : σ_133 (gb + 9) = q_an G 100 tu := (hf_135 _ (by omega)).trans hc_112
        have hc_139 : σ_133 g2 = o0 G (g2) (nI (rm2)) (nI (pl2)) (nI (tn2)) (nI (gm2)) (nI (tk2)) := (hf_135 _ (by omega)).trans hc_113
        have hc_140 : σ_133 (g2 + 1) = q_rn G 3 4 (fun j => some (g2 + 10 + 2 * j)) := (hf_135 _ (by omega)).trans hc_114
        have hc_141 : σ_133 (g2 + 2) = o6 G (g2 + 2) (nI (b2)) (nI (sk2)) := (hf_135 _ (by omega)).trans hc_115
        have hc_142 : σ_133 (g2 + 2 + 1) = q_an G 8 kd2 := (hf_135 _ (by omega)).trans hc_116
        have hc_143 : σ_133 (g2 + 2 + 2) = q_an G 8 fi2 := (hf_135 _ (by omega)).trans hc_117
        have hc_144 : σ_133 (g2 + 2 + 3) = q_an G 8 se2 := (hf_135 _ (by omega)).trans hc_118
        have hc_145 : σ_133 (g2 + 2 + 4) = q_an G 8 tf2 := (hf_135 _ (by omega)).trans hc_119
        have hc_146 : σ_133 (g2 + 2 + 5) = q_an G 8 ts2 := (hf_135 _ (by omega)).trans hc_120
        have hc_147 : σ_133 (g2 + 8) = q_an G 10 ac2 := (hf_135 _ (by omega)).trans hc_121
        have hc_148 : σ_133 (g2 + 9) = q_an G 100 tu2 := (hf_135 _ (by omega)).trans hc_122
        have hc_149 : ∀ j9 : Nat, j9 < 4 → σ_133 (g2 + 10 + 2 * j9) = o7 G (g2 + 10 + 2 * j9) (lN (nm2 j9)) (lN (on2 j9)) (nI (sl2 j9)) (nI (mo2 j9)) (nI (nb2 j9)) := fun j9 hj0 => (hf_135 _ (by omega)).trans (hc_123 j9 (by omega))
        have hc_150 : ∀ j9 : Nat, j9 < 4 → σ_133 (g2 + 10 + 2 * j9 + 1) = q_an G 5 (bm2 j9) := fun j9 hj0 => (hf_135 _ (by omega)).trans (hc_124 j9 (by omega))
        have hc_151 : ∀ j9 : Nat, j9 < 4 → σ_133 (gb + 10 + 2 * j9) = o7 G (gb + 10 + 2 * j9) (lN (nm2 j9)) (lN (on2 j9)) (nI (sl2 j9)) (nI (mo2 j9)) (nI (nb2 j9)) := fun j9 hj0 => (hf_135 _ (by omega)).trans (hc_125 j9 (by omega))
        have hc_152 : ∀ j9 : Nat, j9 < 4 → σ_133 (gb + 10 + 2 * j9 + 1) = q_an G 5 (bm2 j9) := fun j9 hj0 => (hf_135 _ (by omega)).trans (hc_126 j9 (by omega))
        have hc_153 : σ_133 (gb + 2) = o6 G (gb + 2) (nI (b2)) (nI (sk2)) := (hf_135 _ (by omega)).trans hc_127
        have hc_154 : σ_133 ((gb + 2) + 1) = q_an G 8 kd2 := (hf_135 _ (by omega)).trans hc_128
        have hc_155 : σ_133 ((gb + 2) + 2) = q_an G 8 fi2 := (hf_135 _ (by omega)).trans hc_129
        have hc_156 : σ_133 ((gb + 2) + 3) = q_an G 8 se2 := (hf_135 _ (by omega)).trans hc_130
        have hc_157 : σ_133 ((gb + 2) + 4) = q_an G 8 tf2 := (hf_135 _ (by omega)).trans hc_131
        have hc_158 : σ_133 ((gb + 2) + 5) = q_an G 8 ts2 := (hf_135 _ (by omega)).trans hc_132
        refine A_aload_n hg dX0_copyFrom_71 rfl rfl ?_
        refine A_getf (v := .ref (q_h G + (g2 + 8))) hg fl_RX0_37 dX0_copyFrom_72 hc_139 (by omega) rfl ?_
        refine A_iconst (v := (nI (0))) hg dX0_copyFrom_75 (by decide) ?_
        refine A_aload_n hg dX0_copyFrom_76 rfl rfl ?_
        refine A_getf (v := .ref (q_h G + (gb + 8))) hg fl_RX0_37 dX0_copyFrom_77 hc_134 (by omega) rfl ?_
        refine A_iconst (v := (nI (0))) hg dX0_copyFrom_80 (by decide) ?_
        refine A_aload_n hg dX0_copyFrom_81 rfl rfl ?_
        refine A_getf (v := .ref (q_h G + (gb + 8))) hg fl_RX0_37 dX0_copyFrom_82 hc_134 (by omega) rfl ?_
        refine A_alen (t := 0) (len := 10) hg dX0_copyFrom_85 hc_137 (by decide) (by omega) ?_
        refine A_copy (x := 0) (y := 0) (z := 10) hg (q_mt 639 (by decide +kernel)) (q_mt 633 (by decide +kernel)) (q_mt 632 (by decide +kernel)) (q_mt 19 (by decide +kernel)) dX0_copyFrom_86 ⟨by decide, by decide⟩ (Nat.le_of_ble_eq_true rfl) hc_147 hc_137 (by omega) (by omega) (by omega) (by omega) (by decide) (by decide) (by decide) (fun σ_159 hc_160 hf_161 => ?_)
        have hc_162 : σ_159 (gb + 1) = q_rn G 3 4 (fun j => some (gb + 10 + 2 * j)) := (hf_161 _ (by omega)).trans hc_136
        have hc_163 : σ_159 (gb + 9) = q_an G 100 tu := (hf_161 _ (by omega)).trans hc_138
        have hc_164 : σ_159 g2 = o0 G (g2) (nI (rm2)) (nI (pl2)) (nI (tn2)) (nI (gm2)) (nI (tk2)) := (hf_161 _ (by omega)).trans hc_139
        have hc_165 : σ_159 (g2 + 1) = q_rn G 3 4 (fun j => some (g2 + 10 + 2 * j)) := (hf_161 _ (by omega)).trans hc_140
        have hc_166 : σ_159 (g2 + 2) = o6 G (g2 + 2) (nI (b2)) (nI (sk2)) := (hf_161 _ (by omega)).trans hc_141
        have hc_167 : σ_159 (g2 + 2 + 1) = q_an G 8 kd2 := (hf_161 _ (by omega)).trans hc_142
        have hc_168 : σ_159 (g2 + 2 + 2) = q_an G 8 fi2 := (hf_161 _ (by omega)).trans hc_143
        have hc_169 : σ_159 (g2 + 2 + 3) = q_an G 8 se2 := (hf_161 _ (by omega)).trans hc_144
        have hc_170 : σ_159 (g2 + 2 + 4) = q_an G 8 tf2 := (hf_161 _ (by omega)).trans hc_145
        have hc_171 : σ_159 (g2 + 2 + 5) = q_an G 8 ts2 := (hf_161 _ (by omega)).trans hc_146
        have hc_172 : σ_159 (g2 + 8) = q_an G 10 ac2 := (hf_161 _ (by omega)).trans hc_147
        have hc_173 : σ_159 (g2 + 9) = q_an G 100 tu2 := (hf_161 _ (by omega)).trans hc_148
        have hc_174 : ∀ j9 : Nat, j9 < 4 → σ_159 (g2 + 10 + 2 * j9) = o7 G (g2 + 10 + 2 * j9) (lN (nm2 j9)) (lN (on2 j9)) (nI (sl2 j9)) (nI (mo2 j9)) (nI (nb2 j9)) := fun j9 hj0 => (hf_161 _ (by omega)).trans (hc_149 j9 (by omega))
        have hc_175 : ∀ j9 : Nat, j9 < 4 → σ_159 (g2 + 10 + 2 * j9 + 1) = q_an G 5 (bm2 j9) := fun j9 hj0 => (hf_161 _ (by omega)).trans (hc_150 j9 (by omega))
        have hc_176 : ∀ j9 : Nat, j9 < 4 → σ_159 (gb + 10 + 2 * j9) = o7 G (gb + 10 + 2 * j9) (lN (nm2 j9)) (lN (on2 j9)) (nI (sl2 j9)) (nI (mo2 j9)) (nI (nb2 j9)) := fun j9 hj0 => (hf_161 _ (by omega)).trans (hc_151 j9 (by omega))
        have hc_177 : ∀ j9 : Nat, j9 < 4 → σ_159 (gb + 10 + 2 * j9 + 1) = q_an G 5 (bm2 j9) := fun j9 hj0 => (hf_161 _ (by omega)).trans (hc_152 j9 (by omega))
        have hc_178 : σ_159 (gb + 2) = o6 G (gb + 2) (nI (b2)) (nI (sk2)) := (hf_161 _ (by omega)).trans hc_153
        have hc_179 : σ_159 ((gb + 2) + 1) = q_an G 8 kd2 := (hf_161 _ (by omega)).trans hc_154
        have hc_180 : σ_159 ((gb + 2) + 2) = q_an G 8 fi2 := (hf_161 _ (by omega)).trans hc_155
        have hc_181 : σ_159 ((gb + 2) + 3) = q_an G 8 se2 := (hf_161 _ (by omega)).trans hc_156
        have hc_182 : σ_159 ((gb + 2) + 4) = q_an G 8 tf2 := (hf_161 _ (by omega)).trans hc_157
        have hc_183 : σ_159 ((gb + 2) + 5) = q_an G 8 ts2 := (hf_161 _ (by omega)).trans hc_158
        have hc_184 : σ_159 gb = o0 G (gb) (nI (rm2)) (nI (pl2)) (nI (tn2)) (nI (gm2)) (nI (tk)) := (hf_161 _ (by omega)).trans hc_134
        refine A_aload_n hg dX0_copyFrom_89 rfl rfl ?_
        refine A_getf (v := .ref (q_h G + (g2 + 9))) hg fl_RX0_41 dX0_copyFrom_90 hc_164 (by omega) rfl ?_
        refine A_iconst (v := (nI (0))) hg dX0_copyFrom_93 (by decide) ?_
        refine A_aload_n hg dX0_copyFrom_94 rfl rfl ?_
        refine A_getf (v := .ref (q_h G + (gb + 9))) hg fl_RX0_41 dX0_copyFrom_95 hc_184 (by omega) rfl ?_
        refine A_iconst (v := (nI (0))) hg dX0_copyFrom_98 (by decide) ?_
        refine A_aload_n hg dX0_copyFrom_99 rfl rfl ?_
        refine A_getf (v := .ref (q_h G + (gb + 9))) hg fl_RX0_41 dX0_copyFrom_100 hc_184 (by omega) rfl ?_
        refine A_alen (t := 0) (len := 100) hg dX0_copyFrom_103 hc_163 (by decide) (by omega) ?_
        refine A_copy (x := 0) (y := 0) (z := 100) hg (q_mt 639 (by decide +kernel)) (q_mt 633 (by decide +kernel)) (q_mt 632 (by decide +kernel)) (q_mt 19 (by decide +kernel)) dX0_copyFrom_104 ⟨by decide, by decide⟩ (Nat.le_of_ble_eq_true rfl) hc_173 hc_163 (by omega) (by omega) (by omega) (by omega) (by decide) (by decide) (by decide) (fun σ_185 hc_186 hf_187 => ?_)
        have hc_188 : σ_185 (gb + 1) = q_rn G 3 4 (fun j => some (gb + 10 + 2 * j)) := (hf_187 _ (by omega)).trans hc_162
        have hc_189 : σ_185 g2 = o0 G (g2) (nI (rm2)) (nI (pl2)) (nI (tn2)) (nI (gm2)) (nI (tk2)) := (hf_187 _ (by omega)).trans hc_164
        have hc_190 : σ_185 (g2 + 1) = q_rn G 3 4 (fun j => some (g2 + 10 + 2 * j)) := (hf_187 _ (by omega)).trans hc_165
        have hc_191 : σ_185 (g2 + 2) = o6 G (g2 + 2) (nI (b2)) (nI (sk2)) := (hf_187 _ (by omega)).trans hc_166
        have hc_192 : σ_185 (g2 + 2 + 1) = q_an G 8 kd2 := (hf_187 _ (by omega)).trans hc_167
        have hc_193 : σ_185 (g2 + 2 + 2) = q_an G 8 fi2 := (hf_187 _ (by omega)).trans hc_168
        have hc_194 : σ_185 (g2 + 2 + 3) = q_an G 8 se2 := (hf_187 _ (by omega)).trans hc_169
        have hc_195 : σ_185 (g2 + 2 + 4) = q_an G 8 tf2 := (hf_187 _ (by omega)).trans hc_170
        have hc_196 : σ_185 (g2 + 2 + 5) = q_an G 8 ts2 := (hf_187 _ (by omega)).trans hc_171
        have hc_197 : σ_185 (g2 + 8) = q_an G 10 ac2 := (hf_187 _ (by omega)).trans hc_172
        have hc_198 : σ_185 (g2 + 9) = q_an G 100 tu2 := (hf_187 _ (by omega)).trans hc_173
        have hc_199 : ∀ j9 : Nat, j9 < 4 → σ_185 (g2 + 10 + 2 * j9) = o7 G (g2 + 10 + 2 * j9) (lN (nm2 j9)) (lN (on2 j9)) (nI (sl2 j9)) (nI (mo2 j9)) (nI (nb2 j9)) := fun j9 hj0 => (hf_187 _ (by omega)).trans (hc_174 j9 (by omega))
        have hc_200 : ∀ j9 : Nat, j9 < 4 → σ_185 (g2 + 10 + 2 * j9 + 1) = q_an G 5 (bm2 j9) := fun j9 hj0 => (hf_187 _ (by omega)).trans (hc_175 j9 (by omega))
        have hc_201 : ∀ j9 : Nat, j9 < 4 → σ_185 (gb + 10 + 2 * j9) = o7 G (gb + 10 + 2 * j9) (lN (nm2 j9)) (lN (on2 j9)) (nI (sl2 j9)) (nI (mo2 j9)) (nI (nb2 j9)) := fun j9 hj0 => (hf_187 _ (by omega)).trans (hc_176 j9 (by omega))
        have hc_202 : ∀ j9 : Nat, j9 < 4 → σ_185 (gb + 10 + 2 * j9 + 1) = q_an G 5 (bm2 j9) := fun j9 hj0 => (hf_187 _ (by omega)).trans (hc_177 j9 (by omega))
        have hc_203 : σ_185 (gb + 2) = o6 G (gb + 2) (nI (b2)) (nI (sk2)) := (hf_187 _ (by omega)).trans hc_178
        have hc_204 : σ_185 ((gb + 2) + 1) = q_an G 8 kd2 := (hf_187 _ (by omega)).trans hc_179
        have hc_205 : σ_185 ((gb + 2) + 2) = q_an G 8 fi2 := (hf_187 _ (by omega)).trans hc_180
        have hc_206 : σ_185 ((gb + 2) + 3) = q_an G 8 se2 := (hf_187 _ (by omega)).trans hc_181
        have hc_207 : σ_185 ((gb + 2) + 4) = q_an G 8 tf2 := (hf_187 _ (by omega)).trans hc_182
        have hc_208 : σ_185 ((gb + 2) + 5) = q_an G 8 ts2 := (hf_187 _ (by omega)).trans hc_183
        have hc_209 : σ_185 gb = o0 G (gb) (nI (rm2)) (nI (pl2)) (nI (tn2)) (nI (gm2)) (nI (tk)) := (hf_187 _ (by omega)).trans hc_184
        have hc_210 : σ_185 (gb + 8) = q_an G 10 (va_cpy ac2 ac 0 0 10) := (hf_187 _ (by omega)).trans hc_160
        refine A_aload_n hg dX0_copyFrom_107 rfl rfl ?_
        refine A_aload_n hg dX0_copyFrom_108 rfl rfl ?_
        refine A_getf (v := .int (nI (tk2))) hg fl_RX0_44 dX0_copyFrom_109 hc_189 (by omega) rfl ?_
        refine A_putf hg fl_RX0_44 dX0_copyFrom_112 hc_209 (by omega) (Nat.le_of_ble_eq_true rfl) rfl rfl rfl (fun σ_211 hc_212 hf_213 => ?_)
        have hc_212 : σ_211 gb = o0 G (gb) (nI (rm2)) (nI (pl2)) (nI (tn2)) (nI (gm2)) (nI (tk2)) := hc_212
        have hc_214 : σ_211 (gb + 1) = q_rn G 3 4 (fun j => some (gb + 10 + 2 * j)) := (hf_213 _ (by omega)).trans hc_188
        have hc_215 : σ_211 g2 = o0 G (g2) (nI (rm2)) (nI (pl2)) (nI (tn2)) (nI (gm2)) (nI (tk2)) := (hf_213 _ (by omega)).trans hc_189
        have hc_216 : σ_211 (g2 + 1) = q_rn G 3 4 (fun j => some (g2 + 10 + 2 * j)) := (hf_213 _ (by omega)).trans hc_190
        have hc_217 : σ_211 (g2 + 2) = o6 G (g2 + 2) (nI (b2)) (nI (sk2)) := (hf_213 _ (by omega)).trans hc_191
        have hc_218 : σ_211 (g2 + 2 + 1) = q_an G 8 kd2 := (hf_213 _ (by omega)).trans hc_192
        have hc_219 : σ_211 (g2 + 2 + 2) = q_an G 8 fi2 := (hf_213 _ (by omega)).trans hc_193
        have hc_220 : σ_211 (g2 + 2 + 3) = q_an G 8 se2 := (hf_213 _ (by omega)).trans hc_194
        have hc_221 : σ_211 (g2 + 2 + 4) = q_an G 8 tf2 := (hf_213 _ (by omega)).trans hc_195
        have hc_222 : σ_211 (g2 + 2 + 5) = q_an G 8 ts2 := (hf_213 _ (by omega)).trans hc_196
        have hc_223 : σ_211 (g2 + 8) = q_an G 10 ac2 := (hf_213 _ (by omega)).trans hc_197
        have hc_224 : σ_211 (g2 + 9) = q_an G 100 tu2 := (hf_213 _ (by omega)).trans hc_198
        have hc_225 : ∀ j9 : Nat, j9 < 4 → σ_211 (g2 + 10 + 2 * j9) = o7 G (g2 + 10 + 2 * j9) (lN (nm2 j9)) (lN (on2 j9)) (nI (sl2 j9)) (nI (mo2 j9)) (nI (nb2 j9)) := fun j9 hj0 => (hf_213 _ (by omega)).trans (hc_199 j9 (by omega))
        have hc_226 : ∀ j9 : Nat, j9 < 4 → σ_211 (g2 + 10 + 2 * j9 + 1) = q_an G 5 (bm2 j9) := fun j9 hj0 => (hf_213 _ (by omega)).trans (hc_200 j9 (by omega))
        have hc_227 : ∀ j9 : Nat, j9 < 4 → σ_211 (gb + 10 + 2 * j9) = o7 G (gb + 10 + 2 * j9) (lN (nm2 j9)) (lN (on2 j9)) (nI (sl2 j9)) (nI (mo2 j9)) (nI (nb2 j9)) := fun j9 hj0 => (hf_213 _ (by omega)).trans (hc_201 j9 (by omega))
        have hc_228 : ∀ j9 : Nat, j9 < 4 → σ_211 (gb + 10 + 2 * j9 + 1) = q_an G 5 (bm2 j9) := fun j9 hj0 => (hf_213 _ (by omega)).trans (hc_202 j9 (by omega))
        have hc_229 : σ_211 (gb + 2) = o6 G (gb + 2) (nI (b2)) (nI (sk2)) := (hf_213 _ (by omega)).trans hc_203
        have hc_230 : σ_211 ((gb + 2) + 1) = q_an G 8 kd2 := (hf_213 _ (by omega)).trans hc_204
        have hc_231 : σ_211 ((gb + 2) + 2) = q_an G 8 fi2 := (hf_213 _ (by omega)).trans hc_205
        have hc_232 : σ_211 ((gb + 2) + 3) = q_an G 8 se2 := (hf_213 _ (by omega)).trans hc_206
        have hc_233 : σ_211 ((gb + 2) + 4) = q_an G 8 tf2 := (hf_213 _ (by omega)).trans hc_207
        have hc_234 : σ_211 ((gb + 2) + 5) = q_an G 8 ts2 := (hf_213 _ (by omega)).trans hc_208
        have hc_235 : σ_211 (gb + 8) = q_an G 10 (va_cpy ac2 ac 0 0 10) := (hf_213 _ (by omega)).trans hc_210
        have hc_236 : σ_211 (gb + 9) = q_an G 100 (va_cpy tu2 tu 0 0 100) := (hf_213 _ (by omega)).trans hc_186
        refine A_canon ac2 hc_235 (fun jj hj => by unfold va_cpy; rw [if_pos (by omega)]; congr 1; omega) (fun σ_237 hc_238 hf_239 => ?_)
        have hc_240 : σ_237 (gb + 1) = q_rn G 3 4 (fun j => some (gb + 10 + 2 * j)) := (hf_239 _ (by omega)).trans hc_214
        have hc_241 : σ_237 g2 = o0 G (g2) (nI (rm2)) (nI (pl2)) (nI (tn2)) (nI (gm2)) (nI (tk2)) := (hf_239 _ (by omega)).trans hc_215
        have hc_242 : σ_237 (g2 + 1) = q_rn G 3 4 (fun j => some (g2 + 10 + 2 * j)) := (hf_239 _ (by omega)).trans hc_216
        have hc_243 : σ_237 (g2 + 2) = o6 G (g2 + 2) (nI (b2)) (nI (sk2)) := (hf_239 _ (by omega)).trans hc_217
        have hc_244 : σ_237 (g2 + 2 + 1) = q_an G 8 kd2 := (hf_239 _ (by omega)).trans hc_218
        have hc_245 : σ_237 (g2 + 2 + 2) = q_an G 8 fi2 := (hf_239 _ (by omega)).trans hc_219
        have hc_246 : σ_237 (g2 + 2 + 3) = q_an G 8 se2 := (hf_239 _ (by omega)).trans hc_220
        have hc_247 : σ_237 (g2 + 2 + 4) = q_an G 8 tf2 := (hf_239 _ (by omega)).trans hc_221
        have hc_248 : σ_237 (g2 + 2 + 5) = q_an G 8 ts2 := (hf_239 _ (by omega)).trans hc_222
        have hc_249 : σ_237 (g2 + 8) = q_an G 10 ac2 := (hf_239 _ (by omega)).trans hc_223
        have hc_250 : σ_237 (g2 + 9) = q_an G 100 tu2 := (hf_239 _ (by omega)).trans hc_224
        have hc_251 : ∀ j9 : Nat, j9 < 4 → σ_237 (g2 + 10 + 2 * j9) = o7 G (g2 + 10 + 2 * j9) (lN (nm2 j9)) (lN (on2 j9)) (nI (sl2 j9)) (nI (mo2 j9)) (nI (nb2 j9)) := fun j9 hj0 => (hf_239 _ (by omega)).trans (hc_225 j9 (by omega))
        have hc_252 : ∀ j9 : Nat, j9 < 4 → σ_237 (g2 + 10 + 2 * j9 + 1) = q_an G 5 (bm2 j9) := fun j9 hj0 => (hf_239 _ (by omega)).trans (hc_226 j9 (by omega))
        have hc_253 : ∀ j9 : Nat, j9 < 4 → σ_237 (gb + 10 + 2 * j9) = o7 G (gb + 10 + 2 * j9) (lN (nm2 j9)) (lN (on2 j9)) (nI (sl2 j9)) (nI (mo2 j9)) (nI (nb2 j9)) := fun j9 hj0 => (hf_239 _ (by omega)).trans (hc_227 j9 (by omega))
        have hc_254 : ∀ j9 : Nat, j9 < 4 → σ_237 (gb + 10 + 2 * j9 + 1) = q_an G 5 (bm2 j9) := fun j9 hj0 => (hf_239 _ (by omega)).trans (hc_228 j9 (by omega))
        have hc_255 : σ_237 (gb + 2) = o6 G (gb + 2) (nI (b2)) (nI (sk2)) := (hf_239 _ (by omega)).trans hc_229
        have hc_256 : σ_237 ((gb + 2) + 1) = q_an G 8 kd2 := (hf_239 _ (by omega)).trans hc_230
        have hc_257 : σ_237 ((gb + 2) + 2) = q_an G 8 fi2 := (hf_239 _ (by omega)).trans hc_231
        have hc_258 : σ_237 ((gb + 2) + 3) = q_an G 8 se2 := (hf_239 _ (by omega)).trans hc_232
        have hc_259 : σ_237 ((gb + 2) + 4) = q_an G 8 tf2 := (hf_239 _ (by omega)).trans hc_233
        have hc_260 : σ_237 ((gb + 2) + 5) = q_an G 8 ts2 := (hf_239 _ (by omega)).trans hc_234
        have hc_261 : σ_237 (gb + 9) = q_an G 100 (va_cpy tu2 tu 0 0 100) := (hf_239 _ (by omega)).trans hc_236
        have hc_262 : σ_237 gb = o0 G (gb) (nI (rm2)) (nI (pl2)) (nI (tn2)) (nI (gm2)) (nI (tk2)) := (hf_239 _ (by omega)).trans hc_212
        refine A_canon tu2 hc_261 (fun jj hj => by unfold va_cpy; rw [if_pos (by omega)]; congr 1; omega) (fun σ_263 hc_264 hf_265 => ?_)
        have hc_266 : σ_263 (gb + 1) = q_rn G 3 4 (fun j => some (gb + 10 + 2 * j)) := (hf_265 _ (by omega)).trans hc_240
        have hc_267 : σ_263 g2 = o0 G (g2) (nI (rm2)) (nI (pl2)) (nI (tn2)) (nI (gm2)) (nI (tk2)) := (hf_265 _ (by omega)).trans hc_241
        have hc_268 : σ_263 (g2 + 1) = q_rn G 3 4 (fun j => some (g2 + 10 + 2 * j)) := (hf_265 _ (by omega)).trans hc_242
        have hc_269 : σ_263 (g2 + 2) = o6 G (g2 + 2) (nI (b2)) (nI (sk2)) := (hf_265 _ (by omega)).trans hc_243
        have hc_270 : σ_263 (g2 + 2 + 1) = q_an G 8 kd2 := (hf_265 _ (by omega)).trans hc_244
        have hc_271 : σ_263 (g2 + 2 + 2) = q_an G 8 fi2 := (hf_265 _ (by omega)).trans hc_245
        have hc_272 : σ_263 (g2 + 2 + 3) = q_an G 8 se2 := (hf_265 _ (by omega)).trans hc_246
        have hc_273 : σ_263 (g2 + 2 + 4) = q_an G 8 tf2 := (hf_265 _ (by omega)).trans hc_247
        have hc_274 : σ_263 (g2 + 2 + 5) = q_an G 8 ts2 := (hf_265 _ (by omega)).trans hc_248
        have hc_275 : σ_263 (g2 + 8) = q_an G 10 ac2 := (hf_265 _ (by omega)).trans hc_249
        have hc_276 : σ_263 (g2 + 9) = q_an G 100 tu2 := (hf_265 _ (by omega)).trans hc_250
        have hc_277 : ∀ j9 : Nat, j9 < 4 → σ_263 (g2 + 10 + 2 * j9) = o7 G (g2 + 10 + 2 * j9) (lN (nm2 j9)) (lN (on2 j9)) (nI (sl2 j9)) (nI (mo2 j9)) (nI (nb2 j9)) := fun j9 hj0 => (hf_265 _ (by omega)).trans (hc_251 j9 (by omega))
        have hc_278 : ∀ j9 : Nat, j9 < 4 → σ_263 (g2 + 10 + 2 * j9 + 1) = q_an G 5 (bm2 j9) := fun j9 hj0 => (hf_265 _ (by omega)).trans (hc_252 j9 (by omega))
        have hc_279 : ∀ j9 : Nat, j9 < 4 → σ_263 (gb + 10 + 2 * j9) = o7 G (gb + 10 + 2 * j9) (lN (nm2 j9)) (lN (on2 j9)) (nI (sl2 j9)) (nI (mo2 j9)) (nI (nb2 j9)) := fun j9 hj0 => (hf_265 _ (by omega)).trans (hc_253 j9 (by omega))
        have hc_280 : ∀ j9 : Nat, j9 < 4 → σ_263 (gb + 10 + 2 * j9 + 1) = q_an G 5 (bm2 j9) := fun j9 hj0 => (hf_265 _ (by omega)).trans (hc_254 j9 (by omega))
        have hc_281 : σ_263 (gb + 2) = o6 G (gb + 2) (nI (b2)) (nI (sk2)) := (hf_265 _ (by omega)).trans hc_255
        have hc_282 : σ_263 ((gb + 2) + 1) = q_an G 8 kd2 := (hf_265 _ (by omega)).trans hc_256
        have hc_283 : σ_263 ((gb + 2) + 2) = q_an G 8 fi2 := (hf_265 _ (by omega)).trans hc_257
        have hc_284 : σ_263 ((gb + 2) + 3) = q_an G 8 se2 := (hf_265 _ (by omega)).trans hc_258
        have hc_285 : σ_263 ((gb + 2) + 4) = q_an G 8 tf2 := (hf_265 _ (by omega)).trans hc_259
        have hc_286 : σ_263 ((gb + 2) + 5) = q_an G 8 ts2 := (hf_265 _ (by omega)).trans hc_260
        have hc_287 : σ_263 gb = o0 G (gb) (nI (rm2)) (nI (pl2)) (nI (tn2)) (nI (gm2)) (nI (tk2)) := (hf_265 _ (by omega)).trans hc_262
        have hc_288 : σ_263 (gb + 8) = q_an G 10 ac2 := (hf_265 _ (by omega)).trans hc_238
        rw [hQ]
        exact A_return hg (by decide) (by decide) rfl dX0_copyFrom_115 ⟨rfl, ⟨rfl, hc_287, hc_266, hc_281, hc_282, hc_283, hc_284, hc_285, hc_286, hc_288, hc_264, hc_279, hc_280, (fun i hi => ((hf_265 i (by omega)).trans ((hf_239 i (by omega)).trans ((hf_213 i (by omega)).trans ((hf_187 i (by omega)).trans ((hf_161 i (by omega)).trans ((hf_135 i (by omega)).trans ((hf_109 i (by omega)).trans ((hf_83 i (by omega)).trans ((hf_61 i (by omega)).trans ((hf_31 i (by omega)).trans (hf_26 i (by omega)))))))))))))⟩⟩
      · skip
        refine A_aload_n hg dX0_copyFrom_7 rfl rfl ?_
        refine A_getf (v := .ref (q_h G + (gb + 1))) hg fl_RX0_11 dX0_copyFrom_8 hc_2 (by omega) rfl ?_
        refine A_iload_n hg dX0_copyFrom_11 rfl rfl ?_
        refine A_aald (i := (gb + 10 + 2 * i)) hg dX0_copyFrom_12 hc_3 (by decide) rfl (by omega) (by omega) (by decide) rfl ?_
        refine A_aload_n hg dX0_copyFrom_13 rfl rfl ?_
        refine A_getf (v := .ref (q_h G + (g2 + 1))) hg fl_RX0_11 dX0_copyFrom_14 hc_14 (by omega) rfl ?_
        refine A_iload_n hg dX0_copyFrom_17 rfl rfl ?_
        refine A_aald (i := (g2 + 10 + 2 * i)) hg dX0_copyFrom_18 hc_15 (by decide) rfl (by omega) (by omega) (by decide) rfl ?_
        refine A_vV (kc2 := 0) (ks2 := 0) (As := [.ref (q_h G + (g2 + 10 + 2 * i))]) (rest := []) hg lk_RX0_74 in_X7_copyFrom se_X7_copyFrom rfl dX0_copyFrom_19 ⟨by decide, by decide⟩ rfl rfl ⟨by decide, by decide⟩ (hc_12 i (by omega)) (by omega) rfl rfl (Nat.le_of_ble_eq_true rfl) (c_X7_copyFrom G ex n σ_1 (gb + 10 + 2 * i) (x_mix i nm2 nm i) (x_mix i on2 on i) (x_mix i sl2 sl i) (x_mix i mo2 mo i) (x_mix i nb2 nb i) (x_mix i bm2 bm i) (g2 + 10 + 2 * i) (nm2 i) (on2 i) (sl2 i) (mo2 i) (nb2 i) (bm2 i) (hc_12 i (by omega)) (hc_13 i (by omega)) (hc_24 i (by omega)) (hc_25 i (by omega)) (by omega) (by omega) (by omega)) ?_
        rintro σ_292 ⟨hc_289, hc_290, hf_291⟩
        have hc_293 : σ_292 gb = o0 G (gb) (nI (rm)) (nI (pl)) (nI (tn)) (nI (gm)) (nI (tk)) := (hf_291 _ (by omega)).trans hc_2
        have hc_294 : σ_292 (gb + 1) = q_rn G 3 4 (fun j => some (gb + 10 + 2 * j)) := (hf_291 _ (by omega)).trans hc_3
        have hc_295 : σ_292 (gb + 2) = o6 G (gb + 2) (nI (b)) (nI (sk)) := (hf_291 _ (by omega)).trans hc_4
        have hc_296 : σ_292 (gb + 2 + 1) = q_an G 8 kd := (hf_291 _ (by omega)).trans hc_5
        have hc_297 : σ_292 (gb + 2 + 2) = q_an G 8 fi := (hf_291 _ (by omega)).trans hc_6
        have hc_298 : σ_292 (gb + 2 + 3) = q_an G 8 se := (hf_291 _ (by omega)).trans hc_7
        have hc_299 : σ_292 (gb + 2 + 4) = q_an G 8 tf := (hf_291 _ (by omega)).trans hc_8
        have hc_300 : σ_292 (gb + 2 + 5) = q_an G 8 ts := (hf_291 _ (by omega)).trans hc_9
        have hc_301 : σ_292 (gb + 8) = q_an G 10 ac := (hf_291 _ (by omega)).trans hc_10
        have hc_302 : σ_292 (gb + 9) = q_an G 100 tu := (hf_291 _ (by omega)).trans hc_11
        have hc_303 : ∀ j9 : Nat, j9 < 4 → j9 ≠ i → σ_292 (gb + 10 + 2 * j9) = o7 G (gb + 10 + 2 * j9) (lN (x_mix i nm2 nm j9)) (lN (x_mix i on2 on j9)) (nI (x_mix i sl2 sl j9)) (nI (x_mix i mo2 mo j9)) (nI (x_mix i nb2 nb j9)) := fun j9 hj0 hj1 => (hf_291 _ (by omega)).trans (hc_12 j9 (by omega))
        have hc_304 : ∀ j9 : Nat, j9 < 4 → j9 ≠ i → σ_292 (gb + 10 + 2 * j9 + 1) = q_an G 5 (x_mix i bm2 bm j9) := fun j9 hj0 hj1 => (hf_291 _ (by omega)).trans (hc_13 j9 (by omega))
        have hc_305 : σ_292 g2 = o0 G (g2) (nI (rm2)) (nI (pl2)) (nI (tn2)) (nI (gm2)) (nI (tk2)) := (hf_291 _ (by omega)).trans hc_14
        have hc_306 : σ_292 (g2 + 1) = q_rn G 3 4 (fun j => some (g2 + 10 + 2 * j)) := (hf_291 _ (by omega)).trans hc_15
        have hc_307 : σ_292 (g2 + 2) = o6 G (g2 + 2) (nI (b2)) (nI (sk2)) := (hf_291 _ (by omega)).trans hc_16
        have hc_308 : σ_292 (g2 + 2 + 1) = q_an G 8 kd2 := (hf_291 _ (by omega)).trans hc_17
        have hc_309 : σ_292 (g2 + 2 + 2) = q_an G 8 fi2 := (hf_291 _ (by omega)).trans hc_18
        have hc_310 : σ_292 (g2 + 2 + 3) = q_an G 8 se2 := (hf_291 _ (by omega)).trans hc_19
        have hc_311 : σ_292 (g2 + 2 + 4) = q_an G 8 tf2 := (hf_291 _ (by omega)).trans hc_20
        have hc_312 : σ_292 (g2 + 2 + 5) = q_an G 8 ts2 := (hf_291 _ (by omega)).trans hc_21
        have hc_313 : σ_292 (g2 + 8) = q_an G 10 ac2 := (hf_291 _ (by omega)).trans hc_22
        have hc_314 : σ_292 (g2 + 9) = q_an G 100 tu2 := (hf_291 _ (by omega)).trans hc_23
        have hc_315 : ∀ j9 : Nat, j9 < 4 → σ_292 (g2 + 10 + 2 * j9) = o7 G (g2 + 10 + 2 * j9) (lN (nm2 j9)) (lN (on2 j9)) (nI (sl2 j9)) (nI (mo2 j9)) (nI (nb2 j9)) := fun j9 hj0 => (hf_291 _ (by omega)).trans (hc_24 j9 (by omega))
        have hc_316 : ∀ j9 : Nat, j9 < 4 → σ_292 (g2 + 10 + 2 * j9 + 1) = q_an G 5 (bm2 j9) := fun j9 hj0 => (hf_291 _ (by omega)).trans (hc_25 j9 (by omega))
        have hc_317 : ∀ j9 : Nat, j9 < 4 → σ_292 (gb + 10 + 2 * j9) = o7 G (gb + 10 + 2 * j9) (lN (x_mix (i + 1) nm2 nm j9)) (lN (x_mix (i + 1) on2 on j9)) (nI (x_mix (i + 1) sl2 sl j9)) (nI (x_mix (i + 1) mo2 mo j9)) (nI (x_mix (i + 1) nb2 nb j9)) := by
          intro j9 hj0
          by_cases ej : j9 = i
          · rw [ej]; exact hc_289.trans (by simp only [x_mix_at])
          · exact (hc_303 j9 (by omega) ej).trans (by simp only [x_mix_ne ej])
        have hc_318 : ∀ j9 : Nat, j9 < 4 → σ_292 (gb + 10 + 2 * j9 + 1) = q_an G 5 (x_mix (i + 1) bm2 bm j9) := by
          intro j9 hj0
          by_cases ej : j9 = i
          · rw [ej]; exact hc_290.trans (by simp only [x_mix_at])
          · exact (hc_304 j9 (by omega) ej).trans (by simp only [x_mix_ne ej])
        refine A_iincN (k' := 1) hg dX0_copyFrom_22 (by decide) rfl (by decide) (q_c1d rfl) ?_
        refine A_eq (ls2 := [some (.ref (q_h G + gb)), some (.ref (q_h G + g2)), some (.int (nI (i + 1)))]) (st2 := []) (pc2 := 0) rfl rfl ?_
        refine A_goto (tgt := 2) hg dX0_copyFrom_25 (by decide) ?_
        exact ih2 (i + 1) σ_292 hc_293 hc_294 hc_295 hc_296 hc_297 hc_298 hc_299 hc_300 hc_301 hc_302 hc_317 hc_318 hc_305 hc_306 hc_307 hc_308 hc_309 hc_310 hc_311 hc_312 hc_313 hc_314 hc_315 hc_316 (fun i hi => ((hf_291 i (by omega)).trans (hf_26 i (by omega)))) (by omega) (by omega)
  exact hL2 _ 0 σ hc0 hc1 hc2 hc3 hc4 hc5 hc6 hc7 hc8 hc9 (fun j9 h9 => (hc10 j9 h9).trans (by simp only [x_mix_0])) (fun j9 h9 => (hc11 j9 h9).trans (by simp only [x_mix_0])) hc12 hc13 hc14 hc15 hc16 hc17 hc18 hc19 hc20 hc21 hc22 hc23 (fun _ _ => rfl) (Nat.zero_le _) (Nat.lt_succ_self _)
end
