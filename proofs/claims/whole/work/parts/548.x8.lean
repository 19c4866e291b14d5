section
set_option maxRecDepth 100000 in
set_option maxHeartbeats 4000000 in
theorem c_X8_valueAt (G : GL) (ex : Bool) (n : Nat) (σ : Nat → va_E) (tb : Nat) (fl : Nat) (n0 : Nat) (gv : Nat) (gs : Nat) (lm : Nat) (vs : Nat) (va : Nat → Nat) (x : Nat) (y : Nat) (hc0 : σ tb = o8 G (tb) (nI (fl)) (nI (n0)) (nI (gv)) (nI (gs)) (nI (lm)) (nI (vs))) (hc1 : σ (tb + 5) = q_an G 1681 va) (htb : tb + 7 < n) (hx : x ≤ 40) (hy : y ≤ 40) : Ct G yX8_valueAt cX8_valueAt 3 (some .int) ⟨0, 0, 0, 0⟩ [.ref (q_h G + tb), .int (nI (x)), .int (nI (y))] ex n σ (fun v9 σ2 => σ2 = σ ∧ v9 = some (.int (nI (va (x * 41 + y))))) := by
  refine q_enter [some (.ref (q_h G + tb)), some (.int (nI (x))), some (.int (nI (y)))] (by decide) (Nat.le_of_ble_eq_true rfl) rfl ?_
  intro K hg
  obtain ⟨Q, hQ⟩ : ∃ Q, Q = q_Q G K ex n 0 0 (fun v9 n' σ' => n' = n ∧ (fun v9 σ2 => σ2 = σ ∧ v9 = some (.int (nI (va (x * 41 + y))))) v9 σ') q_noX := ⟨_, rfl⟩
  refine (?_ : AJ G K (q_Q G K ex n 0 0 _ _) 0 0 ex n 0 _ _ σ)
  rw [← hQ]
  refine A_iload_n hg dX8_valueAt_0 rfl rfl ?_
  refine A_if_ltN (tgt := 34) hg dX8_valueAt_1 (by omega) (by decide) ?_
  refine A_iload_n hg dX8_valueAt_4 rfl rfl ?_
  refine A_bipush (v := (nI (41))) hg dX8_valueAt_5 (by decide) ?_
  refine A_icmp_geN (tgt := 34) hg dX8_valueAt_7 (by omega) (by decide) (by decide) (fun c7 => absurd c7 (by omega)) (fun c7 => ?_)
  refine A_iload_n hg dX8_valueAt_10 rfl rfl ?_
  refine A_if_ltN (tgt := 34) hg dX8_valueAt_11 (by omega) (by decide) ?_
  refine A_iload_n hg dX8_valueAt_14 rfl rfl ?_
  refine A_bipush (v := (nI (41))) hg dX8_valueAt_15 (by decide) ?_
  refine A_icmp_geN (tgt := 34) hg dX8_valueAt_17 (by omega) (by decide) (by decide) (fun c17 => absurd c17 (by omega)) (fun c17 => ?_)
  refine A_aload_n hg dX8_valueAt_20 rfl rfl ?_
  refine A_getf (v := .ref (q_h G + (tb + 5))) hg fl_RX8_33 dX8_valueAt_21 hc0 (by omega) rfl ?_
  refine A_iload_n hg dX8_valueAt_24 rfl rfl ?_
  refine A_bipush (v := (nI (41))) hg dX8_valueAt_25 (by decide) ?_
  refine A_imulN hg dX8_valueAt_27 ?_
  refine A_iload_n hg dX8_valueAt_28 rfl rfl ?_
  refine A_iaddN hg dX8_valueAt_29 ?_
  refine A_iald (j := ((x * 41) + y)) hg dX8_valueAt_30 hc1 (by omega) (by omega) (by decide) ?_
  refine A_goto (tgt := 35) hg dX8_valueAt_31 (by decide) ?_
  rw [hQ]
  exact A_ireturn hg (by decide) (by decide) rfl dX8_valueAt_35 ⟨rfl, ⟨rfl, rfl⟩⟩
set_option maxRecDepth 100000 in
set_option maxHeartbeats 4000000 in
theorem c_X8_spanAt (G : GL) (ex : Bool) (n : Nat) (σ : Nat → va_E) (tb : Nat) (fl : Nat) (n0 : Nat) (gv : Nat) (gs : Nat) (lm : Nat) (vs : Nat) (sp : Nat → Nat) (x : Nat) (y : Nat) (hc0 : σ tb = o8 G (tb) (nI (fl)) (nI (n0)) (nI (gv)) (nI (gs)) (nI (lm)) (nI (vs))) (hc1 : σ (tb + 6) = q_an G 1681 sp) (htb : tb + 7 < n) (hx : x ≤ 40) (hy : y ≤ 40) : Ct G yX8_spanAt cX8_spanAt 3 (some .int) ⟨0, 0, 0, 0⟩ [.ref (q_h G + tb), .int (nI (x)), .int (nI (y))] ex n σ (fun v9 σ2 => σ2 = σ ∧ v9 = some (.int (nI (sp (x * 41 + y))))) := by
  refine q_enter [some (.ref (q_h G + tb)), some (.int (nI (x))), some (.int (nI (y)))] (by decide) (Nat.le_of_ble_eq_true rfl) rfl ?_
  intro K hg
  obtain ⟨Q, hQ⟩ : ∃ Q, Q = q_Q G K ex n 0 0 (fun v9 n' σ' => n' = n ∧ (fun v9 σ2 => σ2 = σ ∧ v9 = some (.int (nI (sp (x * 41 + y))))) v9 σ') q_noX := ⟨_, rfl⟩
  refine (?_ : AJ G K (q_Q G K ex n 0 0 _ _) 0 0 ex n 0 _ _ σ)
  rw [← hQ]
  refine A_iload_n hg dX8_spanAt_0 rfl rfl ?_
  refine A_if_ltN (tgt := 34) hg dX8_spanAt_1 (by omega) (by decide) ?_
  refine A_iload_n hg dX8_spanAt_4 rfl rfl ?_
  refine A_bipush (v := (nI (41))) hg dX8_spanAt_5 (by decide) ?_
  refine A_icmp_geN (tgt := 34) hg dX8_spanAt_7 (by omega) (by decide) (by decide) (fun c7 => absurd c7 (by omega)) (fun c7 => ?_)
  refine A_iload_n hg dX8_spanAt_10 rfl rfl ?_
  refine A_if_ltN (tgt := 34) hg dX8_spanAt_11 (by omega) (by decide) ?_
  refine A_iload_n hg dX8_spanAt_14 rfl rfl ?_
  refine A_bipush (v := (nI (41))) hg dX8_spanAt_15 (by decide) ?_
  refine A_icmp_geN (tgt := 34) hg dX8_spanAt_17 (by omega) (by decide) (by decide) (fun c17 => absurd c17 (by omega)) (fun c17 => ?_)
  refine A_aload_n hg dX8_spanAt_20 rfl rfl ?_
  refine A_getf (v := .ref (q_h G + (tb + 6))) hg fl_RX8_36 dX8_spanAt_21 hc0 (by omega) rfl ?_
  refine A_iload_n hg dX8_spanAt_24 rfl rfl ?_
  refine A_bipush (v := (nI (41))) hg dX8_spanAt_25 (by decide) ?_
  refine A_imulN hg dX8_spanAt_27 ?_
  refine A_iload_n hg dX8_spanAt_28 rfl rfl ?_
  refine A_iaddN hg dX8_spanAt_29 ?_
  refine A_iald (j := ((x * 41) + y)) hg dX8_spanAt_30 hc1 (by omega) (by omega) (by decide) ?_
  refine A_goto (tgt := 35) hg dX8_spanAt_31 (by decide) ?_
  rw [hQ]
  exact A_ireturn hg (by decide) (by decide) rfl dX8_spanAt_35 ⟨rfl, ⟨rfl, rfl⟩⟩
set_option maxRecDepth 100000 in
set_option maxHeartbeats 4000000 in
theorem c_X8_settle (G : GL) (ex : Bool) (n : Nat) (σ : Nat → va_E) (tb : Nat) (fl : Nat) (n0 : Nat) (gv : Nat) (gs : Nat) (lm : Nat) (vs : Nat) (A : Nat → Bool) (skf : Nat → Nat) (slf : Nat → Nat) (va : Nat → Nat) (sp : Nat → Nat) (rf : Nat → Nat) (x : Nat) (y : Nat) (hc0 : σ tb = o8 G (tb) (nI (fl)) (nI (n0)) (nI (gv)) (nI (gs)) (nI (lm)) (nI (vs))) (hc1 : σ (tb + 3) = q_an G 1681 skf) (hc2 : σ (tb + 4) = q_an G 1681 slf) (hc3 : σ (tb + 5) = q_an G 1681 va) (hc4 : σ (tb + 6) = q_an G 1681 sp) (hc5 : σ (tb + 7) = q_an G 1681 rf) (htb : tb + 7 < n) (hA0 : A 0 = false) (hn : n0 = s_cnt A 1681) (hst : x_st A skf slf 1681) (hx : x ≤ 40) (hy : y ≤ 40) (hv : ∀ j : Nat, j < x * 41 + y → va j = s_val A j ∧ sp j = s_spn A j) (hsb : ∀ j : Nat, j < 1681 → sp j < 1681) (hrf : ∀ v : Nat, v < 1681 → rf v ≤ x * 41 + y) : Ct G yX8_settle cX8_settle 10 none ⟨0, 0, 0, 0⟩ [.ref (q_h G + tb), .int (nI (x)), .int (nI (y))] ex n σ (fun v9 σ2 => v9 = none ∧ ∃ (rf2 : Nat → Nat), (∀ v : Nat, v < 1681 → rf2 v ≤ x * 41 + y + 1) ∧ σ2 (tb + 5) = q_an G 1681 (va_up va (x * 41 + y) (s_val A (x * 41 + y))) ∧ σ2 (tb + 6) = q_an G 1681 (va_up sp (x * 41 + y) (s_spn A (x * 41 + y))) ∧ σ2 (tb + 7) = q_an G 1681 rf2 ∧ (∀ i : Nat, i ≠ tb + 5 ∧ i ≠ tb + 6 ∧ i ≠ tb + 7 → σ2 i = σ i)) := by
  refine q_enter [some (.ref (q_h G + tb)), some (.int (nI (x))), some (.int (nI (y))), none, none, none, none, none, none, none] (by decide) (Nat.le_of_ble_eq_true rfl) rfl ?_
  intro K hg
  obtain ⟨Q, hQ⟩ : ∃ Q, Q = q_Q G K ex n 0 0 (fun v9 n' σ' => n' = n ∧ (fun v9 σ2 => v9 = none ∧ ∃ (rf2 : Nat → Nat), (∀ v : Nat, v < 1681 → rf2 v ≤ x * 41 + y + 1) ∧ σ2 (tb + 5) = q_an G 1681 (va_up va (x * 41 + y) (s_val A (x * 41 + y))) ∧ σ2 (tb + 6) = q_an G 1681 (va_up sp (x * 41 + y) (s_spn A (x * 41 + y))) ∧ σ2 (tb + 7) = q_an G 1681 rf2 ∧ (∀ i : Nat, i ≠ tb + 5 ∧ i ≠ tb + 6 ∧ i ≠ tb + 7 → σ2 i = σ i)) v9 σ') q_noX := ⟨_, rfl⟩
  refine (?_ : AJ G K (q_Q G K ex n 0 0 _ _) 0 0 ex n 0 _ _ σ)
  rw [← hQ]
  have hcl := s_cnt_le A 1681
  refine A_iload_n hg dX8_settle_0 rfl rfl ?_
  refine A_bipush (v := (nI (41))) hg dX8_settle_1 (by decide) ?_
  refine A_imulN hg dX8_settle_3 ?_
  refine A_iload_n hg dX8_settle_4 rfl rfl ?_
  refine A_iaddN hg dX8_settle_5 ?_
  refine A_istore_n hg dX8_settle_6 rfl (by decide) (q_c1d rfl) ?_
  refine A_eq (ls2 := [some (.ref (q_h G + tb)), some (.int (nI (x))), some (.int (nI (y))), some (.int (nI ((x * 41) + y))), none, none, none, none, none, none]) (st2 := []) (pc2 := 0) rfl rfl ?_
  refine A_iconst (v := (q_d (0))) hg dX8_settle_7 (by decide) ?_
  refine A_istore hg dX8_settle_8 (by decide) (q_c1d rfl) ?_
  refine A_eq (ls2 := [some (.ref (q_h G + tb)), some (.int (nI (x))), some (.int (nI (y))), some (.int (nI ((x * 41) + y))), some (.int (q_d (0))), none, none, none, none, none]) (st2 := []) (pc2 := 0) rfl rfl ?_
  refine A_sipush (v := (nI (1681))) hg dX8_settle_10 (by decide) ?_
  refine A_istore hg dX8_settle_13 (by decide) (q_c1d rfl) ?_
  refine A_eq (ls2 := [some (.ref (q_h G + tb)), some (.int (nI (x))), some (.int (nI (y))), some (.int (nI ((x * 41) + y))), some (.int (q_d (0))), some (.int (nI (1681))), none, none, none, none]) (st2 := []) (pc2 := 0) rfl rfl ?_
  refine A_iconst (v := (nI (0))) hg dX8_settle_15 (by decide) ?_
  refine A_istore hg dX8_settle_16 (by decide) (q_c1d rfl) ?_
  refine A_eq (ls2 := [some (.ref (q_h G + tb)), some (.int (nI (x))), some (.int (nI (y))), some (.int (nI ((x * 41) + y))), some (.int (q_d (0))), some (.int (nI (1681))), some (.int (nI (0))), none, none, none]) (st2 := []) (pc2 := 0) rfl rfl ?_
  have hL18 : ∀ (fu : Nat) (i : Nat) (m : Nat) (fa : Nat) (nl : Nat) (r1 : Nat → Nat) (σ_1 : Nat → va_E), (σ_1 tb = o8 G (tb) (nI (fl)) (nI (n0)) (nI (gv)) (nI (gs)) (nI (lm)) (nI (vs))) → (σ_1 (tb + 3) = q_an G 1681 skf) → (σ_1 (tb + 4) = q_an G 1681 slf) → (σ_1 (tb + 5) = q_an G 1681 va) → (σ_1 (tb + 6) = q_an G 1681 sp) → (σ_1 (tb + 7) = q_an G 1681 r1) → (∀ i : Nat, i ≠ tb + 5 ∧ i ≠ tb + 6 ∧ i ≠ tb + 7 → σ_1 i = σ i) → (m ≤ 1681) → (i = s_cnt A m) → (x_mkd A va (x * 41 + y) m (x * 41 + y + 1) r1) → (fa = x_far A sp (x * 41 + y) m) → (nl = x_nl A va sp (x * 41 + y) m) → (fa ≤ 1681) → (nl ≤ 1681) → (1681 - i) < fu → AJ G K Q 0 0 ex n 18 [some (.ref (q_h G + tb)), some (.int (nI (x))), some (.int (nI (y))), some (.int (nI ((x * 41) + y))), some (.int (q_d (fa))), some (.int (nI (nl))), some (.int (nI (i))), none, none, none] [] σ_1 := by
    intro fu
    induction fu with
    | zero => intro i m fa nl r1 σ_1 hc_2 hc_3 hc_4 hc_5 hc_6 hc_7 hf_8 hm hi hmk hfa hnl hfb hnb hm; exact absurd hm (Nat.not_lt_zero _)
    | succ fu ih18 =>
      intro i m fa nl r1 σ_1 hc_2 hc_3 hc_4 hc_5 hc_6 hc_7 hf_8 hm hi hmk hfa hnl hfb hnb hm18
      have hcm := s_cnt_le A m
      refine A_iload hg dX8_settle_18 rfl ?_
      refine A_aload_n hg dX8_settle_20 rfl rfl ?_
      refine A_getf (v := .int (nI (n0))) hg fl_RX8_29 dX8_settle_21 hc_2 (by omega) rfl ?_
      refine A_icmp_geN (tgt := 145) hg dX8_settle_24 (by omega) (by omega) (by decide) (fun c24 => ?_) (fun c24 => ?_)
      · skip
        have hend : ∀ q : Nat, m ≤ q → q < 1681 → s_mv A (x * 41 + y) q = false := by
          first
          | exact fun q a b => x_mv_na (x_none (by omega) q a b)
          | exact fun q a b => (by by_cases z : q < j; exact x_mv_na (hgap q a z); exact x_mv_f hy (Or.inl (by omega)))
        have hmk9 := x_mk_skip hmk hm hend
        have hfa9 : fa = x_far A sp (x * 41 + y) 1681 := by rw [x_far_skip _ hm hend]; exact hfa
        have hnl9 : nl = x_nl A va sp (x * 41 + y) 1681 := by rw [x_nl_skip _ hm hend]; exact hnl
        refine A_iconst (v := (nI (0))) hg dX8_settle_145 (by decide) ?_
        refine A_istore hg dX8_settle_146 (by decide) (q_c1d rfl) ?_
        refine A_eq (ls2 := [some (.ref (q_h G + tb)), some (.int (nI (x))), some (.int (nI (y))), some (.int (nI ((x * 41) + y))), some (.int (q_d (fa))), some (.int (nI (nl))), some (.int (nI (0))), none, none, none]) (st2 := []) (pc2 := 0) rfl rfl ?_
        have hL148 : ∀ (fu : Nat) (l : Nat), (l ≤ 1681) → (∀ v : Nat, v < l → s_rch A va (x * 41 + y) 1681 v = true) → (1681 - l) < fu → AJ G K Q 0 0 ex n 148 [some (.ref (q_h G + tb)), some (.int (nI (x))), some (.int (nI (y))), some (.int (nI ((x * 41) + y))), some (.int (q_d (fa))), some (.int (nI (nl))), some (.int (nI (l))), none, none, none] [] σ_1 := by
          intro fu
          induction fu with
          | zero => intro l hl hall hm; exact absurd hm (Nat.not_lt_zero _)
          | succ fu ih148 =>
            intro l hl hall hm148
            refine A_iload hg dX8_settle_148 rfl ?_
            refine A_sipush (v := (nI (1681))) hg dX8_settle_150 (by decide) ?_
            refine A_icmp_geN (tgt := 175) hg dX8_settle_153 (by omega) (by decide) (by decide) (fun c153 => ?_) (fun c153 => ?_)
            · skip
              have hL : l = s_val A (x * 41 + y) := by rw [← s_mex_eq hA0 (fun j hj => (hv j hj).1)]; exact (x_least hmk9 hl hall (by first | exact Or.inl (by omega) | exact Or.inr c166)).symm
              refine A_aload_n hg dX8_settle_175 rfl rfl ?_
              refine A_getf (v := .ref (q_h G + (tb + 5))) hg fl_RX8_33 dX8_settle_176 hc_2 (by omega) rfl ?_
              refine A_iload_n hg dX8_settle_179 rfl rfl ?_
              refine A_iload hg dX8_settle_180 rfl ?_
              refine A_iast (j := ((x * 41) + y)) (x := l) hg dX8_settle_182 hc_5 (by omega) (by omega) (by decide) (fun σ_9 hc_10 hf_11 => ?_)
              have hc_12 : σ_9 tb = o8 G (tb) (nI (fl)) (nI (n0)) (nI (gv)) (nI (gs)) (nI (lm)) (nI (vs)) := (hf_11 _ (by omega)).trans hc_2
              have hc_13 : σ_9 (tb + 3) = q_an G 1681 skf := (hf_11 _ (by omega)).trans hc_3
              have hc_14 : σ_9 (tb + 4) = q_an G 1681 slf := (hf_11 _ (by omega)).trans hc_4
              have hc_15 : σ_9 (tb + 6) = q_an G 1681 sp := (hf_11 _ (by omega)).trans hc_6
              have hc_16 : σ_9 (tb + 7) = q_an G 1681 r1 := (hf_11 _ (by omega)).trans hc_7
              refine A_aload_n hg dX8_settle_183 rfl rfl ?_
              refine A_getf (v := .ref (q_h G + (tb + 6))) hg fl_RX8_36 dX8_settle_184 hc_12 (by omega) rfl ?_
              refine A_iload_n hg dX8_settle_187 rfl rfl ?_
              refine A_iload hg dX8_settle_188 rfl ?_
              refine A_if_neN (tgt := 200) hg dX8_settle_190 (by omega) (by decide) (fun c190 => ?_) (fun c190 => ?_)
              · skip
                refine A_iload hg dX8_settle_200 rfl ?_
                refine A_iconst (v := (nI (1))) hg dX8_settle_202 (by decide) ?_
                refine A_iaddN hg dX8_settle_203 ?_
                refine A_iast (j := ((x * 41) + y)) (x := (nl + 1)) hg dX8_settle_204 hc_15 (by omega) (by omega) (by decide) (fun σ_17 hc_18 hf_19 => ?_)
                have hc_20 : σ_17 tb = o8 G (tb) (nI (fl)) (nI (n0)) (nI (gv)) (nI (gs)) (nI (lm)) (nI (vs)) := (hf_19 _ (by omega)).trans hc_12
                have hc_21 : σ_17 (tb + 3) = q_an G 1681 skf := (hf_19 _ (by omega)).trans hc_13
                have hc_22 : σ_17 (tb + 4) = q_an G 1681 slf := (hf_19 _ (by omega)).trans hc_14
                have hc_23 : σ_17 (tb + 7) = q_an G 1681 r1 := (hf_19 _ (by omega)).trans hc_16
                have hc_24 : σ_17 (tb + 5) = q_an G 1681 (va_up va ((x * 41) + y) l) := (hf_19 _ (by omega)).trans hc_10
                refine A_canon (va_up va (x * 41 + y) (s_val A (x * 41 + y))) hc_24 (fun jj _ => by rw [hL]) (fun σ_25 hc_26 hf_27 => ?_)
                have hc_28 : σ_25 tb = o8 G (tb) (nI (fl)) (nI (n0)) (nI (gv)) (nI (gs)) (nI (lm)) (nI (vs)) := (hf_27 _ (by omega)).trans hc_20
                have hc_29 : σ_25 (tb + 3) = q_an G 1681 skf := (hf_27 _ (by omega)).trans hc_21
                have hc_30 : σ_25 (tb + 4) = q_an G 1681 slf := (hf_27 _ (by omega)).trans hc_22
                have hc_31 : σ_25 (tb + 7) = q_an G 1681 r1 := (hf_27 _ (by omega)).trans hc_23
                have hc_32 : σ_25 (tb + 6) = q_an G 1681 (va_up sp ((x * 41) + y) (nl + 1)) := (hf_27 _ (by omega)).trans hc_18
                have hspn : s_spn A (x * 41 + y) = nl + 1 := by rw [x_span hA0 (by omega) hv hsb, ← hL, if_neg c190, ← hnl9]
                refine A_canon (va_up sp (x * 41 + y) (s_spn A (x * 41 + y))) hc_32 (fun jj _ => by rw [hspn]) (fun σ_33 hc_34 hf_35 => ?_)
                have hc_36 : σ_33 tb = o8 G (tb) (nI (fl)) (nI (n0)) (nI (gv)) (nI (gs)) (nI (lm)) (nI (vs)) := (hf_35 _ (by omega)).trans hc_28
                have hc_37 : σ_33 (tb + 3) = q_an G 1681 skf := (hf_35 _ (by omega)).trans hc_29
                have hc_38 : σ_33 (tb + 4) = q_an G 1681 slf := (hf_35 _ (by omega)).trans hc_30
                have hc_39 : σ_33 (tb + 7) = q_an G 1681 r1 := (hf_35 _ (by omega)).trans hc_31
                have hc_40 : σ_33 (tb + 5) = q_an G 1681 (va_up va (x * 41 + y) (s_val A (x * 41 + y))) := (hf_35 _ (by omega)).trans hc_26
                rw [hQ]
                exact A_return hg (by decide) (by decide) rfl dX8_settle_205 ⟨rfl, ⟨rfl, r1, (fun v hv => (hmk9 v hv).1), hc_40, hc_34, hc_39, (fun i hi => ((hf_35 i (by omega)).trans ((hf_27 i (by omega)).trans ((hf_19 i (by omega)).trans ((hf_11 i (by omega)).trans (hf_8 i (by omega)))))))⟩⟩
              · skip
                refine A_iload hg dX8_settle_193 rfl ?_
                refine A_iconst (v := (nI (1))) hg dX8_settle_195 (by decide) ?_
                refine A_iaddM hg dX8_settle_196 ?_
                refine A_goto (tgt := 204) hg dX8_settle_197 (by decide) ?_
                refine A_iast (j := ((x * 41) + y)) (x := fa) hg dX8_settle_204 hc_15 (by omega) (by omega) (by decide) (fun σ_41 hc_42 hf_43 => ?_)
                have hc_44 : σ_41 tb = o8 G (tb) (nI (fl)) (nI (n0)) (nI (gv)) (nI (gs)) (nI (lm)) (nI (vs)) := (hf_43 _ (by omega)).trans hc_12
                have hc_45 : σ_41 (tb + 3) = q_an G 1681 skf := (hf_43 _ (by omega)).trans hc_13
                have hc_46 : σ_41 (tb + 4) = q_an G 1681 slf := (hf_43 _ (by omega)).trans hc_14
                have hc_47 : σ_41 (tb + 7) = q_an G 1681 r1 := (hf_43 _ (by omega)).trans hc_16
                have hc_48 : σ_41 (tb + 5) = q_an G 1681 (va_up va ((x * 41) + y) l) := (hf_43 _ (by omega)).trans hc_10
                refine A_canon (va_up va (x * 41 + y) (s_val A (x * 41 + y))) hc_48 (fun jj _ => by rw [hL]) (fun σ_49 hc_50 hf_51 => ?_)
                have hc_52 : σ_49 tb = o8 G (tb) (nI (fl)) (nI (n0)) (nI (gv)) (nI (gs)) (nI (lm)) (nI (vs)) := (hf_51 _ (by omega)).trans hc_44
                have hc_53 : σ_49 (tb + 3) = q_an G 1681 skf := (hf_51 _ (by omega)).trans hc_45
                have hc_54 : σ_49 (tb + 4) = q_an G 1681 slf := (hf_51 _ (by omega)).trans hc_46
                have hc_55 : σ_49 (tb + 7) = q_an G 1681 r1 := (hf_51 _ (by omega)).trans hc_47
                have hc_56 : σ_49 (tb + 6) = q_an G 1681 (va_up sp ((x * 41) + y) fa) := (hf_51 _ (by omega)).trans hc_42
                have hspn : s_spn A (x * 41 + y) = fa := by rw [x_span hA0 (by omega) hv hsb, ← hL, if_pos c190, ← hfa9]
                refine A_canon (va_up sp (x * 41 + y) (s_spn A (x * 41 + y))) hc_56 (fun jj _ => by rw [hspn]) (fun σ_57 hc_58 hf_59 => ?_)
                have hc_60 : σ_57 tb = o8 G (tb) (nI (fl)) (nI (n0)) (nI (gv)) (nI (gs)) (nI (lm)) (nI (vs)) := (hf_59 _ (by omega)).trans hc_52
                have hc_61 : σ_57 (tb + 3) = q_an G 1681 skf := (hf_59 _ (by omega)).trans hc_53
                have hc_62 : σ_57 (tb + 4) = q_an G 1681 slf := (hf_59 _ (by omega)).trans hc_54
                have hc_63 : σ_57 (tb + 7) = q_an G 1681 r1 := (hf_59 _ (by omega)).trans hc_55
                have hc_64 : σ_57 (tb + 5) = q_an G 1681 (va_up va (x * 41 + y) (s_val A (x * 41 + y))) := (hf_59 _ (by omega)).trans hc_50
                rw [hQ]
                exact A_return hg (by decide) (by decide) rfl dX8_settle_205 ⟨rfl, ⟨rfl, r1, (fun v hv => (hmk9 v hv).1), hc_64, hc_58, hc_63, (fun i hi => ((hf_59 i (by omega)).trans ((hf_51 i (by omega)).trans ((hf_43 i (by omega)).trans ((hf_11 i (by omega)).trans (hf_8 i (by omega)))))))⟩⟩
            · skip
              have hml := (hmk9 l (by omega)).1
              refine A_aload_n hg dX8_settle_156 rfl rfl ?_
              refine A_getf (v := .ref (q_h G + (tb + 7))) hg fl_RX8_39 dX8_settle_157 hc_2 (by omega) rfl ?_
              refine A_iload hg dX8_settle_160 rfl ?_
              refine A_iald (j := l) hg dX8_settle_162 hc_7 (by omega) (by omega) (by decide) ?_
              refine A_iload_n hg dX8_settle_163 rfl rfl ?_
              refine A_iconst (v := (nI (1))) hg dX8_settle_164 (by decide) ?_
              refine A_iaddN hg dX8_settle_165 ?_
              refine A_icmp_neN (tgt := 175) hg dX8_settle_166 (by omega) (by omega) (by decide) (fun c166 => ?_) (fun c166 => ?_)
              · skip
                have hL : l = s_val A (x * 41 + y) := by rw [← s_mex_eq hA0 (fun j hj => (hv j hj).1)]; exact (x_least hmk9 hl hall (by first | exact Or.inl (by omega) | exact Or.inr c166)).symm
                refine A_aload_n hg dX8_settle_175 rfl rfl ?_
                refine A_getf (v := .ref (q_h G + (tb + 5))) hg fl_RX8_33 dX8_settle_176 hc_2 (by omega) rfl ?_
                refine A_iload_n hg dX8_settle_179 rfl rfl ?_
                refine A_iload hg dX8_settle_180 rfl ?_
                refine A_iast (j := ((x * 41) + y)) (x := l) hg dX8_settle_182 hc_5 (by omega) (by omega) (by decide) (fun σ_65 hc_66 hf_67 => ?_)
                have hc_68 : σ_65 tb = o8 G (tb) (nI (fl)) (nI (n0)) (nI (gv)) (nI (gs)) (nI (lm)) (nI (vs)) := (hf_67 _ (by omega)).trans hc_2
                have hc_69 : σ_65 (tb + 3) = q_an G 1681 skf := (hf_67 _ (by omega)).trans hc_3
                have hc_70 : σ_65 (tb + 4) = q_an G 1681 slf := (hf_67 _ (by omega)).trans hc_4
                have hc_71 : σ_65 (tb + 6) = q_an G 1681 sp := (hf_67 _ (by omega)).trans hc_6
                have hc_72 : σ_65 (tb + 7) = q_an G 1681 r1 := (hf_67 _ (by omega)).trans hc_7
                refine A_aload_n hg dX8_settle_183 rfl rfl ?_
                refine A_getf (v := .ref (q_h G + (tb + 6))) hg fl_RX8_36 dX8_settle_184 hc_68 (by omega) rfl ?_
                refine A_iload_n hg dX8_settle_187 rfl rfl ?_
                refine A_iload hg dX8_settle_188 rfl ?_
                refine A_if_neN (tgt := 200) hg dX8_settle_190 (by omega) (by decide) (fun c190 => ?_) (fun c190 => ?_)
                · skip
                  refine A_iload hg dX8_settle_200 rfl ?_
                  refine A_iconst (v := (nI (1))) hg dX8_settle_202 (by decide) ?_
                  refine A_iaddN hg dX8_settle_203 ?_
                  refine A_iast (j := ((x * 41) + y)) (x := (nl + 1)) hg dX8_settle_204 hc_71 (by omega) (by omega) (by decide) (fun σ_73 hc_74 hf_75 => ?_)
                  have hc_76 : σ_73 tb = o8 G (tb) (nI (fl)) (nI (n0)) (nI (gv)) (nI (gs)) (nI (lm)) (nI (vs)) := (hf_75 _ (by omega)).trans hc_68
                  have hc_77 : σ_73 (tb + 3) = q_an G 1681 skf := (hf_75 _ (by omega)).trans hc_69
                  have hc_78 : σ_73 (tb + 4) = q_an G 1681 slf := (hf_75 _ (by omega)).trans hc_70
                  have hc_79 : σ_73 (tb + 7) = q_an G 1681 r1 := (hf_75 _ (by omega)).trans hc_72
                  have hc_80 : σ_73 (tb + 5) = q_an G 1681 (va_up va ((x * 41) + y) l) := (hf_75 _ (by omega)).trans hc_66
                  refine A_canon (va_up va (x * 41 + y) (s_val A (x * 41 + y))) hc_80 (fun jj _ => by rw [hL]) (fun σ_81 hc_82 hf_83 => ?_)
                  have hc_84 : σ_81 tb = o8 G (tb) (nI (fl)) (nI (n0)) (nI (gv)) (nI (gs)) (nI (lm)) (nI (vs)) := (hf_83 _ (by omega)).trans hc_76
                  have hc_85 : σ_81 (tb + 3) = q_an G 1681 skf := (hf_83 _ (by omega)).trans hc_77
                  have hc_86 : σ_81 (tb + 4) = q_an G 1681 slf := (hf_83 _ (by omega)).trans hc_78
                  have hc_87 : σ_81 (tb + 7) = q_an G 1681 r1 := (hf_83 _ (by omega)).trans hc_79
                  have hc_88 : σ_81 (tb + 6) = q_an G 1681 (va_up sp ((x * 41) + y) (nl + 1)) := (hf_83 _ (by omega)).trans hc_74
                  have hspn : s_spn A (x * 41 + y) = nl + 1 := by rw [x_span hA0 (by omega) hv hsb, ← hL, if_neg c190, ← hnl9]
                  refine A_canon (va_up sp (x * 41 + y) (s_spn A (x * 41 + y))) hc_88 (fun jj _ => by rw [hspn]) (fun σ_89 hc_90 hf_91 => ?_)
                  have hc_92 : σ_89 tb = o8 G (tb) (nI (fl)) (nI (n0)) (nI (gv)) (nI (gs)) (nI (lm)) (nI (vs)) := (hf_91 _ (by omega)).trans hc_84
                  have hc_93 : σ_89 (tb + 3) = q_an G 1681 skf := (hf_91 _ (by omega)).trans hc_85
                  have hc_94 : σ_89 (tb + 4) = q_an G 1681 slf := (hf_91 _ (by omega)).trans hc_86
                  have hc_95 : σ_89 (tb + 7) = q_an G 1681 r1 := (hf_91 _ (by omega)).trans hc_87
                  have hc_96 : σ_89 (tb + 5) = q_an G 1681 (va_up va (x * 41 + y) (s_val A (x * 41 + y))) := (hf_91 _ (by omega)).trans hc_82
                  rw [hQ]
                  exact A_return hg (by decide) (by decide) rfl dX8_settle_205 ⟨rfl, ⟨rfl, r1, (fun v hv => (hmk9 v hv).1), hc_96, hc_90, hc_95, (fun i hi => ((hf_91 i (by omega)).trans ((hf_83 i (by omega)).trans ((hf_75 i (by omega)).trans ((hf_67 i (by omega)).trans (hf_8 i (by omega)))))))⟩⟩
                · skip
                  refine A_iload hg dX8_settle_193 rfl ?_
                  refine A_iconst (v := (nI (1))) hg dX8_settle_195 (by decide) ?_
                  refine A_iaddM hg dX8_settle_196 ?_
                  refine A_goto (tgt := 204) hg dX8_settle_197 (by decide) ?_
                  refine A_iast (j := ((x * 41) + y)) (x := fa) hg dX8_settle_204 hc_71 (by omega) (by omega) (by decide) (fun σ_97 hc_98 hf_99 => ?_)
                  have hc_100 : σ_97 tb = o8 G (tb) (nI (fl)) (nI (n0)) (nI (gv)) (nI (gs)) (nI (lm)) (nI (vs)) := (hf_99 _ (by omega)).trans hc_68
                  have hc_101 : σ_97 (tb + 3) = q_an G 1681 skf := (hf_99 _ (by omega)).trans hc_69
                  have hc_102 : σ_97 (tb + 4) = q_an G 1681 slf := (hf_99 _ (by omega)).trans hc_70
                  have hc_103 : σ_97 (tb + 7) = q_an G 1681 r1 := (hf_99 _ (by omega)).trans hc_72
                  have hc_104 : σ_97 (tb + 5) = q_an G 1681 (va_up va ((x * 41) + y) l) := (hf_99 _ (by omega)).trans hc_66
                  refine A_canon (va_up va (x * 41 + y) (s_val A (x * 41 + y))) hc_104 (fun jj _ => by rw [hL]) (fun σ_105 hc_106 hf_107 => ?_)
                  have hc_108 : σ_105 tb = o8 G (tb) (nI (fl)) (nI (n0)) (nI (gv)) (nI (gs)) (nI (lm)) (nI (vs)) := (hf_107 _ (by omega)).trans hc_100
                  have hc_109 : σ_105 (tb + 3) = q_an G 1681 skf := (hf_107 _ (by omega)).trans hc_101
                  have hc_110 : σ_105 (tb + 4) = q_an G 1681 slf := (hf_107 _ (by omega)).trans hc_102
                  have hc_111 : σ_105 (tb + 7) = q_an G 1681 r1 := (hf_107 _ (by omega)).trans hc_103
                  have hc_112 : σ_105 (tb + 6) = q_an G 1681 (va_up sp ((x * 41) + y) fa) := (hf_107 _ (by omega)).trans hc_98
                  have hspn : s_spn A (x * 41 + y) = fa := by rw [x_span hA0 (by omega) hv hsb, ← hL, if_pos c190, ← hfa9]
                  refine A_canon (va_up sp (x * 41 + y) (s_spn A (x * 41 + y))) hc_112 (fun jj _ => by rw [hspn]) (fun σ_113 hc_114 hf_115 => ?_)
                  have hc_116 : σ_113 tb = o8 G (tb) (nI (fl)) (nI (n0)) (nI (gv)) (nI (gs)) (nI (lm)) (nI (vs)) := (hf_115 _ (by omega)).trans hc_108
                  have hc_117 : σ_113 (tb + 3) = q_an G 1681 skf := (hf_115 _ (by omega)).trans hc_109
                  have hc_118 : σ_113 (tb + 4) = q_an G 1681 slf := (hf_115 _ (by omega)).trans hc_110
                  have hc_119 : σ_113 (tb + 7) = q_an G 1681 r1 := (hf_115 _ (by omega)).trans hc_111
                  have hc_120 : σ_113 (tb + 5) = q_an G 1681 (va_up va (x * 41 + y) (s_val A (x * 41 + y))) := (hf_115 _ (by omega)).trans hc_106
                  rw [hQ]
                  exact A_return hg (by decide) (by decide) rfl dX8_settle_205 ⟨rfl, ⟨rfl, r1, (fun v hv => (hmk9 v hv).1), hc_120, hc_114, hc_119, (fun i hi => ((hf_115 i (by omega)).trans ((hf_107 i (by omega)).trans ((hf_99 i (by omega)).trans ((hf_67 i (by omega)).trans (hf_8 i (by omega)))))))⟩⟩
              · skip
                refine A_iincN (k' := 1) hg dX8_settle_169 (by decide) rfl (by decide) (q_c1d rfl) ?_
                refine A_eq (ls2 := [some (.ref (q_h G + tb)), some (.int (nI (x))), some (.int (nI (y))), some (.int (nI ((x * 41) + y))), some (.int (q_d (fa))), some (.int (nI (nl))), some (.int (nI (l + 1))), none, none, none]) (st2 := []) (pc2 := 0) rfl rfl ?_
                refine A_goto (tgt := 148) hg dX8_settle_172 (by decide) ?_
                exact ih148 (l + 1) (by omega) (lt_s hall ((hmk9 l (by omega)).2.mp c166)) (by omega)
        exact hL148 _ 0 (Nat.zero_le _) (fun v h => absurd h (Nat.not_lt_zero v)) (Nat.lt_succ_self _)
      · skip
        obtain ⟨j, hmj, hj, hAj, hcj, hgap⟩ := x_next (A := A) (M := 1681) _ m i rfl hi.symm (by omega)
        obtain ⟨hsk, hsl⟩ := hst j hj hAj
        rw [hcj] at hsk hsl
        have hgm : ∀ q : Nat, m ≤ q → q < j → s_mv A (x * 41 + y) q = false := fun q a b => x_mv_na (hgap q a b)
        refine A_aload_n hg dX8_settle_27 rfl rfl ?_
        refine A_getf (v := .ref (q_h G + (tb + 3))) hg fl_RX8_22 dX8_settle_28 hc_2 (by omega) rfl ?_
        refine A_iload hg dX8_settle_31 rfl ?_
        refine A_iald (j := i) hg dX8_settle_33 hc_3 (by omega) (by omega) (by decide) ?_
        refine A_top (w := .int (nI (j / 41))) (by rw [hsk]) ?_
        refine A_iload_n hg dX8_settle_34 rfl rfl ?_
        refine A_icmp_gtN (tgt := 145) hg dX8_settle_35 (by omega) (by omega) (by decide) (fun c35 => ?_) (fun c35 => ?_)
        · skip
          have hend : ∀ q : Nat, m ≤ q → q < 1681 → s_mv A (x * 41 + y) q = false := by
            first
            | exact fun q a b => x_mv_na (x_none (by omega) q a b)
            | exact fun q a b => (by by_cases z : q < j; exact x_mv_na (hgap q a z); exact x_mv_f hy (Or.inl (by omega)))
          have hmk9 := x_mk_skip hmk hm hend
          have hfa9 : fa = x_far A sp (x * 41 + y) 1681 := by rw [x_far_skip _ hm hend]; exact hfa
          have hnl9 : nl = x_nl A va sp (x * 41 + y) 1681 := by rw [x_nl_skip _ hm hend]; exact hnl
          refine A_iconst (v := (nI (0))) hg dX8_settle_145 (by decide) ?_
          refine A_istore hg dX8_settle_146 (by decide) (q_c1d rfl) ?_
          refine A_eq (ls2 := [some (.ref (q_h G + tb)), some (.int (nI (x))), some (.int (nI (y))), some (.int (nI ((x * 41) + y))), some (.int (q_d (fa))), some (.int (nI (nl))), some (.int (nI (0))), none, none, none]) (st2 := []) (pc2 := 0) rfl rfl ?_
          have hL148 : ∀ (fu : Nat) (l : Nat), (l ≤ 1681) → (∀ v : Nat, v < l → s_rch A va (x * 41 + y) 1681 v = true) → (1681 - l) < fu → AJ G K Q 0 0 ex n 148 [some (.ref (q_h G + tb)), some (.int (nI (x))), some (.int (nI (y))), some (.int (nI ((x * 41) + y))), some (.int (q_d (fa))), some (.int (nI (nl))), some (.int (nI (l))), none, none, none] [] σ_1 := by
            intro fu
            induction fu with
            | zero => intro l hl hall hm; exact absurd hm (Nat.not_lt_zero _)
            | succ fu ih148 =>
              intro l hl hall hm148
              refine A_iload hg dX8_settle_148 rfl ?_
              refine A_sipush (v := (nI (1681))) hg dX8_settle_150 (by decide) ?_
              refine A_icmp_geN (tgt := 175) hg dX8_settle_153 (by omega) (by decide) (by decide) (fun c153 => ?_) (fun c153 => ?_)
              · skip
                have hL : l = s_val A (x * 41 + y) := by rw [← s_mex_eq hA0 (fun j hj => (hv j hj).1)]; exact (x_least hmk9 hl hall (by first | exact Or.inl (by omega) | exact Or.inr c166)).symm
                refine A_aload_n hg dX8_settle_175 rfl rfl ?_
                refine A_getf (v := .ref (q_h G + (tb + 5))) hg fl_RX8_33 dX8_settle_176 hc_2 (by omega) rfl ?_
                refine A_iload_n hg dX8_settle_179 rfl rfl ?_
                refine A_iload hg dX8_settle_180 rfl ?_
                refine A_iast (j := ((x * 41) + y)) (x := l) hg dX8_settle_182 hc_5 (by omega) (by omega) (by decide) (fun σ_121 hc_122 hf_123 => ?_)
                have hc_124 : σ_121 tb = o8 G (tb) (nI (fl)) (nI (n0)) (nI (gv)) (nI (gs)) (nI (lm)) (nI (vs)) := (hf_123 _ (by omega)).trans hc_2
                have hc_125 : σ_121 (tb + 3) = q_an G 1681 skf := (hf_123 _ (by omega)).trans hc_3
                have hc_126 : σ_121 (tb + 4) = q_an G 1681 slf := (hf_123 _ (by omega)).trans hc_4
                have hc_127 : σ_121 (tb + 6) = q_an G 1681 sp := (hf_123 _ (by omega)).trans hc_6
                have hc_128 : σ_121 (tb + 7) = q_an G 1681 r1 := (hf_123 _ (by omega)).trans hc_7
                refine A_aload_n hg dX8_settle_183 rfl rfl ?_
                refine A_getf (v := .ref (q_h G + (tb + 6))) hg fl_RX8_36 dX8_settle_184 hc_124 (by omega) rfl ?_
                refine A_iload_n hg dX8_settle_187 rfl rfl ?_
                refine A_iload hg dX8_settle_188 rfl ?_
                refine A_if_neN (tgt := 200) hg dX8_settle_190 (by omega) (by decide) (fun c190 => ?_) (fun c190 => ?_)
                · skip
                  refine A_iload hg dX8_settle_200 rfl ?_
                  refine A_iconst (v := (nI (1))) hg dX8_settle_202 (by decide) ?_
                  refine A_iaddN hg dX8_settle_203 ?_
                  refine A_iast (j := ((x * 41) + y)) (x := (nl + 1)) hg dX8_settle_204 hc_127 (by omega) (by omega) (by decide) (fun σ_129 hc_130 hf_131 => ?_)
                  have hc_132 : σ_129 tb = o8 G (tb) (nI (fl)) (nI (n0)) (nI (gv)) (nI (gs)) (nI (lm)) (nI (vs)) := (hf_131 _ (by omega)).trans hc_124
                  have hc_133 : σ_129 (tb + 3) = q_an G 1681 skf := (hf_131 _ (by omega)).trans hc_125
                  have hc_134 : σ_129 (tb + 4) = q_an G 1681 slf := (hf_131 _ (by omega)).trans hc_126
                  have hc_135 : σ_129 (tb + 7) = q_an G 1681 r1 := (hf_131 _ (by omega)).trans hc_128
                  have hc_136 : σ_129 (tb + 5) = q_an G 1681 (va_up va ((x * 41) + y) l) := (hf_131 _ (by omega)).trans hc_122
                  refine A_canon (va_up va (x * 41 + y) (s_val A (x * 41 + y))) hc_136 (fun jj _ => by rw [hL]) (fun σ_137 hc_138 hf_139 => ?_)
                  have hc_140 : σ_137 tb = o8 G (tb) (nI (fl)) (nI (n0)) (nI (gv)) (nI (gs)) (nI (lm)) (nI (vs)) := (hf_139 _ (by omega)).trans hc_132
                  have hc_141 : σ_137 (tb + 3) = q_an G 1681 skf := (hf_139 _ (by omega)).trans hc_133
                  have hc_142 : σ_137 (tb + 4) = q_an G 1681 slf := (hf_139 _ (by omega)).trans hc_134
                  have hc_143 : σ_137 (tb + 7) = q_an G 1681 r1 := (hf_139 _ (by omega)).trans hc_135
                  have hc_144 : σ_137 (tb + 6) = q_an G 1681 (va_up sp ((x * 41) + y) (nl + 1)) := (hf_139 _ (by omega)).trans hc_130
                  have hspn : s_spn A (x * 41 + y) = nl + 1 := by rw [x_span hA0 (by omega) hv hsb, ← hL, if_neg c190, ← hnl9]
                  refine A_canon (va_up sp (x * 41 + y) (s_spn A (x * 41 + y))) hc_144 (fun jj _ => by rw [hspn]) (fun σ_145 hc_146 hf_147 => ?_)
                  have hc_148 : σ_145 tb = o8 G (tb) (nI (fl)) (nI (n0)) (nI (gv)) (nI (gs)) (nI (lm)) (nI (vs)) := (hf_147 _ (by omega)).trans hc_140
                  have hc_149 : σ_145 (tb + 3) = q_an G 1681 skf := (hf_147 _ (by omega)).trans hc_141
                  have hc_150 : σ_145 (tb + 4) = q_an G 1681 slf := (hf_147 _ (by omega)).trans hc_142
                  have hc_151 : σ_145 (tb + 7) = q_an G 1681 r1 := (hf_147 _ (by omega)).trans hc_143
                  have hc_152 : σ_145 (tb + 5) = q_an G 1681 (va_up va (x * 41 + y) (s_val A (x * 41 + y))) := (hf_147 _ (by omega)).trans hc_138
                  rw [hQ]
                  exact A_return hg (by decide) (by decide) rfl dX8_settle_205 ⟨rfl, ⟨rfl, r1, (fun v hv => (hmk9 v hv).1), hc_152, hc_146, hc_151, (fun i hi => ((hf_147 i (by omega)).trans ((hf_139 i (by omega)).trans ((hf_131 i (by omega)).trans ((hf_123 i (by omega)).trans (hf_8 i (by omega)))))))⟩⟩
                · skip
                  refine A_iload hg dX8_settle_193 rfl ?_
                  refine A_iconst (v := (nI (1))) hg dX8_settle_195 (by decide) ?_
                  refine A_iaddM hg dX8_settle_196 ?_
                  refine A_goto (tgt := 204) hg dX8_settle_197 (by decide) ?_
                  refine A_iast (j := ((x * 41) + y)) (x := fa) hg dX8_settle_204 hc_127 (by omega) (by omega) (by decide) (fun σ_153 hc_154 hf_155 => ?_)
                  have hc_156 : σ_153 tb = o8 G (tb) (nI (fl)) (nI (n0)) (nI (gv)) (nI (gs)) (nI (lm)) (nI (vs)) := (hf_155 _ (by omega)).trans hc_124
                  have hc_157 : σ_153 (tb + 3) = q_an G 1681 skf := (hf_155 _ (by omega)).trans hc_125
                  have hc_158 : σ_153 (tb + 4) = q_an G 1681 slf := (hf_155 _ (by omega)).trans hc_126
                  have hc_159 : σ_153 (tb + 7) = q_an G 1681 r1 := (hf_155 _ (by omega)).trans hc_128
                  have hc_160 : σ_153 (tb + 5) = q_an G 1681 (va_up va ((x * 41) + y) l) := (hf_155 _ (by omega)).trans hc_122
                  refine A_canon (va_up va (x * 41 + y) (s_val A (x * 41 + y))) hc_160 (fun jj _ => by rw [hL]) (fun σ_161 hc_162 hf_163 => ?_)
                  have hc_164 : σ_161 tb = o8 G (tb) (nI (fl)) (nI (n0)) (nI (gv)) (nI (gs)) (nI (lm)) (nI (vs)) := (hf_163 _ (by omega)).trans hc_156
                  have hc_165 : σ_161 (tb + 3) = q_an G 1681 skf := (hf_163 _ (by omega)).trans hc_157
                  have hc_166 : σ_161 (tb + 4) = q_an G 1681 slf := (hf_163 _ (by omega)).trans hc_158
                  have hc_167 : σ_161 (tb + 7) = q_an G 1681 r1 := (hf_163 _ (by omega)).trans hc_159
                  have hc_168 : σ_161 (tb + 6) = q_an G 1681 (va_up sp ((x * 41) + y) fa) := (hf_163 _ (by omega)).trans hc_154
                  have hspn : s_spn A (x * 41 + y) = fa := by rw [x_span hA0 (by omega) hv hsb, ← hL, if_pos c190, ← hfa9]
                  refine A_canon (va_up sp (x * 41 + y) (s_spn A (x * 41 + y))) hc_168 (fun jj _ => by rw [hspn]) (fun σ_169 hc_170 hf_171 => ?_)
                  have hc_172 : σ_169 tb = o8 G (tb) (nI (fl)) (nI (n0)) (nI (gv)) (nI (gs)) (nI (lm)) (nI (vs)) := (hf_171 _ (by omega)).trans hc_164
                  have hc_173 : σ_169 (tb + 3) = q_an G 1681 skf := (hf_171 _ (by omega)).trans hc_165
                  have hc_174 : σ_169 (tb + 4) = q_an G 1681 slf := (hf_171 _ (by omega)).trans hc_166
                  have hc_175 : σ_169 (tb + 7) = q_an G 1681 r1 := (hf_171 _ (by omega)).trans hc_167
                  have hc_176 : σ_169 (tb + 5) = q_an G 1681 (va_up va (x * 41 + y) (s_val A (x * 41 + y))) := (hf_171 _ (by omega)).trans hc_162
                  rw [hQ]
                  exact A_return hg (by decide) (by decide) rfl dX8_settle_205 ⟨rfl, ⟨rfl, r1, (fun v hv => (hmk9 v hv).1), hc_176, hc_170, hc_175, (fun i hi => ((hf_171 i (by omega)).trans ((hf_163 i (by omega)).trans ((hf_155 i (by omega)).trans ((hf_123 i (by omega)).trans (hf_8 i (by omega)))))))⟩⟩
              · skip
                have hml := (hmk9 l (by omega)).1
                refine A_aload_n hg dX8_settle_156 rfl rfl ?_
                refine A_getf (v := .ref (q_h G + (tb + 7))) hg fl_RX8_39 dX8_settle_157 hc_2 (by omega) rfl ?_
                refine A_iload hg dX8_settle_160 rfl ?_
                refine A_iald (j := l) hg dX8_settle_162 hc_7 (by omega) (by omega) (by decide) ?_
                refine A_iload_n hg dX8_settle_163 rfl rfl ?_
                refine A_iconst (v := (nI (1))) hg dX8_settle_164 (by decide) ?_
                refine A_iaddN hg dX8_settle_165 ?_
                refine A_icmp_neN (tgt := 175) hg dX8_settle_166 (by omega) (by omega) (by decide) (fun c166 => ?_) (fun c166 => ?_)
                · skip
                  have hL : l = s_val A (x * 41 + y) := by rw [← s_mex_eq hA0 (fun j hj => (hv j hj).1)]; exact (x_least hmk9 hl hall (by first | exact Or.inl (by omega) | exact Or.inr c166)).symm
                  refine A_aload_n hg dX8_settle_175 rfl rfl ?_
                  refine A_getf (v := .ref (q_h G + (tb + 5))) hg fl_RX8_33 dX8_settle_176 hc_2 (by omega) rfl ?_
                  refine A_iload_n hg dX8_settle_179 rfl rfl ?_
                  refine A_iload hg dX8_settle_180 rfl ?_
                  refine A_iast (j := ((x * 41) + y)) (x := l) hg dX8_settle_182 hc_5 (by omega) (by omega) (by decide) (fun σ_177 hc_178 hf_179 => ?_)
                  have hc_180 : σ_177 tb = o8 G (tb) (nI (fl)) (nI (n0)) (nI (gv)) (nI (gs)) (nI (lm)) (nI (vs)) := (hf_179 _ (by omega)).trans hc_2
                  have hc_181 : σ_177 (tb + 3) = q_an G 1681 skf := (hf_179 _ (by omega)).trans hc_3
                  have hc_182 : σ_177 (tb + 4) = q_an G 1681 slf := (hf_179 _ (by omega)).trans hc_4
                  have hc_183 : σ_177 (tb + 6) = q_an G 1681 sp := (hf_179 _ (by omega)).trans hc_6
                  have hc_184 : σ_177 (tb + 7) = q_an G 1681 r1 := (hf_179 _ (by omega)).trans hc_7
                  refine A_aload_n hg dX8_settle_183 rfl rfl ?_
                  refine A_getf (v := .ref (q_h G + (tb + 6))) hg fl_RX8_36 dX8_settle_184 hc_180 (by omega) rfl ?_
                  refine A_iload_n hg dX8_settle_187 rfl rfl ?_
                  refine A_iload hg dX8_settle_188 rfl ?_
                  refine A_if_neN (tgt := 200) hg dX8_settle_190 (by omega) (by decide) (fun c190 => ?_) (fun c190 => ?_)
                  · skip
                    refine A_iload hg dX8_settle_200 rfl ?_
                    refine A_iconst (v := (nI (1))) hg dX8_settle_202 (by decide) ?_
                    refine A_iaddN hg dX8_settle_203 ?_
                    refine A_iast (j := ((x * 41) + y)) (x := (nl + 1)) hg dX8_settle_204 hc_183 (by omega) (by omega) (by decide) (fun σ_185 hc_186 hf_187 => ?_)
                    have hc_188 : σ_185 tb = o8 G (tb) (nI (fl)) (nI (n0)) (nI (gv)) (nI (gs)) (nI (lm)) (nI (vs)) := (hf_187 _ (by omega)).trans hc_180
                    have hc_189 : σ_185 (tb + 3) = q_an G 1681 skf := (hf_187 _ (by omega)).trans hc_181
                    have hc_190 : σ_185 (tb + 4) = q_an G 1681 slf := (hf_187 _ (by omega)).trans hc_182
                    have hc_191 : σ_185 (tb + 7) = q_an G 1681 r1 := (hf_187 _ (by omega)).trans hc_184
                    have hc_192 : σ_185 (tb + 5) = q_an G 1681 (va_up va ((x * 41) + y) l) := (hf_187 _ (by omega)).trans hc_178
                    refine A_canon (va_up va (x * 41 + y) (s_val A (x * 41 + y))) hc_192 (fun jj _ => by rw [hL]) (fun σ_193 hc_194 hf_195 => ?_)
                    have hc_196 : σ_193 tb = o8 G (tb) (nI (fl)) (nI (n0)) (nI (gv)) (nI (gs)) (nI (lm)) (nI (vs)) := (hf_195 _ (by omega)).trans hc_188
                    have hc_197 : σ_193 (tb + 3) = q_an G 1681 skf := (hf_195 _ (by omega)).trans hc_189
                    have hc_198 : σ_193 (tb + 4) = q_an G 1681 slf := (hf_195 _ (by omega)).trans hc_190
                    have hc_199 : σ_193 (tb + 7) = q_an G 1681 r1 := (hf_195 _ (by omega)).trans hc_191
                    have hc_200 : σ_193 (tb + 6) = q_an G 1681 (va_up sp ((x * 41) + y) (nl + 1)) := (hf_195 _ (by omega)).trans hc_186
                    have hspn : s_spn A (x * 41 + y) = nl + 1 := by rw [x_span hA0 (by omega) hv hsb, ← hL, if_neg c190, ← hnl9]
                    refine A_canon (va_up sp (x * 41 + y) (s_spn A (x * 41 + y))) hc_200 (fun jj _ => by rw [hspn]) (fun σ_201 hc_202 hf_203 => ?_)
                    have hc_204 : σ_201 tb = o8 G (tb) (nI (fl)) (nI (n0)) (nI (gv)) (nI (gs)) (nI (lm)) (nI (vs)) := (hf_203 _ (by omega)).trans hc_196
                    have hc_205 : σ_201 (tb + 3) = q_an G 1681 skf := (hf_203 _ (by omega)).trans hc_197
                    have hc_206 : σ_201 (tb + 4) = q_an G 1681 slf := (hf_203 _ (by omega)).trans hc_198
                    have hc_207 : σ_201 (tb + 7) = q_an G 1681 r1 := (hf_203 _ (by omega)).trans hc_199
                    have hc_208 : σ_201 (tb + 5) = q_an G 1681 (va_up va (x * 41 + y) (s_val A (x * 41 + y))) := (hf_203 _ (by omega)).trans hc_194
                    rw [hQ]
                    exact A_return hg (by decide) (by decide) rfl dX8_settle_205 ⟨rfl, ⟨rfl, r1, (fun v hv => (hmk9 v hv).1), hc_208, hc_202, hc_207, (fun i hi => ((hf_203 i (by omega)).trans ((hf_195 i (by omega)).trans ((hf_187 i (by omega)).trans ((hf_179 i (by omega)).trans (hf_8 i (by omega)))))))⟩⟩
                  · skip
                    refine A_iload hg dX8_settle_193 rfl ?_
                    refine A_iconst (v := (nI (1))) hg dX8_settle_195 (by decide) ?_
                    refine A_iaddM hg dX8_settle_196 ?_
                    refine A_goto (tgt := 204) hg dX8_settle_197 (by decide) ?_
                    refine A_iast (j := ((x * 41) + y)) (x := fa) hg dX8_settle_204 hc_183 (by omega) (by omega) (by decide) (fun σ_209 hc_210 hf_211 => ?_)
                    have hc_212 : σ_209 tb = o8 G (tb) (nI (fl)) (nI (n0)) (nI (gv)) (nI (gs)) (nI (lm)) (nI (vs)) := (hf_211 _ (by omega)).trans hc_180
                    have hc_213 : σ_209 (tb + 3) = q_an G 1681 skf := (hf_211 _ (by omega)).trans hc_181
                    have hc_214 : σ_209 (tb + 4) = q_an G 1681 slf := (hf_211 _ (by omega)).trans hc_182
                    have hc_215 : σ_209 (tb + 7) = q_an G 1681 r1 := (hf_211 _ (by omega)).trans hc_184
                    have hc_216 : σ_209 (tb + 5) = q_an G 1681 (va_up va ((x * 41) + y) l) := (hf_211 _ (by omega)).trans hc_178
                    refine A_canon (va_up va (x * 41 + y) (s_val A (x * 41 + y))) hc_216 (fun jj _ => by rw [hL]) (fun σ_217 hc_218 hf_219 => ?_)
                    have hc_220 : σ_217 tb = o8 G (tb) (nI (fl)) (nI (n0)) (nI (gv)) (nI (gs)) (nI (lm)) (nI (vs)) := (hf_219 _ (by omega)).trans hc_212
                    have hc_221 : σ_217 (tb + 3) = q_an G 1681 skf := (hf_219 _ (by omega)).trans hc_213
                    have hc_222 : σ_217 (tb + 4) = q_an G 1681 slf := (hf_219 _ (by omega)).trans hc_214
                    have hc_223 : σ_217 (tb + 7) = q_an G 1681 r1 := (hf_219 _ (by omega)).trans hc_215
                    have hc_224 : σ_217 (tb + 6) = q_an G 1681 (va_up sp ((x * 41) + y) fa) := (hf_219 _ (by omega)).trans hc_210
                    have hspn : s_spn A (x * 41 + y) = fa := by rw [x_span hA0 (by omega) hv hsb, ← hL, if_pos c190, ← hfa9]
                    refine A_canon (va_up sp (x * 41 + y) (s_spn A (x * 41 + y))) hc_224 (fun jj _ => by rw [hspn]) (fun σ_225 hc_226 hf_227 => ?_)
                    have hc_228 : σ_225 tb = o8 G (tb) (nI (fl)) (nI (n0)) (nI (gv)) (nI (gs)) (nI (lm)) (nI (vs)) := (hf_227 _ (by omega)).trans hc_220
                    have hc_229 : σ_225 (tb + 3) = q_an G 1681 skf := (hf_227 _ (by omega)).trans hc_221
                    have hc_230 : σ_225 (tb + 4) = q_an G 1681 slf := (hf_227 _ (by omega)).trans hc_222
                    have hc_231 : σ_225 (tb + 7) = q_an G 1681 r1 := (hf_227 _ (by omega)).trans hc_223
                    have hc_232 : σ_225 (tb + 5) = q_an G 1681 (va_up va (x * 41 + y) (s_val A (x * 41 + y))) := (hf_227 _ (by omega)).trans hc_218
                    rw [hQ]
                    exact A_return hg (by decide) (by decide) rfl dX8_settle_205 ⟨rfl, ⟨rfl, r1, (fun v hv => (hmk9 v hv).1), hc_232, hc_226, hc_231, (fun i hi => ((hf_227 i (by omega)).trans ((hf_219 i (by omega)).trans ((hf_211 i (by omega)).trans ((hf_179 i (by omega)).trans (hf_8 i (by omega)))))))⟩⟩
                · skip
                  refine A_iincN (k' := 1) hg dX8_settle_169 (by decide) rfl (by decide) (q_c1d rfl) ?_
                  refine A_eq (ls2 := [some (.ref (q_h G + tb)), some (.int (nI (x))), some (.int (nI (y))), some (.int (nI ((x * 41) + y))), some (.int (q_d (fa))), some (.int (nI (nl))), some (.int (nI (l + 1))), none, none, none]) (st2 := []) (pc2 := 0) rfl rfl ?_
                  refine A_goto (tgt := 148) hg dX8_settle_172 (by decide) ?_
                  exact ih148 (l + 1) (by omega) (lt_s hall ((hmk9 l (by omega)).2.mp c166)) (by omega)
          exact hL148 _ 0 (Nat.zero_le _) (fun v h => absurd h (Nat.not_lt_zero v)) (Nat.lt_succ_self _)
        · skip
          refine A_aload_n hg dX8_settle_38 rfl rfl ?_
          refine A_getf (v := .ref (q_h G + (tb + 4))) hg fl_RX8_26 dX8_settle_39 hc_2 (by omega) rfl ?_
          refine A_iload hg dX8_settle_42 rfl ?_
          refine A_iald (j := i) hg dX8_settle_44 hc_4 (by omega) (by omega) (by decide) ?_
          refine A_top (w := .int (nI (j % 41))) (by rw [hsl]) ?_
          refine A_iload_n hg dX8_settle_45 rfl rfl ?_
          refine A_icmp_gtN (tgt := 139) hg dX8_settle_46 (by omega) (by omega) (by decide) (fun c46 => ?_) (fun c46 => ?_)
          · skip
            have hgm2 : ∀ q : Nat, m ≤ q → q < j + 1 → s_mv A (x * 41 + y) q = false := fun q a b => by
              by_cases z : q = j
              · rw [z]; exact x_mv_f hy (Or.inr (by omega))
              · exact hgm q a (by omega)
            refine A_iincN (k' := 1) hg dX8_settle_139 (by decide) rfl (by decide) (q_c1d rfl) ?_
            refine A_eq (ls2 := [some (.ref (q_h G + tb)), some (.int (nI (x))), some (.int (nI (y))), some (.int (nI ((x * 41) + y))), some (.int (q_d (fa))), some (.int (nI (nl))), some (.int (nI (i + 1))), none, none, none]) (st2 := []) (pc2 := 0) rfl rfl ?_
            refine A_goto (tgt := 18) hg dX8_settle_142 (by decide) ?_
            exact ih18 (i + 1) (j + 1) fa nl r1 σ_1 hc_2 hc_3 hc_4 hc_5 hc_6 hc_7 (fun i hi => (hf_8 i (by omega))) (by omega) (by rw [s_cnt_t hAj, hcj]) (x_mk_skip hmk (by omega) hgm2) (by rw [x_far_skip _ (by omega) hgm2]; exact hfa) (by rw [x_nl_skip _ (by omega) hgm2]; exact hnl) (by omega) (by omega) (by omega)
          · skip
            refine A_iload_n hg dX8_settle_49 rfl rfl ?_
            refine A_aload_n hg dX8_settle_50 rfl rfl ?_
            refine A_getf (v := .ref (q_h G + (tb + 3))) hg fl_RX8_22 dX8_settle_51 hc_2 (by omega) rfl ?_
            refine A_iload hg dX8_settle_54 rfl ?_
            refine A_iald (j := i) hg dX8_settle_56 hc_3 (by omega) (by omega) (by decide) ?_
            refine A_top (w := .int (nI (j / 41))) (by rw [hsk]) ?_
            refine A_bipush (v := (nI (41))) hg dX8_settle_57 (by decide) ?_
            refine A_imulN hg dX8_settle_59 ?_
            refine A_isubN hg dX8_settle_60 (by omega) ?_
            refine A_aload_n hg dX8_settle_61 rfl rfl ?_
            refine A_getf (v := .ref (q_h G + (tb + 4))) hg fl_RX8_26 dX8_settle_62 hc_2 (by omega) rfl ?_
            refine A_iload hg dX8_settle_65 rfl ?_
            refine A_iald (j := i) hg dX8_settle_67 hc_4 (by omega) (by omega) (by decide) ?_
            refine A_top (w := .int (nI (j % 41))) (by rw [hsl]) ?_
            refine A_isubN hg dX8_settle_68 (by omega) ?_
            refine A_top (w := .int (nI (x * 41 + y - j))) (congrArg (fun z => Value.int (nI z)) (by omega)) ?_
            have hmv := x_mv_t (A := A) (x := x) (y := y) (q := j) hy (by omega) (by omega) hAj
            have hj0 := s_mv_pos hA0 hmv
            have hjp := s_mv_le hmv
            obtain ⟨hva, hsp⟩ := hv (x * 41 + y - j) (by omega)
            have hvl := s_val_le hA0 (x * 41 + y - j) (by omega)
            have hsl2 := s_spn_le hA0 (x * 41 + y - j)
            refine A_istore hg dX8_settle_69 (by decide) (q_c1d rfl) ?_
            refine A_eq (ls2 := [some (.ref (q_h G + tb)), some (.int (nI (x))), some (.int (nI (y))), some (.int (nI ((x * 41) + y))), some (.int (q_d (fa))), some (.int (nI (nl))), some (.int (nI (i))), some (.int (nI (x * 41 + y - j))), none, none]) (st2 := []) (pc2 := 0) rfl rfl ?_
            refine A_aload_n hg dX8_settle_71 rfl rfl ?_
            refine A_getf (v := .ref (q_h G + (tb + 5))) hg fl_RX8_33 dX8_settle_72 hc_2 (by omega) rfl ?_
            refine A_iload hg dX8_settle_75 rfl ?_
            refine A_iald (j := (x * 41 + y - j)) hg dX8_settle_77 hc_5 (by omega) (by omega) (by decide) ?_
            refine A_istore hg dX8_settle_78 (by decide) (q_c1d rfl) ?_
            refine A_eq (ls2 := [some (.ref (q_h G + tb)), some (.int (nI (x))), some (.int (nI (y))), some (.int (nI ((x * 41) + y))), some (.int (q_d (fa))), some (.int (nI (nl))), some (.int (nI (i))), some (.int (nI (x * 41 + y - j))), some (.int (nI (va (x * 41 + y - j)))), none]) (st2 := []) (pc2 := 0) rfl rfl ?_
            refine A_aload_n hg dX8_settle_80 rfl rfl ?_
            refine A_getf (v := .ref (q_h G + (tb + 6))) hg fl_RX8_36 dX8_settle_81 hc_2 (by omega) rfl ?_
            refine A_iload hg dX8_settle_84 rfl ?_
            refine A_iald (j := (x * 41 + y - j)) hg dX8_settle_86 hc_6 (by omega) (by omega) (by decide) ?_
            refine A_istore hg dX8_settle_87 (by decide) (q_c1d rfl) ?_
            refine A_eq (ls2 := [some (.ref (q_h G + tb)), some (.int (nI (x))), some (.int (nI (y))), some (.int (nI ((x * 41) + y))), some (.int (q_d (fa))), some (.int (nI (nl))), some (.int (nI (i))), some (.int (nI (x * 41 + y - j))), some (.int (nI (va (x * 41 + y - j)))), some (.int (nI (sp (x * 41 + y - j))))]) (st2 := []) (pc2 := 0) rfl rfl ?_
            refine A_iload hg dX8_settle_89 rfl ?_
            refine A_if_ltN (tgt := 112) hg dX8_settle_91 (by omega) (by decide) ?_
            refine A_iload hg dX8_settle_94 rfl ?_
            refine A_sipush (v := (nI (1681))) hg dX8_settle_96 (by decide) ?_
            refine A_icmp_geN (tgt := 112) hg dX8_settle_99 (by omega) (by decide) (by decide) (fun c99 => absurd c99 (by omega)) (fun c99 => ?_)
            refine A_aload_n hg dX8_settle_102 rfl rfl ?_
            refine A_getf (v := .ref (q_h G + (tb + 7))) hg fl_RX8_39 dX8_settle_103 hc_2 (by omega) rfl ?_
            refine A_iload hg dX8_settle_106 rfl ?_
            refine A_iload_n hg dX8_settle_108 rfl rfl ?_
            refine A_iconst (v := (nI (1))) hg dX8_settle_109 (by decide) ?_
            refine A_iaddN hg dX8_settle_110 ?_
            refine A_iast (j := (va (x * 41 + y - j))) (x := (((x * 41) + y) + 1)) hg dX8_settle_111 hc_7 (by omega) (by omega) (by decide) (fun σ_233 hc_234 hf_235 => ?_)
            have hc_236 : σ_233 tb = o8 G (tb) (nI (fl)) (nI (n0)) (nI (gv)) (nI (gs)) (nI (lm)) (nI (vs)) := (hf_235 _ (by omega)).trans hc_2
            have hc_237 : σ_233 (tb + 3) = q_an G 1681 skf := (hf_235 _ (by omega)).trans hc_3
            have hc_238 : σ_233 (tb + 4) = q_an G 1681 slf := (hf_235 _ (by omega)).trans hc_4
            have hc_239 : σ_233 (tb + 5) = q_an G 1681 va := (hf_235 _ (by omega)).trans hc_5
            have hc_240 : σ_233 (tb + 6) = q_an G 1681 sp := (hf_235 _ (by omega)).trans hc_6
            refine A_iload hg dX8_settle_112 rfl ?_
            refine A_iload hg dX8_settle_114 rfl ?_
            refine A_icmp_leNM (tgt := 123) hg dX8_settle_116 (by omega) (by omega) (by decide) (fun c116 => ?_) (fun c116 => ?_)
            · skip
              refine A_iload hg dX8_settle_123 rfl ?_
              refine A_if_neN (tgt := 139) hg dX8_settle_125 (by omega) (by decide) (fun c125 => ?_) (fun c125 => ?_)
              · skip
                refine A_iincN (k' := 1) hg dX8_settle_139 (by decide) rfl (by decide) (q_c1d rfl) ?_
                refine A_eq (ls2 := [some (.ref (q_h G + tb)), some (.int (nI (x))), some (.int (nI (y))), some (.int (nI ((x * 41) + y))), some (.int (q_d (fa))), some (.int (nI (nl))), some (.int (nI (i + 1))), some (.int (nI (x * 41 + y - j))), some (.int (nI (va (x * 41 + y - j)))), some (.int (nI (sp (x * 41 + y - j))))]) (st2 := []) (pc2 := 0) rfl rfl ?_
                refine A_goto (tgt := 18) hg dX8_settle_142 (by decide) ?_
                refine A_drop 7 ?_
                refine A_drop 8 ?_
                refine A_drop 9 ?_
                exact ih18 (i + 1) (j + 1) fa nl (va_up r1 (va (x * 41 + y - j)) (((x * 41) + y) + 1)) σ_233 hc_236 hc_237 hc_238 hc_239 hc_240 hc_234 (fun i hi => ((hf_235 i (by omega)).trans (hf_8 i (by omega)))) (by omega) (by rw [s_cnt_t hAj, hcj]) (x_mk_step (x_mk_skip hmk hmj hgm) hmv rfl) (by rw [x_far, if_pos hmv, x_far_skip _ hmj hgm, ← hfa]; omega) (by rw [x_nl, x_nl_skip _ hmj hgm, ← hnl]; first | rw [if_pos ⟨hmv, by omega, by omega⟩] | rw [if_neg (by rintro ⟨-, z1, z2⟩; omega)]) (by omega) (by omega) (by omega)
              · skip
                refine A_iload hg dX8_settle_128 rfl ?_
                refine A_iload hg dX8_settle_130 rfl ?_
                refine A_icmp_geN (tgt := 139) hg dX8_settle_132 (by omega) (by omega) (by decide) (fun c132 => ?_) (fun c132 => ?_)
                · skip
                  refine A_iincN (k' := 1) hg dX8_settle_139 (by decide) rfl (by decide) (q_c1d rfl) ?_
                  refine A_eq (ls2 := [some (.ref (q_h G + tb)), some (.int (nI (x))), some (.int (nI (y))), some (.int (nI ((x * 41) + y))), some (.int (q_d (fa))), some (.int (nI (nl))), some (.int (nI (i + 1))), some (.int (nI (x * 41 + y - j))), some (.int (nI (va (x * 41 + y - j)))), some (.int (nI (sp (x * 41 + y - j))))]) (st2 := []) (pc2 := 0) rfl rfl ?_
                  refine A_goto (tgt := 18) hg dX8_settle_142 (by decide) ?_
                  refine A_drop 7 ?_
                  refine A_drop 8 ?_
                  refine A_drop 9 ?_
                  exact ih18 (i + 1) (j + 1) fa nl (va_up r1 (va (x * 41 + y - j)) (((x * 41) + y) + 1)) σ_233 hc_236 hc_237 hc_238 hc_239 hc_240 hc_234 (fun i hi => ((hf_235 i (by omega)).trans (hf_8 i (by omega)))) (by omega) (by rw [s_cnt_t hAj, hcj]) (x_mk_step (x_mk_skip hmk hmj hgm) hmv rfl) (by rw [x_far, if_pos hmv, x_far_skip _ hmj hgm, ← hfa]; omega) (by rw [x_nl, x_nl_skip _ hmj hgm, ← hnl]; first | rw [if_pos ⟨hmv, by omega, by omega⟩] | rw [if_neg (by rintro ⟨-, z1, z2⟩; omega)]) (by omega) (by omega) (by omega)
                · skip
                  refine A_iload hg dX8_settle_135 rfl ?_
                  refine A_istore hg dX8_settle_137 (by decide) (q_c1d rfl) ?_
                  refine A_eq (ls2 := [some (.ref (q_h G + tb)), some (.int (nI (x))), some (.int (nI (y))), some (.int (nI ((x * 41) + y))), some (.int (q_d (fa))), some (.int (nI (sp (x * 41 + y - j)))), some (.int (nI (i))), some (.int (nI (x * 41 + y - j))), some (.int (nI (va (x * 41 + y - j)))), some (.int (nI (sp (x * 41 + y - j))))]) (st2 := []) (pc2 := 0) rfl rfl ?_
                  refine A_iincN (k' := 1) hg dX8_settle_139 (by decide) rfl (by decide) (q_c1d rfl) ?_
                  refine A_eq (ls2 := [some (.ref (q_h G + tb)), some (.int (nI (x))), some (.int (nI (y))), some (.int (nI ((x * 41) + y))), some (.int (q_d (fa))), some (.int (nI (sp (x * 41 + y - j)))), some (.int (nI (i + 1))), some (.int (nI (x * 41 + y - j))), some (.int (nI (va (x * 41 + y - j)))), some (.int (nI (sp (x * 41 + y - j))))]) (st2 := []) (pc2 := 0) rfl rfl ?_
                  refine A_goto (tgt := 18) hg dX8_settle_142 (by decide) ?_
                  refine A_drop 7 ?_
                  refine A_drop 8 ?_
                  refine A_drop 9 ?_
                  exact ih18 (i + 1) (j + 1) fa (sp (x * 41 + y - j)) (va_up r1 (va (x * 41 + y - j)) (((x * 41) + y) + 1)) σ_233 hc_236 hc_237 hc_238 hc_239 hc_240 hc_234 (fun i hi => ((hf_235 i (by omega)).trans (hf_8 i (by omega)))) (by omega) (by rw [s_cnt_t hAj, hcj]) (x_mk_step (x_mk_skip hmk hmj hgm) hmv rfl) (by rw [x_far, if_pos hmv, x_far_skip _ hmj hgm, ← hfa]; omega) (by rw [x_nl, x_nl_skip _ hmj hgm, ← hnl]; first | rw [if_pos ⟨hmv, by omega, by omega⟩] | rw [if_neg (by rintro ⟨-, z1, z2⟩; omega)]) (by omega) (by omega) (by omega)
            · skip
              refine A_iload hg dX8_settle_119 rfl ?_
              refine A_top (w := .int (q_d ((sp (x * 41 + y - j)) + 1))) (congrArg Value.int (q_dS _).symm) ?_
              refine A_istore hg dX8_settle_121 (by decide) (q_c1d rfl) ?_
              refine A_eq (ls2 := [some (.ref (q_h G + tb)), some (.int (nI (x))), some (.int (nI (y))), some (.int (nI ((x * 41) + y))), some (.int (q_d ((sp (x * 41 + y - j)) + 1))), some (.int (nI (nl))), some (.int (nI (i))), some (.int (nI (x * 41 + y - j))), some (.int (nI (va (x * 41 + y - j)))), some (.int (nI (sp (x * 41 + y - j))))]) (st2 := []) (pc2 := 0) rfl rfl ?_
              refine A_iload hg dX8_settle_123 rfl ?_
              refine A_if_neN (tgt := 139) hg dX8_settle_125 (by omega) (by decide) (fun c125 => ?_) (fun c125 => ?_)
              · skip
                refine A_iincN (k' := 1) hg dX8_settle_139 (by decide) rfl (by decide) (q_c1d rfl) ?_
                refine A_eq (ls2 := [some (.ref (q_h G + tb)), some (.int (nI (x))), some (.int (nI (y))), some (.int (nI ((x * 41) + y))), some (.int (q_d ((sp (x * 41 + y - j)) + 1))), some (.int (nI (nl))), some (.int (nI (i + 1))), some (.int (nI (x * 41 + y - j))), some (.int (nI (va (x * 41 + y - j)))), some (.int (nI (sp (x * 41 + y - j))))]) (st2 := []) (pc2 := 0) rfl rfl ?_
                refine A_goto (tgt := 18) hg dX8_settle_142 (by decide) ?_
                refine A_drop 7 ?_
                refine A_drop 8 ?_
                refine A_drop 9 ?_
                exact ih18 (i + 1) (j + 1) ((sp (x * 41 + y - j)) + 1) nl (va_up r1 (va (x * 41 + y - j)) (((x * 41) + y) + 1)) σ_233 hc_236 hc_237 hc_238 hc_239 hc_240 hc_234 (fun i hi => ((hf_235 i (by omega)).trans (hf_8 i (by omega)))) (by omega) (by rw [s_cnt_t hAj, hcj]) (x_mk_step (x_mk_skip hmk hmj hgm) hmv rfl) (by rw [x_far, if_pos hmv, x_far_skip _ hmj hgm, ← hfa]; omega) (by rw [x_nl, x_nl_skip _ hmj hgm, ← hnl]; first | rw [if_pos ⟨hmv, by omega, by omega⟩] | rw [if_neg (by rintro ⟨-, z1, z2⟩; omega)]) (by omega) (by omega) (by omega)
              · skip
                refine A_iload hg dX8_settle_128 rfl ?_
                refine A_iload hg dX8_settle_130 rfl ?_
                refine A_icmp_geN (tgt := 139) hg dX8_settle_132 (by omega) (by omega) (by decide) (fun c132 => ?_) (fun c132 => ?_)
                · skip
                  refine A_iincN (k' := 1) hg dX8_settle_139 (by decide) rfl (by decide) (q_c1d rfl) ?_
                  refine A_eq (ls2 := [some (.ref (q_h G + tb)), some (.int (nI (x))), some (.int (nI (y))), some (.int (nI ((x * 41) + y))), some (.int (q_d ((sp (x * 41 + y - j)) + 1))), some (.int (nI (nl))), some (.int (nI (i + 1))), some (.int (nI (x * 41 + y - j))), some (.int (nI (va (x * 41 + y - j)))), some (.int (nI (sp (x * 41 + y - j))))]) (st2 := []) (pc2 := 0) rfl rfl ?_
                  refine A_goto (tgt := 18) hg dX8_settle_142 (by decide) ?_
                  refine A_drop 7 ?_
                  refine A_drop 8 ?_
                  refine A_drop 9 ?_
                  exact ih18 (i + 1) (j + 1) ((sp (x * 41 + y - j)) + 1) nl (va_up r1 (va (x * 41 + y - j)) (((x * 41) + y) + 1)) σ_233 hc_236 hc_237 hc_238 hc_239 hc_240 hc_234 (fun i hi => ((hf_235 i (by omega)).trans (hf_8 i (by omega)))) (by omega) (by rw [s_cnt_t hAj, hcj]) (x_mk_step (x_mk_skip hmk hmj hgm) hmv rfl) (by rw [x_far, if_pos hmv, x_far_skip _ hmj hgm, ← hfa]; omega) (by rw [x_nl, x_nl_skip _ hmj hgm, ← hnl]; first | rw [if_pos ⟨hmv, by omega, by omega⟩] | rw [if_neg (by rintro ⟨-, z1, z2⟩; omega)]) (by omega) (by omega) (by omega)
                · skip
                  refine A_iload hg dX8_settle_135 rfl ?_
                  refine A_istore hg dX8_settle_137 (by decide) (q_c1d rfl) ?_
                  refine A_eq (ls2 := [some (.ref (q_h G + tb)), some (.int (nI (x))), some (.int (nI (y))), some (.int (nI ((x * 41) + y))), some (.int (q_d ((sp (x * 41 + y - j)) + 1))), some (.int (nI (sp (x * 41 + y - j)))), some (.int (nI (i))), some (.int (nI (x * 41 + y - j))), some (.int (nI (va (x * 41 + y - j)))), some (.int (nI (sp (x * 41 + y - j))))]) (st2 := []) (pc2 := 0) rfl rfl ?_
                  refine A_iincN (k' := 1) hg dX8_settle_139 (by decide) rfl (by decide) (q_c1d rfl) ?_
                  refine A_eq (ls2 := [some (.ref (q_h G + tb)), some (.int (nI (x))), some (.int (nI (y))), some (.int (nI ((x * 41) + y))), some (.int (q_d ((sp (x * 41 + y - j)) + 1))), some (.int (nI (sp (x * 41 + y - j)))), some (.int (nI (i + 1))), some (.int (nI (x * 41 + y - j))), some (.int (nI (va (x * 41 + y - j)))), some (.int (nI (sp (x * 41 + y - j))))]) (st2 := []) (pc2 := 0) rfl rfl ?_
                  refine A_goto (tgt := 18) hg dX8_settle_142 (by decide) ?_
                  refine A_drop 7 ?_
                  refine A_drop 8 ?_
                  refine A_drop 9 ?_
                  exact ih18 (i + 1) (j + 1) ((sp (x * 41 + y - j)) + 1) (sp (x * 41 + y - j)) (va_up r1 (va (x * 41 + y - j)) (((x * 41) + y) + 1)) σ_233 hc_236 hc_237 hc_238 hc_239 hc_240 hc_234 (fun i hi => ((hf_235 i (by omega)).trans (hf_8 i (by omega)))) (by omega) (by rw [s_cnt_t hAj, hcj]) (x_mk_step (x_mk_skip hmk hmj hgm) hmv rfl) (by rw [x_far, if_pos hmv, x_far_skip _ hmj hgm, ← hfa]; omega) (by rw [x_nl, x_nl_skip _ hmj hgm, ← hnl]; first | rw [if_pos ⟨hmv, by omega, by omega⟩] | rw [if_neg (by rintro ⟨-, z1, z2⟩; omega)]) (by omega) (by omega) (by omega)
  exact hL18 _ 0 0 0 1681 rf σ hc0 hc1 hc2 hc3 hc4 hc5 (fun _ _ => rfl) (Nat.zero_le _) rfl (x_mk_0 hrf) rfl rfl (by decide) (Nat.le_refl _) (Nat.lt_succ_self _)
set_option maxRecDepth 100000 in
set_option maxHeartbeats 4000000 in
theorem c_X8_tally (G : GL) (ex : Bool) (n : Nat) (σ : Nat → va_E) (tb : Nat) (fl : Nat) (n0 : Nat) (gv : Nat) (gs : Nat) (lm : Nat) (vs : Nat) (va : Nat → Nat) (sp : Nat → Nat) (hc0 : σ tb = o8 G (tb) (nI (fl)) (nI (n0)) (nI (gv)) (nI (gs)) (nI (lm)) (nI (vs))) (hc1 : σ (tb + 5) = q_an G 1681 va) (hc2 : σ (tb + 6) = q_an G 1681 sp) (htb : tb + 7 < n) (hvb : ∀ j : Nat, j < 1681 → va j ≤ 1681) (hsb2 : ∀ j : Nat, j < 1681 → sp j ≤ 1681) : Ct G yX8_tally cX8_tally 2 none ⟨1, 0, 0, 21⟩ [.ref (q_h G + tb)] ex n σ (fun v9 σ2 => v9 = none ∧ σ2 tb = o8 G (tb) (nI (fl)) (nI (n0)) (nI (s_mx va 1681)) (nI (s_mx sp 1681)) (nI (s_cnt (fun q => va q == 0) 1681)) (nI (x_tc.x_sum va 1681)) ∧ (∀ i : Nat, i ≠ tb → σ2 i = σ i)) := by
  refine q_enter [some (.ref (q_h G + tb)), none] (by decide) (Nat.le_of_ble_eq_true rfl) rfl ?_
  intro K hg
  obtain ⟨Q, hQ⟩ : ∃ Q, Q = q_Q G K ex n 0 0 (fun v9 n' σ' => n' = n ∧ (fun v9 σ2 => v9 = none ∧ σ2 tb = o8 G (tb) (nI (fl)) (nI (n0)) (nI (s_mx va 1681)) (nI (s_mx sp 1681)) (nI (s_cnt (fun q => va q == 0) 1681)) (nI (x_tc.x_sum va 1681)) ∧ (∀ i : Nat, i ≠ tb → σ2 i = σ i)) v9 σ') q_noX := ⟨_, rfl⟩
  refine (?_ : AJ G K (q_Q G K ex n 0 0 _ _) 0 0 ex n 0 _ _ σ)
  rw [← hQ]
  refine A_aload_n hg dX8_tally_0 rfl rfl ?_
  refine A_iconst (v := (nI (0))) hg dX8_tally_1 (by decide) ?_
  refine A_putf hg fl_RX8_42 dX8_tally_2 hc0 (by omega) (Nat.le_of_ble_eq_true rfl) rfl rfl rfl (fun σ_1 hc_2 hf_3 => ?_)
  have hc_2 : σ_1 tb = o8 G (tb) (nI (fl)) (nI (n0)) (nI (0)) (nI (gs)) (nI (lm)) (nI (vs)) := hc_2
  have hc_4 : σ_1 (tb + 5) = q_an G 1681 va := (hf_3 _ (by omega)).trans hc1
  have hc_5 : σ_1 (tb + 6) = q_an G 1681 sp := (hf_3 _ (by omega)).trans hc2
  refine A_aload_n hg dX8_tally_5 rfl rfl ?_
  refine A_iconst (v := (nI (0))) hg dX8_tally_6 (by decide) ?_
  refine A_putf hg fl_RX8_45 dX8_tally_7 hc_2 (by omega) (Nat.le_of_ble_eq_true rfl) rfl rfl rfl (fun σ_6 hc_7 hf_8 => ?_)
  have hc_7 : σ_6 tb = o8 G (tb) (nI (fl)) (nI (n0)) (nI (0)) (nI (0)) (nI (lm)) (nI (vs)) := hc_7
  have hc_9 : σ_6 (tb + 5) = q_an G 1681 va := (hf_8 _ (by omega)).trans hc_4
  have hc_10 : σ_6 (tb + 6) = q_an G 1681 sp := (hf_8 _ (by omega)).trans hc_5
  refine A_aload_n hg dX8_tally_10 rfl rfl ?_
  refine A_iconst (v := (nI (0))) hg dX8_tally_11 (by decide) ?_
  refine A_putf hg fl_RX8_48 dX8_tally_12 hc_7 (by omega) (Nat.le_of_ble_eq_true rfl) rfl rfl rfl (fun σ_11 hc_12 hf_13 => ?_)
  have hc_12 : σ_11 tb = o8 G (tb) (nI (fl)) (nI (n0)) (nI (0)) (nI (0)) (nI (0)) (nI (vs)) := hc_12
  have hc_14 : σ_11 (tb + 5) = q_an G 1681 va := (hf_13 _ (by omega)).trans hc_9
  have hc_15 : σ_11 (tb + 6) = q_an G 1681 sp := (hf_13 _ (by omega)).trans hc_10
  refine A_aload_n hg dX8_tally_15 rfl rfl ?_
  refine A_iconst (v := (nI (0))) hg dX8_tally_16 (by decide) ?_
  refine A_putf hg fl_RX8_51 dX8_tally_17 hc_12 (by omega) (Nat.le_of_ble_eq_true rfl) rfl rfl rfl (fun σ_16 hc_17 hf_18 => ?_)
  have hc_17 : σ_16 tb = o8 G (tb) (nI (fl)) (nI (n0)) (nI (0)) (nI (0)) (nI (0)) (nI (0)) := hc_17
  have hc_19 : σ_16 (tb + 5) = q_an G 1681 va := (hf_18 _ (by omega)).trans hc_14
  have hc_20 : σ_16 (tb + 6) = q_an G 1681 sp := (hf_18 _ (by omega)).trans hc_15
  refine A_iconst (v := (nI (0))) hg dX8_tally_20 (by decide) ?_
  refine A_istore_n hg dX8_tally_21 rfl (by decide) (q_c1d rfl) ?_
  refine A_eq (ls2 := [some (.ref (q_h G + tb)), some (.int (nI (0)))]) (st2 := []) (pc2 := 0) rfl rfl ?_
  have hL22 : ∀ (fu : Nat) (p : Nat) (σ_21 : Nat → va_E), (σ_21 (tb + 5) = q_an G 1681 va) → (σ_21 (tb + 6) = q_an G 1681 sp) → (σ_21 tb = o8 G (tb) (nI (fl)) (nI (n0)) (nI (s_mx va p)) (nI (s_mx sp p)) (nI (s_cnt (fun q => va q == 0) p)) (nI (x_tc.x_sum va p))) → (∀ i : Nat, i ≠ tb → σ_21 i = σ i) → (p ≤ 1681) → (1681 - p) < fu → AJ G K Q 0 0 ex n 22 [some (.ref (q_h G + tb)), some (.int (nI (p)))] [] σ_21 := by
    intro fu
    induction fu with
    | zero => intro p σ_21 hc_22 hc_23 hc_24 hf_25 hp hm; exact absurd hm (Nat.not_lt_zero _)
    | succ fu ih22 =>
      intro p σ_21 hc_22 hc_23 hc_24 hf_25 hp hm22
      refine A_iload_n hg dX8_tally_22 rfl rfl ?_
      refine A_sipush (v := (nI (1681))) hg dX8_tally_23 (by decide) ?_
      refine A_icmp_geN (tgt := 107) hg dX8_tally_26 (by omega) (by decide) (by decide) (fun c26 => ?_) (fun c26 => ?_)
      · skip
        have hc_26 : σ_21 tb = o8 G (tb) (nI (fl)) (nI (n0)) (nI (s_mx va 1681)) (nI (s_mx sp 1681)) (nI (s_cnt (fun q => va q == 0) 1681)) (nI (x_tc.x_sum va 1681)) := hc_24.trans (by rw [show p = 1681 by omega])
        rw [hQ]
        exact A_return hg (by decide) (by decide) rfl dX8_tally_107 ⟨rfl, ⟨rfl, hc_26, (fun i hi => (hf_25 i (by omega)))⟩⟩
      · skip
        have hmv1 := s_mx_le (f := va) (n := p) (m := 1681) (fun j hj => hvb j (by omega))
        have hms1 := s_mx_le (f := sp) (n := p) (m := 1681) (fun j hj => hsb2 j (by omega))
        have hvp := hvb p (by omega)
        have hsp1 := hsb2 p (by omega)
        have hct := s_cnt_le (fun q => va q == 0) p
        have hvs := x_sum_le (f := va) (n := p) (m := 1681) (fun j hj => hvb j (by omega))
        refine A_aload_n hg dX8_tally_29 rfl rfl ?_
        refine A_aload_n hg dX8_tally_30 rfl rfl ?_
        refine A_getf (v := .int (nI (s_mx va p))) hg fl_RX8_42 dX8_tally_31 hc_24 (by omega) rfl ?_
        refine A_aload_n hg dX8_tally_34 rfl rfl ?_
        refine A_getf (v := .ref (q_h G + (tb + 5))) hg fl_RX8_33 dX8_tally_35 hc_24 (by omega) rfl ?_
        refine A_iload_n hg dX8_tally_38 rfl rfl ?_
        refine A_iald (j := p) hg dX8_tally_39 hc_22 (by omega) (by omega) (by decide) ?_
        refine A_max hg ml_RX8_85 dX8_tally_40 ⟨by decide, by decide, by decide, by decide⟩ (Nat.le_of_ble_eq_true rfl) ?_
        refine A_top (w := .int (nI (max (s_mx va p) (va p)))) (q_max (a := s_mx va p) (b := va p) (by omega) (by omega)) ?_
        refine A_putf hg fl_RX8_42 dX8_tally_43 hc_24 (by omega) (Nat.le_of_ble_eq_true rfl) rfl rfl rfl (fun σ_27 hc_28 hf_29 => ?_)
        have hc_28 : σ_27 tb = o8 G (tb) (nI (fl)) (nI (n0)) (nI (max (s_mx va p) (va p))) (nI (s_mx sp p)) (nI (s_cnt (fun q => va q == 0) p)) (nI (x_tc.x_sum va p)) := hc_28
        have hc_30 : σ_27 (tb + 5) = q_an G 1681 va := (hf_29 _ (by omega)).trans hc_22
        have hc_31 : σ_27 (tb + 6) = q_an G 1681 sp := (hf_29 _ (by omega)).trans hc_23
        refine A_aload_n hg dX8_tally_46 rfl rfl ?_
        refine A_aload_n hg dX8_tally_47 rfl rfl ?_
        refine A_getf (v := .int (nI (s_mx sp p))) hg fl_RX8_45 dX8_tally_48 hc_28 (by omega) rfl ?_
        refine A_aload_n hg dX8_tally_51 rfl rfl ?_
        refine A_getf (v := .ref (q_h G + (tb + 6))) hg fl_RX8_36 dX8_tally_52 hc_28 (by omega) rfl ?_
        refine A_iload_n hg dX8_tally_55 rfl rfl ?_
        refine A_iald (j := p) hg dX8_tally_56 hc_31 (by omega) (by omega) (by decide) ?_
        refine A_max hg ml_RX8_85 dX8_tally_57 ⟨by decide, by decide, by decide, by decide⟩ (Nat.le_of_ble_eq_true rfl) ?_
        refine A_top (w := .int (nI (max (s_mx sp p) (sp p)))) (q_max (a := s_mx sp p) (b := sp p) (by omega) (by omega)) ?_
        refine A_putf hg fl_RX8_45 dX8_tally_60 hc_28 (by omega) (Nat.le_of_ble_eq_true rfl) rfl rfl rfl (fun σ_32 hc_33 hf_34 => ?_)
        have hc_33 : σ_32 tb = o8 G (tb) (nI (fl)) (nI (n0)) (nI (max (s_mx va p) (va p))) (nI (max (s_mx sp p) (sp p))) (nI (s_cnt (fun q => va q == 0) p)) (nI (x_tc.x_sum va p)) := hc_33
        have hc_35 : σ_32 (tb + 5) = q_an G 1681 va := (hf_34 _ (by omega)).trans hc_30
        have hc_36 : σ_32 (tb + 6) = q_an G 1681 sp := (hf_34 _ (by omega)).trans hc_31
        refine A_aload_n hg dX8_tally_63 rfl rfl ?_
        refine A_dup hg dX8_tally_64 rfl ?_
        refine A_getf (v := .int (nI (s_cnt (fun q => va q == 0) p))) hg fl_RX8_48 dX8_tally_65 hc_33 (by omega) rfl ?_
        refine A_aload_n hg dX8_tally_68 rfl rfl ?_
        refine A_getf (v := .ref (q_h G + (tb + 5))) hg fl_RX8_33 dX8_tally_69 hc_33 (by omega) rfl ?_
        refine A_iload_n hg dX8_tally_72 rfl rfl ?_
        refine A_iald (j := p) hg dX8_tally_73 hc_35 (by omega) (by omega) (by decide) ?_
        refine A_if_neN (tgt := 81) hg dX8_tally_74 (by omega) (by decide) (fun c74 => ?_) (fun c74 => ?_)
        · skip
          refine A_iconst (v := (nI (0))) hg dX8_tally_81 (by decide) ?_
          refine A_iaddN hg dX8_tally_82 ?_
          refine A_putf hg fl_RX8_48 dX8_tally_83 hc_33 (by omega) (Nat.le_of_ble_eq_true rfl) rfl rfl rfl (fun σ_37 hc_38 hf_39 => ?_)
          have hc_38 : σ_37 tb = o8 G (tb) (nI (fl)) (nI (n0)) (nI (max (s_mx va p) (va p))) (nI (max (s_mx sp p) (sp p))) (nI ((s_cnt (fun q => va q == 0) p) + 0)) (nI (x_tc.x_sum va p)) := hc_38
          have hc_40 : σ_37 (tb + 5) = q_an G 1681 va := (hf_39 _ (by omega)).trans hc_35
          have hc_41 : σ_37 (tb + 6) = q_an G 1681 sp := (hf_39 _ (by omega)).trans hc_36
          refine A_aload_n hg dX8_tally_86 rfl rfl ?_
          refine A_dup hg dX8_tally_87 rfl ?_
          refine A_getf (v := .int (nI (x_tc.x_sum va p))) hg fl_RX8_51 dX8_tally_88 hc_38 (by omega) rfl ?_
          refine A_aload_n hg dX8_tally_91 rfl rfl ?_
          refine A_getf (v := .ref (q_h G + (tb + 5))) hg fl_RX8_33 dX8_tally_92 hc_38 (by omega) rfl ?_
          refine A_iload_n hg dX8_tally_95 rfl rfl ?_
          refine A_iald (j := p) hg dX8_tally_96 hc_40 (by omega) (by omega) (by decide) ?_
          refine A_iaddN hg dX8_tally_97 ?_
          refine A_putf hg fl_RX8_51 dX8_tally_98 hc_38 (by omega) (Nat.le_of_ble_eq_true rfl) rfl rfl rfl (fun σ_42 hc_43 hf_44 => ?_)
          have hc_43 : σ_42 tb = o8 G (tb) (nI (fl)) (nI (n0)) (nI (max (s_mx va p) (va p))) (nI (max (s_mx sp p) (sp p))) (nI ((s_cnt (fun q => va q == 0) p) + 0)) (nI ((x_tc.x_sum va p) + (va p))) := hc_43
          have hc_45 : σ_42 (tb + 5) = q_an G 1681 va := (hf_44 _ (by omega)).trans hc_40
          have hc_46 : σ_42 (tb + 6) = q_an G 1681 sp := (hf_44 _ (by omega)).trans hc_41
          have elm : s_cnt (fun q => va q == 0) (p + 1) = s_cnt (fun q => va q == 0) p := by first | exact s_cnt_t (P := fun q => va q == 0) (beq_iff_eq.mpr c74) | exact s_cnt_f (P := fun q => va q == 0) (beq_eq_false_iff_ne.mpr c74)
          have hc_47 : σ_42 tb = o8 G (tb) (nI (fl)) (nI (n0)) (nI (s_mx va (p + 1))) (nI (s_mx sp (p + 1))) (nI (s_cnt (fun q => va q == 0) (p + 1))) (nI (x_tc.x_sum va (p + 1))) := hc_43.trans (by rw [elm]; rfl)
          refine A_iincN (k' := 1) hg dX8_tally_101 (by decide) rfl (by decide) (q_c1d rfl) ?_
          refine A_eq (ls2 := [some (.ref (q_h G + tb)), some (.int (nI (p + 1)))]) (st2 := []) (pc2 := 0) rfl rfl ?_
          refine A_goto (tgt := 22) hg dX8_tally_104 (by decide) ?_
          exact ih22 (p + 1) σ_42 hc_45 hc_46 hc_47 (fun i hi => ((hf_44 i (by omega)).trans ((hf_39 i (by omega)).trans ((hf_34 i (by omega)).trans ((hf_29 i (by omega)).trans (hf_25 i (by omega))))))) (by omega) (by omega)
        · skip
          refine A_iconst (v := (nI (1))) hg dX8_tally_77 (by decide) ?_
          refine A_goto (tgt := 82) hg dX8_tally_78 (by decide) ?_
          refine A_iaddN hg dX8_tally_82 ?_
          refine A_putf hg fl_RX8_48 dX8_tally_83 hc_33 (by omega) (Nat.le_of_ble_eq_true rfl) rfl rfl rfl (fun σ_48 hc_49 hf_50 => ?_)
          have hc_49 : σ_48 tb = o8 G (tb) (nI (fl)) (nI (n0)) (nI (max (s_mx va p) (va p))) (nI (max (s_mx sp p) (sp p))) (nI ((s_cnt (fun q => va q == 0) p) + 1)) (nI (x_tc.x_sum va p)) := hc_49
          have hc_51 : σ_48 (tb + 5) = q_an G 1681 va := (hf_50 _ (by omega)).trans hc_35
          have hc_52 : σ_48 (tb + 6) = q_an G 1681 sp := (hf_50 _ (by omega)).trans hc_36
          refine A_aload_n hg dX8_tally_86 rfl rfl ?_
          refine A_dup hg dX8_tally_87 rfl ?_
          refine A_getf (v := .int (nI (x_tc.x_sum va p))) hg fl_RX8_51 dX8_tally_88 hc_49 (by omega) rfl ?_
          refine A_aload_n hg dX8_tally_91 rfl rfl ?_
          refine A_getf (v := .ref (q_h G + (tb + 5))) hg fl_RX8_33 dX8_tally_92 hc_49 (by omega) rfl ?_
          refine A_iload_n hg dX8_tally_95 rfl rfl ?_
          refine A_iald (j := p) hg dX8_tally_96 hc_51 (by omega) (by omega) (by decide) ?_
          refine A_iaddN hg dX8_tally_97 ?_
          refine A_putf hg fl_RX8_51 dX8_tally_98 hc_49 (by omega) (Nat.le_of_ble_eq_true rfl) rfl rfl rfl (fun σ_53 hc_54 hf_55 => ?_)
          have hc_54 : σ_53 tb = o8 G (tb) (nI (fl)) (nI (n0)) (nI (max (s_mx va p) (va p))) (nI (max (s_mx sp p) (sp p))) (nI ((s_cnt (fun q => va q == 0) p) + 1)) (nI ((x_tc.x_sum va p) + (va p))) := hc_54
          have hc_56 : σ_53 (tb + 5) = q_an G 1681 va := (hf_55 _ (by omega)).trans hc_51
          have hc_57 : σ_53 (tb + 6) = q_an G 1681 sp := (hf_55 _ (by omega)).trans hc_52
          have elm : s_cnt (fun q => va q == 0) (p + 1) = s_cnt (fun q => va q == 0) p + 1 := by first | exact s_cnt_t (P := fun q => va q == 0) (beq_iff_eq.mpr c74) | exact s_cnt_f (P := fun q => va q == 0) (beq_eq_false_iff_ne.mpr c74)
          have hc_58 : σ_53 tb = o8 G (tb) (nI (fl)) (nI (n0)) (nI (s_mx va (p + 1))) (nI (s_mx sp (p + 1))) (nI (s_cnt (fun q => va q == 0) (p + 1))) (nI (x_tc.x_sum va (p + 1))) := hc_54.trans (by rw [elm]; rfl)
          refine A_iincN (k' := 1) hg dX8_tally_101 (by decide) rfl (by decide) (q_c1d rfl) ?_
          refine A_eq (ls2 := [some (.ref (q_h G + tb)), some (.int (nI (p + 1)))]) (st2 := []) (pc2 := 0) rfl rfl ?_
          refine A_goto (tgt := 22) hg dX8_tally_104 (by decide) ?_
          exact ih22 (p + 1) σ_53 hc_56 hc_57 hc_58 (fun i hi => ((hf_55 i (by omega)).trans ((hf_50 i (by omega)).trans ((hf_34 i (by omega)).trans ((hf_29 i (by omega)).trans (hf_25 i (by omega))))))) (by omega) (by omega)
  exact hL22 _ 0 σ_16 hc_19 hc_20 hc_17 (fun i hi => ((hf_18 i (by omega)).trans ((hf_13 i (by omega)).trans ((hf_8 i (by omega)).trans (hf_3 i (by omega)))))) (Nat.zero_le _) (Nat.lt_succ_self _)
set_option maxRecDepth 100000 in
set_option maxHeartbeats 4000000 in
theorem c_X8_gatherSteps (G : GL) (ex : Bool) (n : Nat) (σ : Nat → va_E) (tb : Nat) (fl : Nat) (n0 : Nat) (gv : Nat) (gs : Nat) (lm : Nat) (vs : Nat) (rb : Nat) (u : Nat → Nat) (nm : Nat) (on : Nat) (bm : Nat → Nat) (nmT : Nat) (onT : Nat) (slT : Nat) (moT : Nat) (nbT : Nat) (bmT : Nat → Nat) (skf : Nat → Nat) (slf : Nat → Nat) (hc0 : σ tb = o8 G (tb) (nI (fl)) (nI (n0)) (nI (gv)) (nI (gs)) (nI (lm)) (nI (vs))) (hc1 : σ (tb + 3) = q_an G 1681 skf) (hc2 : σ (tb + 4) = q_an G 1681 slf) (hc3 : σ (tb + 1) = o7 G (tb + 1) (lN (nmT)) (lN (onT)) (nI (slT)) (nI (moT)) (nI (nbT))) (hc4 : σ (tb + 2) = q_an G 5 bmT) (hc5 : σ rb = o7 G (rb) (lN (nm)) (lN (on)) (nI (u 18)) (nI (u 19)) (nI (u 20))) (hc6 : σ (rb + 1) = q_an G 5 bm) (htb : tb + 7 < n) (hrb : rb + 1 < n) (hap : rb + 1 < tb ∨ tb + 7 < rb) (hw : x_w u) (hon : x_on u on) (hbm : x_bm u bm) : Ct G yX8_gatherSteps cX8_gatherSteps 4 none ⟨2, 0, 0, 51⟩ [.ref (q_h G + tb), .ref (q_h G + rb)] ex n σ (fun v9 σ2 => v9 = none ∧ ∃ (kf : Nat → Nat), ∃ (lf : Nat → Nat), (x_st (s_A u) kf lf 1681) ∧ σ2 tb = o8 G (tb) (nI (fl)) (nI (s_cnt (s_A u) 1681)) (nI (gv)) (nI (gs)) (nI (lm)) (nI (vs)) ∧ σ2 (tb + 3) = q_an G 1681 kf ∧ σ2 (tb + 4) = q_an G 1681 lf ∧ σ2 (tb + 1) = o7 G (tb + 1) (lN (nm)) (lN (on)) (nI (u 18)) (nI (u 19)) (nI (u 20)) ∧ σ2 (tb + 2) = q_an G 5 bm ∧ (∀ i : Nat, i < tb ∨ tb + 4 < i → σ2 i = σ i)) := by
  refine q_enter [some (.ref (q_h G + tb)), some (.ref (q_h G + rb)), none, none] (by decide) (Nat.le_of_ble_eq_true rfl) rfl ?_
  intro K hg
  obtain ⟨Q, hQ⟩ : ∃ Q, Q = q_Q G K ex n 0 0 (fun v9 n' σ' => n' = n ∧ (fun v9 σ2 => v9 = none ∧ ∃ (kf : Nat → Nat), ∃ (lf : Nat → Nat), (x_st (s_A u) kf lf 1681) ∧ σ2 tb = o8 G (tb) (nI (fl)) (nI (s_cnt (s_A u) 1681)) (nI (gv)) (nI (gs)) (nI (lm)) (nI (vs)) ∧ σ2 (tb + 3) = q_an G 1681 kf ∧ σ2 (tb + 4) = q_an G 1681 lf ∧ σ2 (tb + 1) = o7 G (tb + 1) (lN (nm)) (lN (on)) (nI (u 18)) (nI (u 19)) (nI (u 20)) ∧ σ2 (tb + 2) = q_an G 5 bm ∧ (∀ i : Nat, i < tb ∨ tb + 4 < i → σ2 i = σ i)) v9 σ') q_noX := ⟨_, rfl⟩
  refine (?_ : AJ G K (q_Q G K ex n 0 0 _ _) 0 0 ex n 0 _ _ σ)
  rw [← hQ]
  refine A_aload_n hg dX8_gatherSteps_0 rfl rfl ?_
  refine A_getf (v := .ref (q_h G + (tb + 1))) hg fl_RX8_12 dX8_gatherSteps_1 hc0 (by omega) rfl ?_
  refine A_aload_n hg dX8_gatherSteps_4 rfl rfl ?_
  refine A_vV (kc2 := 0) (ks2 := 0) (As := [.ref (q_h G + rb)]) (rest := []) hg lk_RX8_78 in_X7_copyFrom se_X7_copyFrom rfl dX8_gatherSteps_5 ⟨by decide, by decide⟩ rfl rfl ⟨by decide, by decide⟩ hc3 (by omega) rfl rfl (Nat.le_of_ble_eq_true rfl) (c_X7_copyFrom G ex n σ (tb + 1) nmT onT slT moT nbT bmT rb nm on (u 18) (u 19) (u 20) bm hc3 hc4 hc5 hc6 (by omega) (by omega) (by omega)) ?_
  rintro σ_4 ⟨hc_1, hc_2, hf_3⟩
  have hc_5 : σ_4 tb = o8 G (tb) (nI (fl)) (nI (n0)) (nI (gv)) (nI (gs)) (nI (lm)) (nI (vs)) := (hf_3 _ (by omega)).trans hc0
  have hc_6 : σ_4 (tb + 3) = q_an G 1681 skf := (hf_3 _ (by omega)).trans hc1
  have hc_7 : σ_4 (tb + 4) = q_an G 1681 slf := (hf_3 _ (by omega)).trans hc2
  have hc_8 : σ_4 rb = o7 G (rb) (lN (nm)) (lN (on)) (nI (u 18)) (nI (u 19)) (nI (u 20)) := (hf_3 _ (by omega)).trans hc5
  have hc_9 : σ_4 (rb + 1) = q_an G 5 bm := (hf_3 _ (by omega)).trans hc6
  refine A_aload_n hg dX8_gatherSteps_8 rfl rfl ?_
  refine A_iconst (v := (nI (0))) hg dX8_gatherSteps_9 (by decide) ?_
  refine A_putf hg fl_RX8_29 dX8_gatherSteps_10 hc_5 (by omega) (Nat.le_of_ble_eq_true rfl) rfl rfl rfl (fun σ_10 hc_11 hf_12 => ?_)
  have hc_11 : σ_10 tb = o8 G (tb) (nI (fl)) (nI (0)) (nI (gv)) (nI (gs)) (nI (lm)) (nI (vs)) := hc_11
  have hc_13 : σ_10 (tb + 3) = q_an G 1681 skf := (hf_12 _ (by omega)).trans hc_6
  have hc_14 : σ_10 (tb + 4) = q_an G 1681 slf := (hf_12 _ (by omega)).trans hc_7
  have hc_15 : σ_10 rb = o7 G (rb) (lN (nm)) (lN (on)) (nI (u 18)) (nI (u 19)) (nI (u 20)) := (hf_12 _ (by omega)).trans hc_8
  have hc_16 : σ_10 (rb + 1) = q_an G 5 bm := (hf_12 _ (by omega)).trans hc_9
  have hc_17 : σ_10 (tb + 1) = o7 G (tb + 1) (lN (nm)) (lN (on)) (nI (u 18)) (nI (u 19)) (nI (u 20)) := (hf_12 _ (by omega)).trans hc_1
  have hc_18 : σ_10 ((tb + 1) + 1) = q_an G 5 bm := (hf_12 _ (by omega)).trans hc_2
  refine A_iconst (v := (nI (0))) hg dX8_gatherSteps_13 (by decide) ?_
  refine A_istore_n hg dX8_gatherSteps_14 rfl (by decide) (q_c1d rfl) ?_
  refine A_eq (ls2 := [some (.ref (q_h G + tb)), some (.ref (q_h G + rb)), some (.int (nI (0))), none]) (st2 := []) (pc2 := 0) rfl rfl ?_
  have hL15 : ∀ (fu : Nat) (k : Nat) (n1 : Nat) (kf : Nat → Nat) (lf : Nat → Nat) (σ_19 : Nat → va_E), (σ_19 (tb + 3) = q_an G 1681 kf) → (σ_19 (tb + 4) = q_an G 1681 lf) → (σ_19 rb = o7 G (rb) (lN (nm)) (lN (on)) (nI (u 18)) (nI (u 19)) (nI (u 20))) → (σ_19 (rb + 1) = q_an G 5 bm) → (σ_19 (tb + 1) = o7 G (tb + 1) (lN (nm)) (lN (on)) (nI (u 18)) (nI (u 19)) (nI (u 20))) → (σ_19 ((tb + 1) + 1) = q_an G 5 bm) → (σ_19 tb = o8 G (tb) (nI (fl)) (nI (n1)) (nI (gv)) (nI (gs)) (nI (lm)) (nI (vs))) → (∀ i : Nat, i < tb ∨ tb + 4 < i → σ_19 i = σ i) → (k ≤ 41) → (n1 = s_cnt (s_A u) (41 * k)) → (x_st (s_A u) kf lf (41 * k)) → (41 - k) < fu → AJ G K Q 0 0 ex n 15 [some (.ref (q_h G + tb)), some (.ref (q_h G + rb)), some (.int (nI (k))), none] [] σ_19 := by
    intro fu
    induction fu with
    | zero => intro k n1 kf lf σ_19 hc_20 hc_21 hc_22 hc_23 hc_24 hc_25 hc_26 hf_27 hk hnq hsq hm; exact absurd hm (Nat.not_lt_zero _)
    | succ fu ih15 =>
      intro k n1 kf lf σ_19 hc_20 hc_21 hc_22 hc_23 hc_24 hc_25 hc_26 hf_27 hk hnq hsq hm15
      refine A_iload_n hg dX8_gatherSteps_15 rfl rfl ?_
      refine A_bipush (v := (nI (40))) hg dX8_gatherSteps_16 (by decide) ?_
      refine A_icmp_gtN (tgt := 96) hg dX8_gatherSteps_18 (by omega) (by decide) (by decide) (fun c18 => ?_) (fun c18 => ?_)
      · skip
        have hc_28 : σ_19 tb = o8 G (tb) (nI (fl)) (nI (s_cnt (s_A u) 1681)) (nI (gv)) (nI (gs)) (nI (lm)) (nI (vs)) := hc_26.trans (by rw [hnq, show k = 41 by omega])
        rw [hQ]
        exact A_return hg (by decide) (by decide) rfl dX8_gatherSteps_96 ⟨rfl, ⟨rfl, kf, lf, (by rw [show k = 41 by omega] at hsq; exact hsq), hc_28, hc_20, hc_21, hc_24, hc_25, (fun i hi => (hf_27 i (by omega)))⟩⟩
      · skip
        refine A_iconst (v := (nI (0))) hg dX8_gatherSteps_21 (by decide) ?_
        refine A_istore_n hg dX8_gatherSteps_22 rfl (by decide) (q_c1d rfl) ?_
        refine A_eq (ls2 := [some (.ref (q_h G + tb)), some (.ref (q_h G + rb)), some (.int (nI (k))), some (.int (nI (0)))]) (st2 := []) (pc2 := 0) rfl rfl ?_
        have hL23 : ∀ (fu : Nat) (l : Nat) (n1 : Nat) (kf : Nat → Nat) (lf : Nat → Nat) (σ_29 : Nat → va_E), (σ_29 (tb + 3) = q_an G 1681 kf) → (σ_29 (tb + 4) = q_an G 1681 lf) → (σ_29 rb = o7 G (rb) (lN (nm)) (lN (on)) (nI (u 18)) (nI (u 19)) (nI (u 20))) → (σ_29 (rb + 1) = q_an G 5 bm) → (σ_29 (tb + 1) = o7 G (tb + 1) (lN (nm)) (lN (on)) (nI (u 18)) (nI (u 19)) (nI (u 20))) → (σ_29 ((tb + 1) + 1) = q_an G 5 bm) → (σ_29 tb = o8 G (tb) (nI (fl)) (nI (n1)) (nI (gv)) (nI (gs)) (nI (lm)) (nI (vs))) → (∀ i : Nat, i < tb ∨ tb + 4 < i → σ_29 i = σ i) → (l ≤ 41) → (n1 = s_cnt (s_A u) (41 * k + l)) → (x_st (s_A u) kf lf (41 * k + l)) → (41 - l) < fu → AJ G K Q 0 0 ex n 23 [some (.ref (q_h G + tb)), some (.ref (q_h G + rb)), some (.int (nI (k))), some (.int (nI (l)))] [] σ_29 := by
          intro fu
          induction fu with
          | zero => intro l n1 kf lf σ_29 hc_30 hc_31 hc_32 hc_33 hc_34 hc_35 hc_36 hf_37 hl hnq hsq hm; exact absurd hm (Nat.not_lt_zero _)
          | succ fu ih23 =>
            intro l n1 kf lf σ_29 hc_30 hc_31 hc_32 hc_33 hc_34 hc_35 hc_36 hf_37 hl hnq hsq hm23
            have hcq := s_cnt_le (s_A u) (41 * k + l)
            refine A_iload_n hg dX8_gatherSteps_23 rfl rfl ?_
            refine A_bipush (v := (nI (40))) hg dX8_gatherSteps_24 (by decide) ?_
            refine A_icmp_gtN (tgt := 90) hg dX8_gatherSteps_26 (by omega) (by decide) (by decide) (fun c26 => ?_) (fun c26 => ?_)
            · skip
              refine A_iincN (k' := 1) hg dX8_gatherSteps_90 (by decide) rfl (by decide) (q_c1d rfl) ?_
              refine A_eq (ls2 := [some (.ref (q_h G + tb)), some (.ref (q_h G + rb)), some (.int (nI (k + 1))), some (.int (nI (l)))]) (st2 := []) (pc2 := 0) rfl rfl ?_
              refine A_goto (tgt := 15) hg dX8_gatherSteps_93 (by decide) ?_
              refine A_drop 3 ?_
              exact ih15 (k + 1) n1 kf lf σ_29 hc_30 hc_31 hc_32 hc_33 hc_34 hc_35 hc_36 (fun i hi => (hf_37 i (by omega))) (by omega) (by rw [hnq, show l = 41 by omega]; rfl) (by rw [show l = 41 by omega] at hsq; exact hsq) (by omega)
            · skip
              refine A_iload_n hg dX8_gatherSteps_29 rfl rfl ?_
              refine A_iload_n hg dX8_gatherSteps_30 rfl rfl ?_
              refine A_iaddN hg dX8_gatherSteps_31 ?_
              refine A_if_leN (tgt := 84) hg dX8_gatherSteps_32 (by omega) (by decide) (fun c32 => ?_) (fun c32 => ?_)
              · skip
                have hAf : s_A u (41 * k + l) = false := x_A_f (by omega) (by first | exact Or.inl (by omega) | exact Or.inr c41)
                refine A_iincN (k' := 1) hg dX8_gatherSteps_84 (by decide) rfl (by decide) (q_c1d rfl) ?_
                refine A_eq (ls2 := [some (.ref (q_h G + tb)), some (.ref (q_h G + rb)), some (.int (nI (k))), some (.int (nI (l + 1)))]) (st2 := []) (pc2 := 0) rfl rfl ?_
                refine A_goto (tgt := 23) hg dX8_gatherSteps_87 (by decide) ?_
                exact ih23 (l + 1) n1 kf lf σ_29 hc_30 hc_31 hc_32 hc_33 hc_34 hc_35 hc_36 (fun i hi => (hf_37 i (by omega))) (by omega) (by rw [← Nat.add_assoc, s_cnt_f hAf, ← hnq]) (x_st_f hsq hAf) (by omega)
              · skip
                refine A_aload_n hg dX8_gatherSteps_35 rfl rfl ?_
                refine A_iload_n hg dX8_gatherSteps_36 rfl rfl ?_
                refine A_iload_n hg dX8_gatherSteps_37 rfl rfl ?_
                refine A_eV (kc2 := 0) (ks2 := 0) (As := [.int (nI (k)), .int (nI (l))]) (rest := []) hg lk_RX8_81 in_X7_refusal se_X7_refusal rfl dX8_gatherSteps_38 ⟨by decide, by decide⟩ rfl rfl ⟨by decide, by decide⟩ hc_32 (by omega) rfl rfl (Nat.le_of_ble_eq_true rfl) (c_X7_refusal G ex n σ_29 rb u nm on bm k l hc_32 hc_33 (by omega) hw hon hbm (by omega) (by omega)) ?_
                refine A_if_neN (tgt := 84) hg dX8_gatherSteps_41 (by have := s_forb_le u k l; omega) (by decide) (fun c41 => ?_) (fun c41 => ?_)
                · skip
                  have hAf : s_A u (41 * k + l) = false := x_A_f (by omega) (by first | exact Or.inl (by omega) | exact Or.inr c41)
                  refine A_iincN (k' := 1) hg dX8_gatherSteps_84 (by decide) rfl (by decide) (q_c1d rfl) ?_
                  refine A_eq (ls2 := [some (.ref (q_h G + tb)), some (.ref (q_h G + rb)), some (.int (nI (k))), some (.int (nI (l + 1)))]) (st2 := []) (pc2 := 0) rfl rfl ?_
                  refine A_goto (tgt := 23) hg dX8_gatherSteps_87 (by decide) ?_
                  exact ih23 (l + 1) n1 kf lf σ_29 hc_30 hc_31 hc_32 hc_33 hc_34 hc_35 hc_36 (fun i hi => (hf_37 i (by omega))) (by omega) (by rw [← Nat.add_assoc, s_cnt_f hAf, ← hnq]) (x_st_f hsq hAf) (by omega)
                · skip
                  refine A_aload_n hg dX8_gatherSteps_44 rfl rfl ?_
                  refine A_getf (v := .int (nI (n1))) hg fl_RX8_29 dX8_gatherSteps_45 hc_36 (by omega) rfl ?_
                  refine A_sipush (v := (nI (1681))) hg dX8_gatherSteps_48 (by decide) ?_
                  refine A_icmp_geN (tgt := 84) hg dX8_gatherSteps_51 (by omega) (by decide) (by decide) (fun c51 => absurd c51 (by omega)) (fun c51 => ?_)
                  have hAt : s_A u (41 * k + l) = true := x_A_t (by omega) (by omega) c41
                  refine A_aload_n hg dX8_gatherSteps_54 rfl rfl ?_
                  refine A_getf (v := .ref (q_h G + (tb + 3))) hg fl_RX8_22 dX8_gatherSteps_55 hc_36 (by omega) rfl ?_
                  refine A_aload_n hg dX8_gatherSteps_58 rfl rfl ?_
                  refine A_getf (v := .int (nI (n1))) hg fl_RX8_29 dX8_gatherSteps_59 hc_36 (by omega) rfl ?_
                  refine A_iload_n hg dX8_gatherSteps_62 rfl rfl ?_
                  refine A_iast (j := n1) (x := k) hg dX8_gatherSteps_63 hc_30 (by omega) (by omega) (by decide) (fun σ_38 hc_39 hf_40 => ?_)
                  have hc_41 : σ_38 (tb + 4) = q_an G 1681 lf := (hf_40 _ (by omega)).trans hc_31
                  have hc_42 : σ_38 rb = o7 G (rb) (lN (nm)) (lN (on)) (nI (u 18)) (nI (u 19)) (nI (u 20)) := (hf_40 _ (by omega)).trans hc_32
                  have hc_43 : σ_38 (rb + 1) = q_an G 5 bm := (hf_40 _ (by omega)).trans hc_33
                  have hc_44 : σ_38 (tb + 1) = o7 G (tb + 1) (lN (nm)) (lN (on)) (nI (u 18)) (nI (u 19)) (nI (u 20)) := (hf_40 _ (by omega)).trans hc_34
                  have hc_45 : σ_38 ((tb + 1) + 1) = q_an G 5 bm := (hf_40 _ (by omega)).trans hc_35
                  have hc_46 : σ_38 tb = o8 G (tb) (nI (fl)) (nI (n1)) (nI (gv)) (nI (gs)) (nI (lm)) (nI (vs)) := (hf_40 _ (by omega)).trans hc_36
                  refine A_aload_n hg dX8_gatherSteps_64 rfl rfl ?_
                  refine A_getf (v := .ref (q_h G + (tb + 4))) hg fl_RX8_26 dX8_gatherSteps_65 hc_46 (by omega) rfl ?_
                  refine A_aload_n hg dX8_gatherSteps_68 rfl rfl ?_
                  refine A_getf (v := .int (nI (n1))) hg fl_RX8_29 dX8_gatherSteps_69 hc_46 (by omega) rfl ?_
                  refine A_iload_n hg dX8_gatherSteps_72 rfl rfl ?_
                  refine A_iast (j := n1) (x := l) hg dX8_gatherSteps_73 hc_41 (by omega) (by omega) (by decide) (fun σ_47 hc_48 hf_49 => ?_)
                  have hc_50 : σ_47 rb = o7 G (rb) (lN (nm)) (lN (on)) (nI (u 18)) (nI (u 19)) (nI (u 20)) := (hf_49 _ (by omega)).trans hc_42
                  have hc_51 : σ_47 (rb + 1) = q_an G 5 bm := (hf_49 _ (by omega)).trans hc_43
                  have hc_52 : σ_47 (tb + 1) = o7 G (tb + 1) (lN (nm)) (lN (on)) (nI (u 18)) (nI (u 19)) (nI (u 20)) := (hf_49 _ (by omega)).trans hc_44
                  have hc_53 : σ_47 ((tb + 1) + 1) = q_an G 5 bm := (hf_49 _ (by omega)).trans hc_45
                  have hc_54 : σ_47 tb = o8 G (tb) (nI (fl)) (nI (n1)) (nI (gv)) (nI (gs)) (nI (lm)) (nI (vs)) := (hf_49 _ (by omega)).trans hc_46
                  have hc_55 : σ_47 (tb + 3) = q_an G 1681 (va_up kf n1 k) := (hf_49 _ (by omega)).trans hc_39
                  refine A_aload_n hg dX8_gatherSteps_74 rfl rfl ?_
                  refine A_dup hg dX8_gatherSteps_75 rfl ?_
                  refine A_getf (v := .int (nI (n1))) hg fl_RX8_29 dX8_gatherSteps_76 hc_54 (by omega) rfl ?_
                  refine A_iconst (v := (nI (1))) hg dX8_gatherSteps_79 (by decide) ?_
                  refine A_iaddN hg dX8_gatherSteps_80 ?_
                  refine A_putf hg fl_RX8_29 dX8_gatherSteps_81 hc_54 (by omega) (Nat.le_of_ble_eq_true rfl) rfl rfl rfl (fun σ_56 hc_57 hf_58 => ?_)
                  have hc_57 : σ_56 tb = o8 G (tb) (nI (fl)) (nI (n1 + 1)) (nI (gv)) (nI (gs)) (nI (lm)) (nI (vs)) := hc_57
                  have hc_59 : σ_56 rb = o7 G (rb) (lN (nm)) (lN (on)) (nI (u 18)) (nI (u 19)) (nI (u 20)) := (hf_58 _ (by omega)).trans hc_50
                  have hc_60 : σ_56 (rb + 1) = q_an G 5 bm := (hf_58 _ (by omega)).trans hc_51
                  have hc_61 : σ_56 (tb + 1) = o7 G (tb + 1) (lN (nm)) (lN (on)) (nI (u 18)) (nI (u 19)) (nI (u 20)) := (hf_58 _ (by omega)).trans hc_52
                  have hc_62 : σ_56 ((tb + 1) + 1) = q_an G 5 bm := (hf_58 _ (by omega)).trans hc_53
                  have hc_63 : σ_56 (tb + 3) = q_an G 1681 (va_up kf n1 k) := (hf_58 _ (by omega)).trans hc_55
                  have hc_64 : σ_56 (tb + 4) = q_an G 1681 (va_up lf n1 l) := (hf_58 _ (by omega)).trans hc_48
                  refine A_iincN (k' := 1) hg dX8_gatherSteps_84 (by decide) rfl (by decide) (q_c1d rfl) ?_
                  refine A_eq (ls2 := [some (.ref (q_h G + tb)), some (.ref (q_h G + rb)), some (.int (nI (k))), some (.int (nI (l + 1)))]) (st2 := []) (pc2 := 0) rfl rfl ?_
                  refine A_goto (tgt := 23) hg dX8_gatherSteps_87 (by decide) ?_
                  exact ih23 (l + 1) (n1 + 1) (va_up kf n1 k) (va_up lf n1 l) σ_56 hc_63 hc_64 hc_59 hc_60 hc_61 hc_62 hc_57 (fun i hi => ((hf_58 i (by omega)).trans ((hf_49 i (by omega)).trans ((hf_40 i (by omega)).trans (hf_37 i (by omega)))))) (by omega) (by rw [← Nat.add_assoc, s_cnt_t hAt, ← hnq]) (x_st_t hsq hnq hAt (by omega) (by omega)) (by omega)
        exact hL23 _ 0 n1 kf lf σ_19 hc_20 hc_21 hc_22 hc_23 hc_24 hc_25 hc_26 (fun i hi => (hf_27 i (by omega))) (Nat.zero_le _) hnq hsq (Nat.lt_succ_self _)
  exact hL15 _ 0 0 skf slf σ_10 hc_13 hc_14 hc_15 hc_16 hc_17 hc_18 hc_11 (fun i hi => ((hf_12 i (by omega)).trans (hf_3 i (by omega)))) (Nat.zero_le _) rfl (fun j h => absurd h (Nat.not_lt_zero j)) (Nat.lt_succ_self _)
end
