section
set_option maxRecDepth 100000 in
set_option maxHeartbeats 4000000 in
theorem c_X8_losingPlace (G : GL) (ex : Bool) (n : Nat) (σ : Nat → va_E) (tb : Nat) (fl : Nat) (n0 : Nat) (gv : Nat) (gs : Nat) (lm : Nat) (vs : Nat) (va : Nat → Nat) (ix : Int32) (hc0 : σ tb = o8 G (tb) (nI (fl)) (nI (n0)) (nI (gv)) (nI (gs)) (nI (lm)) (nI (vs))) (hc1 : σ (tb + 5) = q_an G 1681 va) (htb : tb + 7 < n) (hvb : ∀ j : Nat, j < 1681 → va j < 2 ^ 31) : Ct G yX8_losingPlace cX8_losingPlace 4 (some .int) ⟨0, 0, 0, 0⟩ [.ref (q_h G + tb), .int (ix)] ex n σ (fun v9 σ2 => (∃ (j : Nat), v9 = some (.int (nI (j))) ∧ (j < 1681) ∧ (va j = 0) ∧ (ix = nI (s_cnt (fun q => va q == 0) j)) ∧ σ2 = σ) ∨ (v9 = some (.int (q_d (0))) ∧ (∀ j : Nat, j < s_cnt (fun q => va q == 0) 1681 → ix = nI j → False) ∧ σ2 = σ)) := by
  refine q_enter [some (.ref (q_h G + tb)), some (.int (ix)), none, none] (by decide) (Nat.le_of_ble_eq_true rfl) rfl ?_
  intro K hg
  obtain ⟨Q, hQ⟩ : ∃ Q, Q = q_Q G K ex n 0 0 (fun v9 n' σ' => n' = n ∧ (fun v9 σ2 => (∃ (j : Nat), v9 = some (.int (nI (j))) ∧ (j < 1681) ∧ (va j = 0) ∧ (ix = nI (s_cnt (fun q => va q == 0) j)) ∧ σ2 = σ) ∨ (v9 = some (.int (q_d (0))) ∧ (∀ j : Nat, j < s_cnt (fun q => va q == 0) 1681 → ix = nI j → False) ∧ σ2 = σ)) v9 σ') q_noX := ⟨_, rfl⟩
  refine (?_ : AJ G K (q_Q G K ex n 0 0 _ _) 0 0 ex n 0 _ _ σ)
  rw [← hQ]
  refine A_iconst (v := (nI (0))) hg dX8_losingPlace_0 (by decide) ?_
  refine A_istore_n hg dX8_losingPlace_1 rfl (by decide) (q_c1d rfl) ?_
  refine A_eq (ls2 := [some (.ref (q_h G + tb)), some (.int (ix)), some (.int (nI (0))), none]) (st2 := []) (pc2 := 0) rfl rfl ?_
  refine A_iconst (v := (nI (0))) hg dX8_losingPlace_2 (by decide) ?_
  refine A_istore_n hg dX8_losingPlace_3 rfl (by decide) (q_c1d rfl) ?_
  refine A_eq (ls2 := [some (.ref (q_h G + tb)), some (.int (ix)), some (.int (nI (0))), some (.int (nI (0)))]) (st2 := []) (pc2 := 0) rfl rfl ?_
  have hL4 : ∀ (fu : Nat) (q : Nat) (a : Nat), (q ≤ 1681) → (a = s_cnt (fun q => va q == 0) q) → (∀ j : Nat, j < a → ix = nI j → False) → (1681 - q) < fu → AJ G K Q 0 0 ex n 4 [some (.ref (q_h G + tb)), some (.int (ix)), some (.int (nI (a))), some (.int (nI (q)))] [] σ := by
    intro fu
    induction fu with
    | zero => intro q a hq ha hnx hm; exact absurd hm (Nat.not_lt_zero _)
    | succ fu ih4 =>
      intro q a hq ha hnx hm4
      have hal := s_cnt_le (fun q => va q == 0) q
      refine A_iload_n hg dX8_losingPlace_4 rfl rfl ?_
      refine A_sipush (v := (nI (1681))) hg dX8_losingPlace_5 (by decide) ?_
      refine A_icmp_geN (tgt := 36) hg dX8_losingPlace_8 (by omega) (by decide) (by decide) (fun c8 => ?_) (fun c8 => ?_)
      · skip
        refine A_iconst (v := (q_d (0))) hg dX8_losingPlace_36 (by decide) ?_
        rw [hQ]
        exact A_ireturn hg (by decide) (by decide) rfl dX8_losingPlace_37 ⟨rfl, Or.inr ((⟨rfl, (fun j hj e => hnx j (by rw [ha, show q = 1681 by omega]; exact hj) e), rfl⟩))⟩
      · skip
        refine A_aload_n hg dX8_losingPlace_11 rfl rfl ?_
        refine A_getf (v := .ref (q_h G + (tb + 5))) hg fl_RX8_33 dX8_losingPlace_12 hc0 (by omega) rfl ?_
        refine A_iload_n hg dX8_losingPlace_15 rfl rfl ?_
        refine A_iald (j := q) hg dX8_losingPlace_16 hc1 (by omega) (by omega) (by decide) ?_
        refine A_if_neN (tgt := 30) hg dX8_losingPlace_17 (hvb _ (by omega)) (by decide) (fun c17 => ?_) (fun c17 => ?_)
        · skip
          refine A_iincN (k' := 1) hg dX8_losingPlace_30 (by decide) rfl (by decide) (q_c1d rfl) ?_
          refine A_eq (ls2 := [some (.ref (q_h G + tb)), some (.int (ix)), some (.int (nI (a))), some (.int (nI (q + 1)))]) (st2 := []) (pc2 := 0) rfl rfl ?_
          refine A_goto (tgt := 4) hg dX8_losingPlace_33 (by decide) ?_
          exact ih4 (q + 1) a (by omega) (by rw [s_cnt_f (P := fun q => va q == 0) (beq_eq_false_iff_ne.mpr c17), ← ha]) hnx (by omega)
        · skip
          refine A_iload_n hg dX8_losingPlace_20 rfl rfl ?_
          refine A_iload_n hg dX8_losingPlace_21 rfl rfl ?_
          refine A_icmp_ne (tgt := 27) hg dX8_losingPlace_22 (by decide) (fun c22 => ?_) (fun c22 => ?_)
          · skip
            refine A_iincN (k' := 1) hg dX8_losingPlace_27 (by decide) rfl (by decide) (q_c1d rfl) ?_
            refine A_eq (ls2 := [some (.ref (q_h G + tb)), some (.int (ix)), some (.int (nI (a + 1))), some (.int (nI (q)))]) (st2 := []) (pc2 := 0) rfl rfl ?_
            refine A_iincN (k' := 1) hg dX8_losingPlace_30 (by decide) rfl (by decide) (q_c1d rfl) ?_
            refine A_eq (ls2 := [some (.ref (q_h G + tb)), some (.int (ix)), some (.int (nI (a + 1))), some (.int (nI (q + 1)))]) (st2 := []) (pc2 := 0) rfl rfl ?_
            refine A_goto (tgt := 4) hg dX8_losingPlace_33 (by decide) ?_
            exact ih4 (q + 1) (a + 1) (by omega) (by rw [s_cnt_t (P := fun q => va q == 0) (beq_iff_eq.mpr c17), ← ha]) (fun j hj e => by by_cases z : j = a; (exact c22 (by rw [e, z])); exact hnx j (by omega) e) (by omega)
          · skip
            refine A_iload_n hg dX8_losingPlace_25 rfl rfl ?_
            rw [hQ]
            exact A_ireturn hg (by decide) (by decide) rfl dX8_losingPlace_26 ⟨rfl, Or.inl (⟨q, rfl, (by first | rfl | assumption | omega), c17, (by rw [← ha]; exact c22.symm), rfl⟩)⟩
  exact hL4 _ 0 0 (Nat.zero_le _) rfl (fun j h => absurd h (Nat.not_lt_zero j)) (Nat.lt_succ_self _)
set_option maxRecDepth 100000 in
set_option maxHeartbeats 4000000 in
theorem c_X8_losingDifference (G : GL) (ex : Bool) (n : Nat) (σ : Nat → va_E) (tb : Nat) (fl : Nat) (n0 : Nat) (gv : Nat) (gs : Nat) (lm : Nat) (vs : Nat) (va : Nat → Nat) (t2 : Nat) (fl2 : Nat) (n02 : Nat) (gv2 : Nat) (gs2 : Nat) (lm2 : Nat) (vs2 : Nat) (va2 : Nat → Nat) (hc0 : σ tb = o8 G (tb) (nI (fl)) (nI (n0)) (nI (gv)) (nI (gs)) (nI (lm)) (nI (vs))) (hc1 : σ (tb + 5) = q_an G 1681 va) (hc2 : σ t2 = o8 G (t2) (nI (fl2)) (nI (n02)) (nI (gv2)) (nI (gs2)) (nI (lm2)) (nI (vs2))) (hc3 : σ (t2 + 5) = q_an G 1681 va2) (htb : tb + 7 < n) (ht2 : t2 + 7 < n) (hvb : ∀ j : Nat, j < 1681 → va j < 2 ^ 31) (hvb2 : ∀ j : Nat, j < 1681 → va2 j < 2 ^ 31) : Ct G yX8_losingDifference cX8_losingDifference 4 (some .int) ⟨0, 0, 0, 0⟩ [.ref (q_h G + tb), .ref (q_h G + t2)] ex n σ (fun v9 σ2 => σ2 = σ ∧ v9 = some (.int (nI (s_cnt (fun q => !((va q == 0) == (va2 q == 0))) 1681)))) := by
  refine q_enter [some (.ref (q_h G + tb)), some (.ref (q_h G + t2)), none, none] (by decide) (Nat.le_of_ble_eq_true rfl) rfl ?_
  intro K hg
  obtain ⟨Q, hQ⟩ : ∃ Q, Q = q_Q G K ex n 0 0 (fun v9 n' σ' => n' = n ∧ (fun v9 σ2 => σ2 = σ ∧ v9 = some (.int (nI (s_cnt (fun q => !((va q == 0) == (va2 q == 0))) 1681)))) v9 σ') q_noX := ⟨_, rfl⟩
  refine (?_ : AJ G K (q_Q G K ex n 0 0 _ _) 0 0 ex n 0 _ _ σ)
  rw [← hQ]
  refine A_iconst (v := (nI (0))) hg dX8_losingDifference_0 (by decide) ?_
  refine A_istore_n hg dX8_losingDifference_1 rfl (by decide) (q_c1d rfl) ?_
  refine A_eq (ls2 := [some (.ref (q_h G + tb)), some (.ref (q_h G + t2)), some (.int (nI (0))), none]) (st2 := []) (pc2 := 0) rfl rfl ?_
  refine A_iconst (v := (nI (0))) hg dX8_losingDifference_2 (by decide) ?_
  refine A_istore_n hg dX8_losingDifference_3 rfl (by decide) (q_c1d rfl) ?_
  refine A_eq (ls2 := [some (.ref (q_h G + tb)), some (.ref (q_h G + t2)), some (.int (nI (0))), some (.int (nI (0)))]) (st2 := []) (pc2 := 0) rfl rfl ?_
  have hL4 : ∀ (fu : Nat) (q : Nat) (a : Nat), (q ≤ 1681) → (a = s_cnt (fun q => !((va q == 0) == (va2 q == 0))) q) → (1681 - q) < fu → AJ G K Q 0 0 ex n 4 [some (.ref (q_h G + tb)), some (.ref (q_h G + t2)), some (.int (nI (a))), some (.int (nI (q)))] [] σ := by
    intro fu
    induction fu with
    | zero => intro q a hq ha hm; exact absurd hm (Nat.not_lt_zero _)
    | succ fu ih4 =>
      intro q a hq ha hm4
      have hal := s_cnt_le (fun q => !((va q == 0) == (va2 q == 0))) q
      refine A_iload_n hg dX8_losingDifference_4 rfl rfl ?_
      refine A_sipush (v := (nI (1681))) hg dX8_losingDifference_5 (by decide) ?_
      refine A_icmp_geN (tgt := 51) hg dX8_losingDifference_8 (by omega) (by decide) (by decide) (fun c8 => ?_) (fun c8 => ?_)
      · skip
        refine A_iload_n hg dX8_losingDifference_51 rfl rfl ?_
        rw [hQ]
        exact A_ireturn hg (by decide) (by decide) rfl dX8_losingDifference_52 ⟨rfl, ⟨rfl, (by rw [ha, show q = 1681 by omega])⟩⟩
      · skip
        refine A_aload_n hg dX8_losingDifference_11 rfl rfl ?_
        refine A_getf (v := .ref (q_h G + (tb + 5))) hg fl_RX8_33 dX8_losingDifference_12 hc0 (by omega) rfl ?_
        refine A_iload_n hg dX8_losingDifference_15 rfl rfl ?_
        refine A_iald (j := q) hg dX8_losingDifference_16 hc1 (by omega) (by omega) (by decide) ?_
        refine A_if_neN (tgt := 24) hg dX8_losingDifference_17 (hvb _ (by omega)) (by decide) (fun c17 => ?_) (fun c17 => ?_)
        · skip
          refine A_iconst (v := (nI (0))) hg dX8_losingDifference_24 (by decide) ?_
          refine A_aload_n hg dX8_losingDifference_25 rfl rfl ?_
          refine A_getf (v := .ref (q_h G + (t2 + 5))) hg fl_RX8_33 dX8_losingDifference_26 hc2 (by omega) rfl ?_
          refine A_iload_n hg dX8_losingDifference_29 rfl rfl ?_
          refine A_iald (j := q) hg dX8_losingDifference_30 hc3 (by omega) (by omega) (by decide) ?_
          refine A_if_neN (tgt := 38) hg dX8_losingDifference_31 (hvb2 _ (by omega)) (by decide) (fun c31 => ?_) (fun c31 => ?_)
          · skip
            refine A_iconst (v := (nI (0))) hg dX8_losingDifference_38 (by decide) ?_
            refine A_icmp_eqN (tgt := 45) hg dX8_losingDifference_39 (by decide) (by decide) (by decide) (fun c39 => ?_) (fun c39 => False.elim (by omega))
            refine A_iincN (k' := 1) hg dX8_losingDifference_45 (by decide) rfl (by decide) (q_c1d rfl) ?_
            refine A_eq (ls2 := [some (.ref (q_h G + tb)), some (.ref (q_h G + t2)), some (.int (nI (a))), some (.int (nI (q + 1)))]) (st2 := []) (pc2 := 0) rfl rfl ?_
            refine A_goto (tgt := 4) hg dX8_losingDifference_48 (by decide) ?_
            exact ih4 (q + 1) a (by omega) (by rw [ha]; exact ((x_nxt_ne (P := fun q => !((va q == 0) == (va2 q == 0))) (q := q) rfl).1 (x_beq_eq (by first | exact Or.inl ⟨c17, c31⟩ | exact Or.inr ⟨c17, c31⟩))).symm) (by omega)
          · skip
            refine A_iconst (v := (nI (1))) hg dX8_losingDifference_34 (by decide) ?_
            refine A_goto (tgt := 39) hg dX8_losingDifference_35 (by decide) ?_
            refine A_icmp_eqN (tgt := 45) hg dX8_losingDifference_39 (by decide) (by decide) (by decide) (fun c39 => False.elim (by omega)) (fun c39 => ?_)
            refine A_iincN (k' := 1) hg dX8_losingDifference_42 (by decide) rfl (by decide) (q_c1d rfl) ?_
            refine A_eq (ls2 := [some (.ref (q_h G + tb)), some (.ref (q_h G + t2)), some (.int (nI (a + 1))), some (.int (nI (q)))]) (st2 := []) (pc2 := 0) rfl rfl ?_
            refine A_iincN (k' := 1) hg dX8_losingDifference_45 (by decide) rfl (by decide) (q_c1d rfl) ?_
            refine A_eq (ls2 := [some (.ref (q_h G + tb)), some (.ref (q_h G + t2)), some (.int (nI (a + 1))), some (.int (nI (q + 1)))]) (st2 := []) (pc2 := 0) rfl rfl ?_
            refine A_goto (tgt := 4) hg dX8_losingDifference_48 (by decide) ?_
            exact ih4 (q + 1) (a + 1) (by omega) (by rw [ha]; exact ((x_nxt_ne (P := fun q => !((va q == 0) == (va2 q == 0))) (q := q) rfl).2 (x_beq_ne (by first | exact Or.inl ⟨c17, c31⟩ | exact Or.inr ⟨c17, c31⟩))).symm) (by omega)
        · skip
          refine A_iconst (v := (nI (1))) hg dX8_losingDifference_20 (by decide) ?_
          refine A_goto (tgt := 25) hg dX8_losingDifference_21 (by decide) ?_
          refine A_aload_n hg dX8_losingDifference_25 rfl rfl ?_
          refine A_getf (v := .ref (q_h G + (t2 + 5))) hg fl_RX8_33 dX8_losingDifference_26 hc2 (by omega) rfl ?_
          refine A_iload_n hg dX8_losingDifference_29 rfl rfl ?_
          refine A_iald (j := q) hg dX8_losingDifference_30 hc3 (by omega) (by omega) (by decide) ?_
          refine A_if_neN (tgt := 38) hg dX8_losingDifference_31 (hvb2 _ (by omega)) (by decide) (fun c31 => ?_) (fun c31 => ?_)
          · skip
            refine A_iconst (v := (nI (0))) hg dX8_losingDifference_38 (by decide) ?_
            refine A_icmp_eqN (tgt := 45) hg dX8_losingDifference_39 (by decide) (by decide) (by decide) (fun c39 => False.elim (by omega)) (fun c39 => ?_)
            refine A_iincN (k' := 1) hg dX8_losingDifference_42 (by decide) rfl (by decide) (q_c1d rfl) ?_
            refine A_eq (ls2 := [some (.ref (q_h G + tb)), some (.ref (q_h G + t2)), some (.int (nI (a + 1))), some (.int (nI (q)))]) (st2 := []) (pc2 := 0) rfl rfl ?_
            refine A_iincN (k' := 1) hg dX8_losingDifference_45 (by decide) rfl (by decide) (q_c1d rfl) ?_
            refine A_eq (ls2 := [some (.ref (q_h G + tb)), some (.ref (q_h G + t2)), some (.int (nI (a + 1))), some (.int (nI (q + 1)))]) (st2 := []) (pc2 := 0) rfl rfl ?_
            refine A_goto (tgt := 4) hg dX8_losingDifference_48 (by decide) ?_
            exact ih4 (q + 1) (a + 1) (by omega) (by rw [ha]; exact ((x_nxt_ne (P := fun q => !((va q == 0) == (va2 q == 0))) (q := q) rfl).2 (x_beq_ne (by first | exact Or.inl ⟨c17, c31⟩ | exact Or.inr ⟨c17, c31⟩))).symm) (by omega)
          · skip
            refine A_iconst (v := (nI (1))) hg dX8_losingDifference_34 (by decide) ?_
            refine A_goto (tgt := 39) hg dX8_losingDifference_35 (by decide) ?_
            refine A_icmp_eqN (tgt := 45) hg dX8_losingDifference_39 (by decide) (by decide) (by decide) (fun c39 => ?_) (fun c39 => False.elim (by omega))
            refine A_iincN (k' := 1) hg dX8_losingDifference_45 (by decide) rfl (by decide) (q_c1d rfl) ?_
            refine A_eq (ls2 := [some (.ref (q_h G + tb)), some (.ref (q_h G + t2)), some (.int (nI (a))), some (.int (nI (q + 1)))]) (st2 := []) (pc2 := 0) rfl rfl ?_
            refine A_goto (tgt := 4) hg dX8_losingDifference_48 (by decide) ?_
            exact ih4 (q + 1) a (by omega) (by rw [ha]; exact ((x_nxt_ne (P := fun q => !((va q == 0) == (va2 q == 0))) (q := q) rfl).1 (x_beq_eq (by first | exact Or.inl ⟨c17, c31⟩ | exact Or.inr ⟨c17, c31⟩))).symm) (by omega)
  exact hL4 _ 0 0 (Nat.zero_le _) rfl (Nat.lt_succ_self _)
set_option maxRecDepth 100000 in
set_option maxHeartbeats 4000000 in
theorem c_X8_leadsTo (G : GL) (ex : Bool) (n : Nat) (σ : Nat → va_E) (tb : Nat) (fl : Nat) (n0 : Nat) (gv : Nat) (gs : Nat) (lm : Nat) (vs : Nat) (A : Nat → Bool) (skf : Nat → Nat) (slf : Nat → Nat) (va : Nat → Nat) (i : Nat) (j : Nat) (t : Nat) (x : Nat) (y : Nat) (hc0 : σ tb = o8 G (tb) (nI (fl)) (nI (n0)) (nI (gv)) (nI (gs)) (nI (lm)) (nI (vs))) (hc1 : σ (tb + 3) = q_an G 1681 skf) (hc2 : σ (tb + 4) = q_an G 1681 slf) (hc3 : σ (tb + 5) = q_an G 1681 va) (htb : tb + 7 < n) (hx : x ≤ 40) (hy : y ≤ 40) (hi : i < n0) (hk1 : skf i = j / 41) (hl1 : slf i = j % 41) (hAj : A j = true) (hj : j < 1681) (hn9 : n0 ≤ 1681) (hva : ∀ j : Nat, j ≤ x * 41 + y → va j < 2 ^ 30) (ht30 : t < 2 ^ 31) : Ct G yX8_leadsTo cX8_leadsTo 5 (some .boolean) ⟨1, 0, 0, 22⟩ [.ref (q_h G + tb), .int (nI (i)), .int (nI (x)), .int (nI (y)), .int (q_d (t))] ex n σ (fun v9 σ2 => σ2 = σ ∧ v9 = some (.int (q_b (x_lt A va (x * 41 + y) t j)))) := by
  refine q_enter [some (.ref (q_h G + tb)), some (.int (nI (i))), some (.int (nI (x))), some (.int (nI (y))), some (.int (q_d (t)))] (by decide) (Nat.le_of_ble_eq_true rfl) rfl ?_
  intro K hg
  obtain ⟨Q, hQ⟩ : ∃ Q, Q = q_Q G K ex n 0 0 (fun v9 n' σ' => n' = n ∧ (fun v9 σ2 => σ2 = σ ∧ v9 = some (.int (q_b (x_lt A va (x * 41 + y) t j)))) v9 σ') q_noX := ⟨_, rfl⟩
  refine (?_ : AJ G K (q_Q G K ex n 0 0 _ _) 0 0 ex n 0 _ _ σ)
  rw [← hQ]
  refine A_aload_n hg dX8_leadsTo_0 rfl rfl ?_
  refine A_getf (v := .ref (q_h G + (tb + 3))) hg fl_RX8_22 dX8_leadsTo_1 hc0 (by omega) rfl ?_
  refine A_iload_n hg dX8_leadsTo_4 rfl rfl ?_
  refine A_iald (j := i) hg dX8_leadsTo_5 hc1 (by omega) (by omega) (by decide) ?_
  refine A_top (w := .int (nI (j / 41))) (by rw [hk1]) ?_
  refine A_iload_n hg dX8_leadsTo_6 rfl rfl ?_
  refine A_icmp_gtN (tgt := 20) hg dX8_leadsTo_7 (by omega) (by omega) (by decide) (fun c7 => ?_) (fun c7 => ?_)
  · skip
    refine A_iconst (v := (nI (0))) hg dX8_leadsTo_20 (by decide) ?_
    rw [hQ]
    exact A_zreturn hg (by decide) (by decide) rfl rfl dX8_leadsTo_21 ⟨rfl, ⟨rfl, (q_rf (x_lt_gap (x_mv_f hy (by omega))))⟩⟩
  · skip
    refine A_aload_n hg dX8_leadsTo_10 rfl rfl ?_
    refine A_getf (v := .ref (q_h G + (tb + 4))) hg fl_RX8_26 dX8_leadsTo_11 hc0 (by omega) rfl ?_
    refine A_iload_n hg dX8_leadsTo_14 rfl rfl ?_
    refine A_iald (j := i) hg dX8_leadsTo_15 hc2 (by omega) (by omega) (by decide) ?_
    refine A_top (w := .int (nI (j % 41))) (by rw [hl1]) ?_
    refine A_iload_n hg dX8_leadsTo_16 rfl rfl ?_
    refine A_icmp_leN (tgt := 22) hg dX8_leadsTo_17 (by omega) (by omega) (by decide) (fun c17 => ?_) (fun c17 => ?_)
    · skip
      have hmv := x_mv_t (A := A) (x := x) (y := y) (q := j) hy (by omega) (by omega) hAj
      refine A_iload hg dX8_leadsTo_22 rfl ?_
      refine A_iconst (v := (q_d (0))) hg dX8_leadsTo_24 (by decide) ?_
      refine A_icmp_eqM (tgt := 53) hg dX8_leadsTo_25 (by omega) (by decide) (by decide) (fun c25 => ?_) (fun c25 => ?_)
      · skip
        refine A_iconst (v := (nI (1))) hg dX8_leadsTo_53 (by decide) ?_
        refine A_goto (tgt := 58) hg dX8_leadsTo_54 (by decide) ?_
        rw [hQ]
        exact A_zreturn hg (by decide) (by decide) rfl rfl dX8_leadsTo_58 ⟨rfl, ⟨rfl, (q_rt (by rw [x_lt_mv hmv]; first | rw [decide_eq_true c25, Bool.true_or] | rw [beq_iff_eq.mpr c50, Bool.or_true]))⟩⟩
      · skip
        refine A_aload_n hg dX8_leadsTo_28 rfl rfl ?_
        refine A_iload_n hg dX8_leadsTo_29 rfl rfl ?_
        refine A_aload_n hg dX8_leadsTo_30 rfl rfl ?_
        refine A_getf (v := .ref (q_h G + (tb + 3))) hg fl_RX8_22 dX8_leadsTo_31 hc0 (by omega) rfl ?_
        refine A_iload_n hg dX8_leadsTo_34 rfl rfl ?_
        refine A_iald (j := i) hg dX8_leadsTo_35 hc1 (by omega) (by omega) (by decide) ?_
        refine A_top (w := .int (nI (j / 41))) (by rw [hk1]) ?_
        refine A_isubN hg dX8_leadsTo_36 (by omega) ?_
        refine A_iload_n hg dX8_leadsTo_37 rfl rfl ?_
        refine A_aload_n hg dX8_leadsTo_38 rfl rfl ?_
        refine A_getf (v := .ref (q_h G + (tb + 4))) hg fl_RX8_26 dX8_leadsTo_39 hc0 (by omega) rfl ?_
        refine A_iload_n hg dX8_leadsTo_42 rfl rfl ?_
        refine A_iald (j := i) hg dX8_leadsTo_43 hc2 (by omega) (by omega) (by decide) ?_
        refine A_top (w := .int (nI (j % 41))) (by rw [hl1]) ?_
        refine A_isubN hg dX8_leadsTo_44 (by omega) ?_
        refine A_eV (kc2 := 0) (ks2 := 0) (As := [.int (nI (x - (j / 41))), .int (nI (y - (j % 41)))]) (rest := []) hg lk_RX8_90 in_X8_valueAt se_X8_valueAt rfl dX8_leadsTo_45 ⟨by decide, by decide⟩ rfl rfl ⟨by decide, by decide⟩ hc0 (by omega) rfl rfl (Nat.le_of_ble_eq_true rfl) (c_X8_valueAt G ex n σ tb fl n0 gv gs lm vs va (x - (j / 41)) (y - (j % 41)) hc0 hc3 (by omega) (by omega) (by omega)) ?_
        have evj : (x - j / 41) * 41 + (y - j % 41) = (x * 41 + y) - j := by omega
        have hvj := hva ((x * 41 + y) - j) (by omega)
        refine A_top (w := .int (q_d (va ((x * 41 + y) - j) + 1))) (congrArg Value.int (by rw [evj]; exact (q_dS _).symm)) ?_
        refine A_iload hg dX8_leadsTo_48 rfl ?_
        refine A_icmp_neM (tgt := 57) hg dX8_leadsTo_50 (by omega) (by omega) (by decide) (fun c50 => ?_) (fun c50 => ?_)
        · skip
          refine A_iconst (v := (nI (0))) hg dX8_leadsTo_57 (by decide) ?_
          rw [hQ]
          exact A_zreturn hg (by decide) (by decide) rfl rfl dX8_leadsTo_58 ⟨rfl, ⟨rfl, (q_rf (by rw [x_lt_mv hmv, decide_eq_false c25, beq_eq_false_iff_ne.mpr c50]; rfl))⟩⟩
        · skip
          refine A_iconst (v := (nI (1))) hg dX8_leadsTo_53 (by decide) ?_
          refine A_goto (tgt := 58) hg dX8_leadsTo_54 (by decide) ?_
          rw [hQ]
          exact A_zreturn hg (by decide) (by decide) rfl rfl dX8_leadsTo_58 ⟨rfl, ⟨rfl, (q_rt (by rw [x_lt_mv hmv]; first | rw [decide_eq_true c25, Bool.true_or] | rw [beq_iff_eq.mpr c50, Bool.or_true]))⟩⟩
    · skip
      refine A_iconst (v := (nI (0))) hg dX8_leadsTo_20 (by decide) ?_
      rw [hQ]
      exact A_zreturn hg (by decide) (by decide) rfl rfl dX8_leadsTo_21 ⟨rfl, ⟨rfl, (q_rf (x_lt_gap (x_mv_f hy (by omega))))⟩⟩
set_option maxRecDepth 100000 in
set_option maxHeartbeats 4000000 in
theorem c_X8_movesTo (G : GL) (ex : Bool) (n : Nat) (σ : Nat → va_E) (tb : Nat) (fl : Nat) (n0 : Nat) (gv : Nat) (gs : Nat) (lm : Nat) (vs : Nat) (A : Nat → Bool) (skf : Nat → Nat) (slf : Nat → Nat) (va : Nat → Nat) (t : Nat) (x : Nat) (y : Nat) (hc0 : σ tb = o8 G (tb) (nI (fl)) (nI (n0)) (nI (gv)) (nI (gs)) (nI (lm)) (nI (vs))) (hc1 : σ (tb + 3) = q_an G 1681 skf) (hc2 : σ (tb + 4) = q_an G 1681 slf) (hc3 : σ (tb + 5) = q_an G 1681 va) (htb : tb + 7 < n) (hA0 : A 0 = false) (hn : n0 = s_cnt A 1681) (hst : x_st A skf slf 1681) (hx : x ≤ 40) (hy : y ≤ 40) (hva : ∀ j : Nat, j ≤ x * 41 + y → va j < 2 ^ 30) (ht30 : t < 2 ^ 31) : Ct G yX8_movesTo cX8_movesTo 6 (some .int) ⟨2, 0, 0, 46⟩ [.ref (q_h G + tb), .int (nI (x)), .int (nI (y)), .int (q_d (t))] ex n σ (fun v9 σ2 => σ2 = σ ∧ v9 = some (.int (nI (s_cnt (x_lt A va (x * 41 + y) t) 1681)))) := by
  refine q_enter [some (.ref (q_h G + tb)), some (.int (nI (x))), some (.int (nI (y))), some (.int (q_d (t))), none, none] (by decide) (Nat.le_of_ble_eq_true rfl) rfl ?_
  intro K hg
  obtain ⟨Q, hQ⟩ : ∃ Q, Q = q_Q G K ex n 0 0 (fun v9 n' σ' => n' = n ∧ (fun v9 σ2 => σ2 = σ ∧ v9 = some (.int (nI (s_cnt (x_lt A va (x * 41 + y) t) 1681)))) v9 σ') q_noX := ⟨_, rfl⟩
  refine (?_ : AJ G K (q_Q G K ex n 0 0 _ _) 0 0 ex n 0 _ _ σ)
  rw [← hQ]
  have hcl := s_cnt_le A 1681
  refine A_iconst (v := (nI (0))) hg dX8_movesTo_0 (by decide) ?_
  refine A_istore hg dX8_movesTo_1 (by decide) (q_c1d rfl) ?_
  refine A_eq (ls2 := [some (.ref (q_h G + tb)), some (.int (nI (x))), some (.int (nI (y))), some (.int (q_d (t))), some (.int (nI (0))), none]) (st2 := []) (pc2 := 0) rfl rfl ?_
  refine A_iconst (v := (nI (0))) hg dX8_movesTo_3 (by decide) ?_
  refine A_istore hg dX8_movesTo_4 (by decide) (q_c1d rfl) ?_
  refine A_eq (ls2 := [some (.ref (q_h G + tb)), some (.int (nI (x))), some (.int (nI (y))), some (.int (q_d (t))), some (.int (nI (0))), some (.int (nI (0)))]) (st2 := []) (pc2 := 0) rfl rfl ?_
  have hL6 : ∀ (fu : Nat) (i : Nat) (m : Nat) (a : Nat), (m ≤ 1681) → (i = s_cnt A m) → (a = s_cnt (x_lt A va (x * 41 + y) t) m) → (1681 - i) < fu → AJ G K Q 0 0 ex n 6 [some (.ref (q_h G + tb)), some (.int (nI (x))), some (.int (nI (y))), some (.int (q_d (t))), some (.int (nI (a))), some (.int (nI (i)))] [] σ := by
    intro fu
    induction fu with
    | zero => intro i m a hm hi ha hm; exact absurd hm (Nat.not_lt_zero _)
    | succ fu ih6 =>
      intro i m a hm hi ha hm6
      have hcm := s_cnt_le A m
      refine A_iload hg dX8_movesTo_6 rfl ?_
      refine A_aload_n hg dX8_movesTo_8 rfl rfl ?_
      refine A_getf (v := .int (nI (n0))) hg fl_RX8_29 dX8_movesTo_9 hc0 (by omega) rfl ?_
      refine A_icmp_geN (tgt := 47) hg dX8_movesTo_12 (by omega) (by omega) (by decide) (fun c12 => ?_) (fun c12 => ?_)
      · skip
        have hend : ∀ q : Nat, m ≤ q → q < 1681 → x_lt A va (x * 41 + y) t q = false := by
          first
          | exact fun q a b => x_lt_gap (x_mv_na (x_none (by omega) q a b))
          | exact fun q a b => (by by_cases z : q < j; exact hgm q a z; exact x_lt_gap (x_mv_f hy (Or.inl (by omega))))
        refine A_iload hg dX8_movesTo_47 rfl ?_
        rw [hQ]
        exact A_ireturn hg (by decide) (by decide) rfl dX8_movesTo_49 ⟨rfl, ⟨rfl, (by rw [x_cnt_skip (m := m) 1681 hm hend, ← ha])⟩⟩
      · skip
        obtain ⟨j, hmj, hj, hAj, hcj, hgap⟩ := x_next (A := A) (M := 1681) _ m i rfl hi.symm (by omega)
        obtain ⟨hsk, hsl⟩ := hst j hj hAj
        rw [hcj] at hsk hsl
        have hgm : ∀ q : Nat, m ≤ q → q < j → x_lt A va (x * 41 + y) t q = false := fun q a b => x_lt_gap (x_mv_na (hgap q a b))
        refine A_aload_n hg dX8_movesTo_15 rfl rfl ?_
        refine A_getf (v := .ref (q_h G + (tb + 3))) hg fl_RX8_22 dX8_movesTo_16 hc0 (by omega) rfl ?_
        refine A_iload hg dX8_movesTo_19 rfl ?_
        refine A_iald (j := i) hg dX8_movesTo_21 hc1 (by omega) (by omega) (by decide) ?_
        refine A_top (w := .int (nI (j / 41))) (by rw [hsk]) ?_
        refine A_iload_n hg dX8_movesTo_22 rfl rfl ?_
        refine A_icmp_gtN (tgt := 47) hg dX8_movesTo_23 (by omega) (by omega) (by decide) (fun c23 => ?_) (fun c23 => ?_)
        · skip
          have hend : ∀ q : Nat, m ≤ q → q < 1681 → x_lt A va (x * 41 + y) t q = false := by
            first
            | exact fun q a b => x_lt_gap (x_mv_na (x_none (by omega) q a b))
            | exact fun q a b => (by by_cases z : q < j; exact hgm q a z; exact x_lt_gap (x_mv_f hy (Or.inl (by omega))))
          refine A_iload hg dX8_movesTo_47 rfl ?_
          rw [hQ]
          exact A_ireturn hg (by decide) (by decide) rfl dX8_movesTo_49 ⟨rfl, ⟨rfl, (by rw [x_cnt_skip (m := m) 1681 hm hend, ← ha])⟩⟩
        · skip
          refine A_aload_n hg dX8_movesTo_26 rfl rfl ?_
          refine A_iload hg dX8_movesTo_27 rfl ?_
          refine A_iload_n hg dX8_movesTo_29 rfl rfl ?_
          refine A_iload_n hg dX8_movesTo_30 rfl rfl ?_
          refine A_iload_n hg dX8_movesTo_31 rfl rfl ?_
          refine A_eV (kc2 := 0) (ks2 := 0) (As := [.int (nI (i)), .int (nI (x)), .int (nI (y)), .int (q_d (t))]) (rest := []) hg lk_RX8_93 in_X8_leadsTo se_X8_leadsTo rfl dX8_movesTo_32 ⟨by decide, by decide⟩ rfl rfl ⟨by decide, by decide⟩ hc0 (by omega) rfl rfl (Nat.le_of_ble_eq_true rfl) (c_X8_leadsTo G ex n σ tb fl n0 gv gs lm vs A skf slf va i j t x y hc0 hc1 hc2 hc3 (by omega) (by omega) (by omega) (by omega) hsk hsl hAj hj (by omega) (by omega) (by omega)) ?_
          refine A_if_eqB (tgt := 41) hg dX8_movesTo_35 (by decide) (fun c35 => ?_) (fun c35 => ?_)
          · skip
            refine A_iincN (k' := 1) hg dX8_movesTo_41 (by decide) rfl (by decide) (q_c1d rfl) ?_
            refine A_eq (ls2 := [some (.ref (q_h G + tb)), some (.int (nI (x))), some (.int (nI (y))), some (.int (q_d (t))), some (.int (nI (a))), some (.int (nI (i + 1)))]) (st2 := []) (pc2 := 0) rfl rfl ?_
            refine A_goto (tgt := 6) hg dX8_movesTo_44 (by decide) ?_
            exact ih6 (i + 1) (j + 1) a (by omega) (by rw [s_cnt_t hAj, hcj]) (by rw [s_cnt_f c35, x_cnt_skip _ hmj hgm, ← ha]) (by omega)
          · skip
            refine A_iincN (k' := 1) hg dX8_movesTo_38 (by decide) rfl (by decide) (q_c1d rfl) ?_
            refine A_eq (ls2 := [some (.ref (q_h G + tb)), some (.int (nI (x))), some (.int (nI (y))), some (.int (q_d (t))), some (.int (nI (a + 1))), some (.int (nI (i)))]) (st2 := []) (pc2 := 0) rfl rfl ?_
            refine A_iincN (k' := 1) hg dX8_movesTo_41 (by decide) rfl (by decide) (q_c1d rfl) ?_
            refine A_eq (ls2 := [some (.ref (q_h G + tb)), some (.int (nI (x))), some (.int (nI (y))), some (.int (q_d (t))), some (.int (nI (a + 1))), some (.int (nI (i + 1)))]) (st2 := []) (pc2 := 0) rfl rfl ?_
            refine A_goto (tgt := 6) hg dX8_movesTo_44 (by decide) ?_
            exact ih6 (i + 1) (j + 1) (a + 1) (by omega) (by rw [s_cnt_t hAj, hcj]) (by rw [s_cnt_t c35, x_cnt_skip _ hmj hgm, ← ha]) (by omega)
  exact hL6 _ 0 0 0 (Nat.zero_le _) rfl rfl (Nat.lt_succ_self _)
set_option maxRecDepth 100000 in
set_option maxHeartbeats 4000000 in
theorem c_X8_findMove (G : GL) (ex : Bool) (n : Nat) (σ : Nat → va_E) (tb : Nat) (fl : Nat) (n0 : Nat) (gv : Nat) (gs : Nat) (lm : Nat) (vs : Nat) (A : Nat → Bool) (skf : Nat → Nat) (slf : Nat → Nat) (va : Nat → Nat) (t : Nat) (x : Nat) (y : Nat) (hb : Nat) (h0 : Int32) (h1 : Int32) (h2 : Int32) (h3 : Int32) (h4 : Int32) (hc0 : σ tb = o8 G (tb) (nI (fl)) (nI (n0)) (nI (gv)) (nI (gs)) (nI (lm)) (nI (vs))) (hc1 : σ (tb + 3) = q_an G 1681 skf) (hc2 : σ (tb + 4) = q_an G 1681 slf) (hc3 : σ (tb + 5) = q_an G 1681 va) (hc4 : σ hb = o1 G (h0) (h1) (h2) (h3) (h4)) (htb : tb + 7 < n) (hhb : hb < n) (hap1 : hb < tb ∨ tb + 7 < hb) (hA0 : A 0 = false) (hn : n0 = s_cnt A 1681) (hst : x_st A skf slf 1681) (hx : x ≤ 40) (hy : y ≤ 40) (hva : ∀ j : Nat, j ≤ x * 41 + y → va j < 2 ^ 30) (ht30 : t < 2 ^ 31) : Ct G yX8_findMove cX8_findMove 6 (some .boolean) ⟨2, 0, 0, 46⟩ [.ref (q_h G + tb), .int (nI (x)), .int (nI (y)), .int (q_d (t)), .ref (q_h G + hb)] ex n σ (fun v9 σ2 => (v9 = some (.int (nI (0))) ∧ (∀ q : Nat, q < 1681 → x_lt A va (x * 41 + y) t q = false) ∧ σ2 = σ) ∨ (∃ (j : Nat), v9 = some (.int (nI (1))) ∧ (j < 1681) ∧ (x_lt A va (x * 41 + y) t j = true) ∧ (∀ q : Nat, q < j → x_lt A va (x * 41 + y) t q = false) ∧ σ2 hb = o1 G (h0) (h1) (h2) (nI (j / 41)) (nI (j % 41)) ∧ (∀ i : Nat, i ≠ hb → σ2 i = σ i))) := by
  refine q_enter [some (.ref (q_h G + tb)), some (.int (nI (x))), some (.int (nI (y))), some (.int (q_d (t))), some (.ref (q_h G + hb)), none] (by decide) (Nat.le_of_ble_eq_true rfl) rfl ?_
  intro K hg
  obtain ⟨Q, hQ⟩ : ∃ Q, Q = q_Q G K ex n 0 0 (fun v9 n' σ' => n' = n ∧ (fun v9 σ2 => (v9 = some (.int (nI (0))) ∧ (∀ q : Nat, q < 1681 → x_lt A va (x * 41 + y) t q = false) ∧ σ2 = σ) ∨ (∃ (j : Nat), v9 = some (.int (nI (1))) ∧ (j < 1681) ∧ (x_lt A va (x * 41 + y) t j = true) ∧ (∀ q : Nat, q < j → x_lt A va (x * 41 + y) t q = false) ∧ σ2 hb = o1 G (h0) (h1) (h2) (nI (j / 41)) (nI (j % 41)) ∧ (∀ i : Nat, i ≠ hb → σ2 i = σ i))) v9 σ') q_noX := ⟨_, rfl⟩
  refine (?_ : AJ G K (q_Q G K ex n 0 0 _ _) 0 0 ex n 0 _ _ σ)
  rw [← hQ]
  have hcl := s_cnt_le A 1681
  refine A_iconst (v := (nI (0))) hg dX8_findMove_0 (by decide) ?_
  refine A_istore hg dX8_findMove_1 (by decide) (q_c1d rfl) ?_
  refine A_eq (ls2 := [some (.ref (q_h G + tb)), some (.int (nI (x))), some (.int (nI (y))), some (.int (q_d (t))), some (.ref (q_h G + hb)), some (.int (nI (0)))]) (st2 := []) (pc2 := 0) rfl rfl ?_
  have hL3 : ∀ (fu : Nat) (i : Nat) (m : Nat), (m ≤ 1681) → (i = s_cnt A m) → (∀ q : Nat, q < m → x_lt A va (x * 41 + y) t q = false) → (1681 - i) < fu → AJ G K Q 0 0 ex n 3 [some (.ref (q_h G + tb)), some (.int (nI (x))), some (.int (nI (y))), some (.int (q_d (t))), some (.ref (q_h G + hb)), some (.int (nI (i)))] [] σ := by
    intro fu
    induction fu with
    | zero => intro i m hm hi hno hm; exact absurd hm (Nat.not_lt_zero _)
    | succ fu ih3 =>
      intro i m hm hi hno hm3
      have hcm := s_cnt_le A m
      refine A_iload hg dX8_findMove_3 rfl ?_
      refine A_aload_n hg dX8_findMove_5 rfl rfl ?_
      refine A_getf (v := .int (nI (n0))) hg fl_RX8_29 dX8_findMove_6 hc0 (by omega) rfl ?_
      refine A_icmp_geN (tgt := 67) hg dX8_findMove_9 (by omega) (by omega) (by decide) (fun c9 => ?_) (fun c9 => ?_)
      · skip
        have hend : ∀ q : Nat, m ≤ q → q < 1681 → x_lt A va (x * 41 + y) t q = false := by
          first
          | exact fun q a b => x_lt_gap (x_mv_na (x_none (by omega) q a b))
          | exact fun q a b => (by by_cases z : q < j; exact hgm q a z; exact x_lt_gap (x_mv_f hy (Or.inl (by omega))))
        refine A_iconst (v := (nI (0))) hg dX8_findMove_67 (by decide) ?_
        rw [hQ]
        exact A_zreturn hg (by decide) (by decide) rfl rfl dX8_findMove_68 ⟨rfl, Or.inl (⟨rfl, (fun q hq => by by_cases z1 : q < m; exact hno q z1; exact hend q (by omega) hq), rfl⟩)⟩
      · skip
        obtain ⟨j, hmj, hj, hAj, hcj, hgap⟩ := x_next (A := A) (M := 1681) _ m i rfl hi.symm (by omega)
        obtain ⟨hsk, hsl⟩ := hst j hj hAj
        rw [hcj] at hsk hsl
        have hgm : ∀ q : Nat, m ≤ q → q < j → x_lt A va (x * 41 + y) t q = false := fun q a b => x_lt_gap (x_mv_na (hgap q a b))
        refine A_aload_n hg dX8_findMove_12 rfl rfl ?_
        refine A_getf (v := .ref (q_h G + (tb + 3))) hg fl_RX8_22 dX8_findMove_13 hc0 (by omega) rfl ?_
        refine A_iload hg dX8_findMove_16 rfl ?_
        refine A_iald (j := i) hg dX8_findMove_18 hc1 (by omega) (by omega) (by decide) ?_
        refine A_top (w := .int (nI (j / 41))) (by rw [hsk]) ?_
        refine A_iload_n hg dX8_findMove_19 rfl rfl ?_
        refine A_icmp_gtN (tgt := 67) hg dX8_findMove_20 (by omega) (by omega) (by decide) (fun c20 => ?_) (fun c20 => ?_)
        · skip
          have hend : ∀ q : Nat, m ≤ q → q < 1681 → x_lt A va (x * 41 + y) t q = false := by
            first
            | exact fun q a b => x_lt_gap (x_mv_na (x_none (by omega) q a b))
            | exact fun q a b => (by by_cases z : q < j; exact hgm q a z; exact x_lt_gap (x_mv_f hy (Or.inl (by omega))))
          refine A_iconst (v := (nI (0))) hg dX8_findMove_67 (by decide) ?_
          rw [hQ]
          exact A_zreturn hg (by decide) (by decide) rfl rfl dX8_findMove_68 ⟨rfl, Or.inl (⟨rfl, (fun q hq => by by_cases z1 : q < m; exact hno q z1; exact hend q (by omega) hq), rfl⟩)⟩
        · skip
          refine A_aload_n hg dX8_findMove_23 rfl rfl ?_
          refine A_iload hg dX8_findMove_24 rfl ?_
          refine A_iload_n hg dX8_findMove_26 rfl rfl ?_
          refine A_iload_n hg dX8_findMove_27 rfl rfl ?_
          refine A_iload_n hg dX8_findMove_28 rfl rfl ?_
          refine A_eV (kc2 := 0) (ks2 := 0) (As := [.int (nI (i)), .int (nI (x)), .int (nI (y)), .int (q_d (t))]) (rest := []) hg lk_RX8_93 in_X8_leadsTo se_X8_leadsTo rfl dX8_findMove_29 ⟨by decide, by decide⟩ rfl rfl ⟨by decide, by decide⟩ hc0 (by omega) rfl rfl (Nat.le_of_ble_eq_true rfl) (c_X8_leadsTo G ex n σ tb fl n0 gv gs lm vs A skf slf va i j t x y hc0 hc1 hc2 hc3 (by omega) (by omega) (by omega) (by omega) hsk hsl hAj hj (by omega) (by omega) (by omega)) ?_
          refine A_if_eqB (tgt := 61) hg dX8_findMove_32 (by decide) (fun c32 => ?_) (fun c32 => ?_)
          · skip
            refine A_iincN (k' := 1) hg dX8_findMove_61 (by decide) rfl (by decide) (q_c1d rfl) ?_
            refine A_eq (ls2 := [some (.ref (q_h G + tb)), some (.int (nI (x))), some (.int (nI (y))), some (.int (q_d (t))), some (.ref (q_h G + hb)), some (.int (nI (i + 1)))]) (st2 := []) (pc2 := 0) rfl rfl ?_
            refine A_goto (tgt := 3) hg dX8_findMove_64 (by decide) ?_
            exact ih3 (i + 1) (j + 1) (by omega) (by rw [s_cnt_t hAj, hcj]) (fun q hq => by by_cases z1 : q < m; exact hno q z1; by_cases z2 : q < j; exact hgm q (by omega) z2; rw [show q = j by omega]; exact c32) (by omega)
          · skip
            refine A_aload hg dX8_findMove_35 rfl ?_
            refine A_aload_n hg dX8_findMove_37 rfl rfl ?_
            refine A_getf (v := .ref (q_h G + (tb + 3))) hg fl_RX8_22 dX8_findMove_38 hc0 (by omega) rfl ?_
            refine A_iload hg dX8_findMove_41 rfl ?_
            refine A_iald (j := i) hg dX8_findMove_43 hc1 (by omega) (by omega) (by decide) ?_
            refine A_top (w := .int (nI (j / 41))) (by rw [hsk]) ?_
            refine A_putf hg fl_RX8_97 dX8_findMove_44 hc4 (by omega) (Nat.le_of_ble_eq_true rfl) rfl rfl rfl (fun σ_1 hc_2 hf_3 => ?_)
            have hc_2 : σ_1 hb = o1 G (h0) (h1) (h2) (nI (j / 41)) (h4) := hc_2
            have hc_4 : σ_1 tb = o8 G (tb) (nI (fl)) (nI (n0)) (nI (gv)) (nI (gs)) (nI (lm)) (nI (vs)) := (hf_3 _ (by omega)).trans hc0
            have hc_5 : σ_1 (tb + 3) = q_an G 1681 skf := (hf_3 _ (by omega)).trans hc1
            have hc_6 : σ_1 (tb + 4) = q_an G 1681 slf := (hf_3 _ (by omega)).trans hc2
            have hc_7 : σ_1 (tb + 5) = q_an G 1681 va := (hf_3 _ (by omega)).trans hc3
            refine A_aload hg dX8_findMove_47 rfl ?_
            refine A_aload_n hg dX8_findMove_49 rfl rfl ?_
            refine A_getf (v := .ref (q_h G + (tb + 4))) hg fl_RX8_26 dX8_findMove_50 hc_4 (by omega) rfl ?_
            refine A_iload hg dX8_findMove_53 rfl ?_
            refine A_iald (j := i) hg dX8_findMove_55 hc_6 (by omega) (by omega) (by decide) ?_
            refine A_top (w := .int (nI (j % 41))) (by rw [hsl]) ?_
            refine A_putf hg fl_RX8_102 dX8_findMove_56 hc_2 (by omega) (Nat.le_of_ble_eq_true rfl) rfl rfl rfl (fun σ_8 hc_9 hf_10 => ?_)
            have hc_9 : σ_8 hb = o1 G (h0) (h1) (h2) (nI (j / 41)) (nI (j % 41)) := hc_9
            have hc_11 : σ_8 tb = o8 G (tb) (nI (fl)) (nI (n0)) (nI (gv)) (nI (gs)) (nI (lm)) (nI (vs)) := (hf_10 _ (by omega)).trans hc_4
            have hc_12 : σ_8 (tb + 3) = q_an G 1681 skf := (hf_10 _ (by omega)).trans hc_5
            have hc_13 : σ_8 (tb + 4) = q_an G 1681 slf := (hf_10 _ (by omega)).trans hc_6
            have hc_14 : σ_8 (tb + 5) = q_an G 1681 va := (hf_10 _ (by omega)).trans hc_7
            refine A_iconst (v := (nI (1))) hg dX8_findMove_59 (by decide) ?_
            rw [hQ]
            exact A_zreturn hg (by decide) (by decide) rfl rfl dX8_findMove_60 ⟨rfl, Or.inr ((⟨j, rfl, (by first | rfl | assumption | omega), c32, (fun q hq => by by_cases z1 : q < m; exact hno q z1; exact hgm q (by omega) hq), hc_9, (fun i hi => ((hf_10 i (by omega)).trans (hf_3 i (by omega))))⟩))⟩
  exact hL3 _ 0 0 (Nat.zero_le _) rfl (fun q h => absurd h (Nat.not_lt_zero q)) (Nat.lt_succ_self _)
set_option maxRecDepth 100000 in
set_option maxHeartbeats 4000000 in
theorem c_X8_markWinningAbove (G : GL) (ex : Bool) (n : Nat) (σ : Nat → va_E) (tb : Nat) (fl : Nat) (n0 : Nat) (gv : Nat) (gs : Nat) (lm : Nat) (vs : Nat) (A : Nat → Bool) (skf : Nat → Nat) (slf : Nat → Nat) (va : Nat → Nat) (x : Nat) (y : Nat) (hc0 : σ tb = o8 G (tb) (nI (fl)) (nI (n0)) (nI (gv)) (nI (gs)) (nI (lm)) (nI (vs))) (hc1 : σ (tb + 3) = q_an G 1681 skf) (hc2 : σ (tb + 4) = q_an G 1681 slf) (hc3 : σ (tb + 5) = q_an G 1681 va) (htb : tb + 7 < n) (hA0 : A 0 = false) (hn : n0 = s_cnt A 1681) (hst : x_st A skf slf 1681) (hx : x ≤ 40) (hy : y ≤ 40) : Ct G yX8_markWinningAbove cX8_markWinningAbove 4 none ⟨0, 0, 0, 0⟩ [.ref (q_h G + tb), .int (nI (x)), .int (nI (y))] ex n σ (fun v9 σ2 => v9 = none ∧ σ2 (tb + 5) = q_an G 1681 (x_up A va (x * 41 + y) 1681) ∧ (∀ i : Nat, i ≠ tb + 5 → σ2 i = σ i)) := by
  refine q_enter [some (.ref (q_h G + tb)), some (.int (nI (x))), some (.int (nI (y))), none] (by decide) (Nat.le_of_ble_eq_true rfl) rfl ?_
  intro K hg
  obtain ⟨Q, hQ⟩ : ∃ Q, Q = q_Q G K ex n 0 0 (fun v9 n' σ' => n' = n ∧ (fun v9 σ2 => v9 = none ∧ σ2 (tb + 5) = q_an G 1681 (x_up A va (x * 41 + y) 1681) ∧ (∀ i : Nat, i ≠ tb + 5 → σ2 i = σ i)) v9 σ') q_noX := ⟨_, rfl⟩
  refine (?_ : AJ G K (q_Q G K ex n 0 0 _ _) 0 0 ex n 0 _ _ σ)
  rw [← hQ]
  have hcl := s_cnt_le A 1681
  refine A_iconst (v := (nI (0))) hg dX8_markWinningAbove_0 (by decide) ?_
  refine A_istore_n hg dX8_markWinningAbove_1 rfl (by decide) (q_c1d rfl) ?_
  refine A_eq (ls2 := [some (.ref (q_h G + tb)), some (.int (nI (x))), some (.int (nI (y))), some (.int (nI (0)))]) (st2 := []) (pc2 := 0) rfl rfl ?_
  refine A_canon (x_up A va (x * 41 + y) 0) hc3 (fun jj _ => x_up_0 A va _ jj) (fun σ_1 hc_2 hf_3 => ?_)
  have hc_4 : σ_1 tb = o8 G (tb) (nI (fl)) (nI (n0)) (nI (gv)) (nI (gs)) (nI (lm)) (nI (vs)) := (hf_3 _ (by omega)).trans hc0
  have hc_5 : σ_1 (tb + 3) = q_an G 1681 skf := (hf_3 _ (by omega)).trans hc1
  have hc_6 : σ_1 (tb + 4) = q_an G 1681 slf := (hf_3 _ (by omega)).trans hc2
  have hL2 : ∀ (fu : Nat) (i : Nat) (m : Nat) (σ_7 : Nat → va_E), (σ_7 tb = o8 G (tb) (nI (fl)) (nI (n0)) (nI (gv)) (nI (gs)) (nI (lm)) (nI (vs))) → (σ_7 (tb + 3) = q_an G 1681 skf) → (σ_7 (tb + 4) = q_an G 1681 slf) → (σ_7 (tb + 5) = q_an G 1681 (x_up A va (x * 41 + y) m)) → (∀ i : Nat, i ≠ tb + 5 → σ_7 i = σ i) → (m ≤ 1681) → (i = s_cnt A m) → (1681 - i) < fu → AJ G K Q 0 0 ex n 2 [some (.ref (q_h G + tb)), some (.int (nI (x))), some (.int (nI (y))), some (.int (nI (i)))] [] σ_7 := by
    intro fu
    induction fu with
    | zero => intro i m σ_7 hc_8 hc_9 hc_10 hc_11 hf_12 hm hi hm; exact absurd hm (Nat.not_lt_zero _)
    | succ fu ih2 =>
      intro i m σ_7 hc_8 hc_9 hc_10 hc_11 hf_12 hm hi hm2
      have hcm := s_cnt_le A m
      refine A_iload_n hg dX8_markWinningAbove_2 rfl rfl ?_
      refine A_aload_n hg dX8_markWinningAbove_3 rfl rfl ?_
      refine A_getf (v := .int (nI (n0))) hg fl_RX8_29 dX8_markWinningAbove_4 hc_8 (by omega) rfl ?_
      refine A_icmp_geN (tgt := 68) hg dX8_markWinningAbove_7 (by omega) (by omega) (by decide) (fun c7 => ?_) (fun c7 => ?_)
      · skip
        have hend : ∀ q : Nat, m ≤ q → q < 1681 → q + (x * 41 + y) < 1681 → s_mv A (q + (x * 41 + y)) q = false := by
          first
          | exact fun q a b c => x_mv_na (x_none (by omega) q a b)
          | exact fun q a b c => (by omega)
        refine A_canon (x_up A va (x * 41 + y) 1681) hc_11 (fun jj h9 => x_up_skip jj (by omega) h9 hend) (fun σ_13 hc_14 hf_15 => ?_)
        have hc_16 : σ_13 tb = o8 G (tb) (nI (fl)) (nI (n0)) (nI (gv)) (nI (gs)) (nI (lm)) (nI (vs)) := (hf_15 _ (by omega)).trans hc_8
        have hc_17 : σ_13 (tb + 3) = q_an G 1681 skf := (hf_15 _ (by omega)).trans hc_9
        have hc_18 : σ_13 (tb + 4) = q_an G 1681 slf := (hf_15 _ (by omega)).trans hc_10
        rw [hQ]
        exact A_return hg (by decide) (by decide) rfl dX8_markWinningAbove_68 ⟨rfl, ⟨rfl, hc_14, (fun i hi => ((hf_15 i (by omega)).trans (hf_12 i (by omega))))⟩⟩
      · skip
        obtain ⟨j, hmj, hj, hAj, hcj, hgap⟩ := x_next (A := A) (M := 1681) _ m i rfl hi.symm (by omega)
        obtain ⟨hsk, hsl⟩ := hst j hj hAj
        rw [hcj] at hsk hsl
        have hum := x_up_mv hx hy hj hAj
        have hgu : ∀ q : Nat, m ≤ q → q < j → q + (x * 41 + y) < 1681 → s_mv A (q + (x * 41 + y)) q = false := fun q a b _ => x_mv_na (hgap q a b)
        refine A_canon (x_up A va (x * 41 + y) j) hc_11 (fun jj h9 => x_up_skip jj hmj h9 hgu) (fun σ_19 hc_20 hf_21 => ?_)
        have hc_22 : σ_19 tb = o8 G (tb) (nI (fl)) (nI (n0)) (nI (gv)) (nI (gs)) (nI (lm)) (nI (vs)) := (hf_21 _ (by omega)).trans hc_8
        have hc_23 : σ_19 (tb + 3) = q_an G 1681 skf := (hf_21 _ (by omega)).trans hc_9
        have hc_24 : σ_19 (tb + 4) = q_an G 1681 slf := (hf_21 _ (by omega)).trans hc_10
        refine A_iload_n hg dX8_markWinningAbove_10 rfl rfl ?_
        refine A_aload_n hg dX8_markWinningAbove_11 rfl rfl ?_
        refine A_getf (v := .ref (q_h G + (tb + 3))) hg fl_RX8_22 dX8_markWinningAbove_12 hc_22 (by omega) rfl ?_
        refine A_iload_n hg dX8_markWinningAbove_15 rfl rfl ?_
        refine A_iald (j := i) hg dX8_markWinningAbove_16 hc_23 (by omega) (by omega) (by decide) ?_
        refine A_top (w := .int (nI (j / 41))) (by rw [hsk]) ?_
        refine A_iaddN hg dX8_markWinningAbove_17 ?_
        refine A_bipush (v := (nI (40))) hg dX8_markWinningAbove_18 (by decide) ?_
        refine A_icmp_gtN (tgt := 68) hg dX8_markWinningAbove_20 (by omega) (by decide) (by decide) (fun c20 => ?_) (fun c20 => ?_)
        · skip
          have hend : ∀ q : Nat, j ≤ q → q < 1681 → q + (x * 41 + y) < 1681 → s_mv A (q + (x * 41 + y)) q = false := by
            first
            | exact fun q a b c => x_mv_na (x_none (by omega) q a b)
            | exact fun q a b c => (by omega)
          refine A_canon (x_up A va (x * 41 + y) 1681) hc_20 (fun jj h9 => x_up_skip jj (by omega) h9 hend) (fun σ_25 hc_26 hf_27 => ?_)
          have hc_28 : σ_25 tb = o8 G (tb) (nI (fl)) (nI (n0)) (nI (gv)) (nI (gs)) (nI (lm)) (nI (vs)) := (hf_27 _ (by omega)).trans hc_22
          have hc_29 : σ_25 (tb + 3) = q_an G 1681 skf := (hf_27 _ (by omega)).trans hc_23
          have hc_30 : σ_25 (tb + 4) = q_an G 1681 slf := (hf_27 _ (by omega)).trans hc_24
          rw [hQ]
          exact A_return hg (by decide) (by decide) rfl dX8_markWinningAbove_68 ⟨rfl, ⟨rfl, hc_26, (fun i hi => ((hf_27 i (by omega)).trans ((hf_21 i (by omega)).trans (hf_12 i (by omega)))))⟩⟩
        · skip
          refine A_iload_n hg dX8_markWinningAbove_23 rfl rfl ?_
          refine A_aload_n hg dX8_markWinningAbove_24 rfl rfl ?_
          refine A_getf (v := .ref (q_h G + (tb + 4))) hg fl_RX8_26 dX8_markWinningAbove_25 hc_22 (by omega) rfl ?_
          refine A_iload_n hg dX8_markWinningAbove_28 rfl rfl ?_
          refine A_iald (j := i) hg dX8_markWinningAbove_29 hc_24 (by omega) (by omega) (by decide) ?_
          refine A_top (w := .int (nI (j % 41))) (by rw [hsl]) ?_
          refine A_iaddN hg dX8_markWinningAbove_30 ?_
          refine A_bipush (v := (nI (40))) hg dX8_markWinningAbove_31 (by decide) ?_
          refine A_icmp_gtN (tgt := 62) hg dX8_markWinningAbove_33 (by omega) (by decide) (by decide) (fun c33 => ?_) (fun c33 => ?_)
          · skip
            refine A_canon (x_up A va (x * 41 + y) (j + 1)) hc_20 (fun jj h9 => x_up_skip jj (Nat.le_succ j) h9 (fun q a b c => by rw [show q = j by omega, hum]; exact decide_eq_false (by omega))) (fun σ_31 hc_32 hf_33 => ?_)
            have hc_34 : σ_31 tb = o8 G (tb) (nI (fl)) (nI (n0)) (nI (gv)) (nI (gs)) (nI (lm)) (nI (vs)) := (hf_33 _ (by omega)).trans hc_22
            have hc_35 : σ_31 (tb + 3) = q_an G 1681 skf := (hf_33 _ (by omega)).trans hc_23
            have hc_36 : σ_31 (tb + 4) = q_an G 1681 slf := (hf_33 _ (by omega)).trans hc_24
            refine A_iincN (k' := 1) hg dX8_markWinningAbove_62 (by decide) rfl (by decide) (q_c1d rfl) ?_
            refine A_eq (ls2 := [some (.ref (q_h G + tb)), some (.int (nI (x))), some (.int (nI (y))), some (.int (nI (i + 1)))]) (st2 := []) (pc2 := 0) rfl rfl ?_
            refine A_goto (tgt := 2) hg dX8_markWinningAbove_65 (by decide) ?_
            exact ih2 (i + 1) (j + 1) σ_31 hc_34 hc_35 hc_36 hc_32 (fun i hi => ((hf_33 i (by omega)).trans ((hf_21 i (by omega)).trans (hf_12 i (by omega))))) (by omega) (by rw [s_cnt_t hAj, hcj]) (by omega)
          · skip
            refine A_aload_n hg dX8_markWinningAbove_36 rfl rfl ?_
            refine A_getf (v := .ref (q_h G + (tb + 5))) hg fl_RX8_33 dX8_markWinningAbove_37 hc_22 (by omega) rfl ?_
            refine A_iload_n hg dX8_markWinningAbove_40 rfl rfl ?_
            refine A_aload_n hg dX8_markWinningAbove_41 rfl rfl ?_
            refine A_getf (v := .ref (q_h G + (tb + 3))) hg fl_RX8_22 dX8_markWinningAbove_42 hc_22 (by omega) rfl ?_
            refine A_iload_n hg dX8_markWinningAbove_45 rfl rfl ?_
            refine A_iald (j := i) hg dX8_markWinningAbove_46 hc_23 (by omega) (by omega) (by decide) ?_
            refine A_top (w := .int (nI (j / 41))) (by rw [hsk]) ?_
            refine A_iaddN hg dX8_markWinningAbove_47 ?_
            refine A_bipush (v := (nI (41))) hg dX8_markWinningAbove_48 (by decide) ?_
            refine A_imulN hg dX8_markWinningAbove_50 ?_
            refine A_iload_n hg dX8_markWinningAbove_51 rfl rfl ?_
            refine A_iaddN hg dX8_markWinningAbove_52 ?_
            refine A_aload_n hg dX8_markWinningAbove_53 rfl rfl ?_
            refine A_getf (v := .ref (q_h G + (tb + 4))) hg fl_RX8_26 dX8_markWinningAbove_54 hc_22 (by omega) rfl ?_
            refine A_iload_n hg dX8_markWinningAbove_57 rfl rfl ?_
            refine A_iald (j := i) hg dX8_markWinningAbove_58 hc_24 (by omega) (by omega) (by decide) ?_
            refine A_top (w := .int (nI (j % 41))) (by rw [hsl]) ?_
            refine A_iaddN hg dX8_markWinningAbove_59 ?_
            refine A_iconst (v := (nI (1))) hg dX8_markWinningAbove_60 (by decide) ?_
            refine A_iast (j := ((((x + (j / 41)) * 41) + y) + (j % 41))) (x := 1) hg dX8_markWinningAbove_61 hc_20 (by omega) (by omega) (by decide) (fun σ_37 hc_38 hf_39 => ?_)
            have hc_40 : σ_37 tb = o8 G (tb) (nI (fl)) (nI (n0)) (nI (gv)) (nI (gs)) (nI (lm)) (nI (vs)) := (hf_39 _ (by omega)).trans hc_22
            have hc_41 : σ_37 (tb + 3) = q_an G 1681 skf := (hf_39 _ (by omega)).trans hc_23
            have hc_42 : σ_37 (tb + 4) = q_an G 1681 slf := (hf_39 _ (by omega)).trans hc_24
            refine A_canon (x_up A va (x * 41 + y) (j + 1)) hc_38 (fun jj _ => x_up_t hx hy hj hAj (by omega) jj) (fun σ_43 hc_44 hf_45 => ?_)
            have hc_46 : σ_43 tb = o8 G (tb) (nI (fl)) (nI (n0)) (nI (gv)) (nI (gs)) (nI (lm)) (nI (vs)) := (hf_45 _ (by omega)).trans hc_40
            have hc_47 : σ_43 (tb + 3) = q_an G 1681 skf := (hf_45 _ (by omega)).trans hc_41
            have hc_48 : σ_43 (tb + 4) = q_an G 1681 slf := (hf_45 _ (by omega)).trans hc_42
            refine A_iincN (k' := 1) hg dX8_markWinningAbove_62 (by decide) rfl (by decide) (q_c1d rfl) ?_
            refine A_eq (ls2 := [some (.ref (q_h G + tb)), some (.int (nI (x))), some (.int (nI (y))), some (.int (nI (i + 1)))]) (st2 := []) (pc2 := 0) rfl rfl ?_
            refine A_goto (tgt := 2) hg dX8_markWinningAbove_65 (by decide) ?_
            exact ih2 (i + 1) (j + 1) σ_43 hc_46 hc_47 hc_48 hc_44 (fun i hi => ((hf_45 i (by omega)).trans ((hf_39 i (by omega)).trans ((hf_21 i (by omega)).trans (hf_12 i (by omega)))))) (by omega) (by rw [s_cnt_t hAj, hcj]) (by omega)
  exact hL2 _ 0 0 σ_1 hc_4 hc_5 hc_6 hc_2 (fun i hi => (hf_3 i (by omega))) (Nat.zero_le _) rfl (Nat.lt_succ_self _)
end
