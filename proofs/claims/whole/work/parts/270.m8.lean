section
set_option maxRecDepth 100000 in
set_option maxHeartbeats 4000000 in
theorem c_X11_greatestIn (G : GL) (ex : Bool) (n : Nat) (σ : Nat → va_E) (F : Nat → Int32) (t : Nat) (f : Nat → Nat) (r : Nat) (hc0 : σ 279 = o11 G F) (hc1 : σ t = q_an G 6724 f) (hn : 294 ≤ n) (ht : t < 294) (hr : r < 4) (hfb : ∀ q : Nat, q < 1681 → f (1681 * r + q) < 2 ^ 31) : Ct G yX11_greatestIn cX11_greatestIn 5 (some .int) ⟨1, 0, 0, 21⟩ [.ref (q_h G + 279), .ref (q_h G + t), .int (nI (r))] ex n σ (fun v9 σ2 => σ2 = σ ∧ v9 = some (.int (nI (s_mx (fun q => f (1681 * r + q)) 1681)))) := by
  refine q_enter [some (.ref (q_h G + 279)), some (.ref (q_h G + t)), some (.int (nI (r))), none, none] (by decide) (Nat.le_of_ble_eq_true rfl) rfl ?_
  intro K hg
  obtain ⟨Q, hQ⟩ : ∃ Q, Q = q_Q G K ex n 0 0 (fun v9 n' σ' => n' = n ∧ (fun v9 σ2 => σ2 = σ ∧ v9 = some (.int (nI (s_mx (fun q => f (1681 * r + q)) 1681)))) v9 σ') q_noX := ⟨_, rfl⟩
  refine (?_ : AJ G K (q_Q G K ex n 0 0 _ _) 0 0 ex n 0 _ _ σ)
  rw [← hQ]
  refine A_iconst (v := (nI (0))) hg dX11_greatestIn_0 (by decide) ?_
  refine A_istore_n hg dX11_greatestIn_1 rfl (by decide) (q_c1d rfl) ?_
  refine A_eq (ls2 := [some (.ref (q_h G + 279)), some (.ref (q_h G + t)), some (.int (nI (r))), some (.int (nI (0))), none]) (st2 := []) (pc2 := 0) rfl rfl ?_
  refine A_iconst (v := (nI (0))) hg dX11_greatestIn_2 (by decide) ?_
  refine A_istore hg dX11_greatestIn_3 (by decide) (q_c1d rfl) ?_
  refine A_eq (ls2 := [some (.ref (q_h G + 279)), some (.ref (q_h G + t)), some (.int (nI (r))), some (.int (nI (0))), some (.int (nI (0)))]) (st2 := []) (pc2 := 0) rfl rfl ?_
  have hL5 : ∀ (fu : Nat) (p : Nat) (m : Nat), (p ≤ 1681) → (m = s_mx (fun q => f (1681 * r + q)) p) → (m < 2 ^ 31) → (1681 - p) < fu → AJ G K Q 0 0 ex n 5 [some (.ref (q_h G + 279)), some (.ref (q_h G + t)), some (.int (nI (r))), some (.int (nI (m))), some (.int (nI (p)))] [] σ := by
    intro fu
    induction fu with
    | zero => intro p m hp hm hmb hm; exact absurd hm (Nat.not_lt_zero _)
    | succ fu ih5 =>
      intro p m hp hm hmb hm5
      refine A_iload hg dX11_greatestIn_5 rfl ?_
      refine A_sipush (v := (nI (1681))) hg dX11_greatestIn_7 (by decide) ?_
      refine A_icmp_geN (tgt := 34) hg dX11_greatestIn_10 (by omega) (by decide) (by decide) (fun c10 => ?_) (fun c10 => ?_)
      · skip
        refine A_iload_n hg dX11_greatestIn_34 rfl rfl ?_
        rw [hQ]
        exact A_ireturn hg (by decide) (by decide) rfl dX11_greatestIn_35 ⟨rfl, ⟨rfl, (by rw [hm, show p = 1681 by omega])⟩⟩
      · skip
        refine A_iload_n hg dX11_greatestIn_13 rfl rfl ?_
        refine A_aload_n hg dX11_greatestIn_14 rfl rfl ?_
        refine A_sipush (v := (nI (1681))) hg dX11_greatestIn_15 (by decide) ?_
        refine A_iload_n hg dX11_greatestIn_18 rfl rfl ?_
        refine A_imulN hg dX11_greatestIn_19 ?_
        refine A_iload hg dX11_greatestIn_20 rfl ?_
        refine A_iaddN hg dX11_greatestIn_22 ?_
        refine A_iald (j := ((1681 * r) + p)) hg dX11_greatestIn_23 hc1 (by omega) (by omega) (by decide) ?_
        have hfp := hfb p (by omega)
        refine A_max hg ml_RX11_89 dX11_greatestIn_24 ⟨by decide, by decide, by decide, by decide⟩ (Nat.le_of_ble_eq_true rfl) ?_
        refine A_top (w := .int (nI (max m (f ((1681 * r) + p))))) (q_max (a := m) (b := f ((1681 * r) + p)) (by omega) (by omega)) ?_
        refine A_istore_n hg dX11_greatestIn_27 rfl (by decide) (q_c1d rfl) ?_
        refine A_eq (ls2 := [some (.ref (q_h G + 279)), some (.ref (q_h G + t)), some (.int (nI (r))), some (.int (nI (max m (f ((1681 * r) + p))))), some (.int (nI (p)))]) (st2 := []) (pc2 := 0) rfl rfl ?_
        refine A_iincN (k' := 1) hg dX11_greatestIn_28 (by decide) rfl (by decide) (q_c1d rfl) ?_
        refine A_eq (ls2 := [some (.ref (q_h G + 279)), some (.ref (q_h G + t)), some (.int (nI (r))), some (.int (nI (max m (f ((1681 * r) + p))))), some (.int (nI (p + 1)))]) (st2 := []) (pc2 := 0) rfl rfl ?_
        refine A_goto (tgt := 5) hg dX11_greatestIn_31 (by decide) ?_
        exact ih5 (p + 1) (max m (f ((1681 * r) + p))) (by omega) (by rw [hm]; rfl) (Nat.max_lt.mpr ⟨hmb, hfp⟩) (by omega)
  exact hL5 _ 0 0 (by omega) rfl (by decide) (Nat.lt_succ_self _)
set_option maxRecDepth 100000 in
set_option maxHeartbeats 4000000 in
theorem c_X11_losingOf (G : GL) (ex : Bool) (n : Nat) (σ : Nat → va_E) (F : Nat → Int32) (va : Nat → Nat) (r : Nat) (hc0 : σ 279 = o11 G F) (hc1 : σ 289 = q_an G 6724 va) (hn : 294 ≤ n) (hr : r < 4) (hfb : ∀ q : Nat, q < 1681 → va (1681 * r + q) < 2 ^ 31) : Ct G yX11_losingOf cX11_losingOf 4 (some .int) ⟨0, 0, 0, 0⟩ [.ref (q_h G + 279), .int (nI (r))] ex n σ (fun v9 σ2 => σ2 = σ ∧ v9 = some (.int (nI (s_cnt (fun q => va (1681 * r + q) == 0) 1681)))) := by
  refine q_enter [some (.ref (q_h G + 279)), some (.int (nI (r))), none, none] (by decide) (Nat.le_of_ble_eq_true rfl) rfl ?_
  intro K hg
  obtain ⟨Q, hQ⟩ : ∃ Q, Q = q_Q G K ex n 0 0 (fun v9 n' σ' => n' = n ∧ (fun v9 σ2 => σ2 = σ ∧ v9 = some (.int (nI (s_cnt (fun q => va (1681 * r + q) == 0) 1681)))) v9 σ') q_noX := ⟨_, rfl⟩
  refine (?_ : AJ G K (q_Q G K ex n 0 0 _ _) 0 0 ex n 0 _ _ σ)
  rw [← hQ]
  refine A_iconst (v := (nI (0))) hg dX11_losingOf_0 (by decide) ?_
  refine A_istore_n hg dX11_losingOf_1 rfl (by decide) (q_c1d rfl) ?_
  refine A_eq (ls2 := [some (.ref (q_h G + 279)), some (.int (nI (r))), some (.int (nI (0))), none]) (st2 := []) (pc2 := 0) rfl rfl ?_
  refine A_iconst (v := (nI (0))) hg dX11_losingOf_2 (by decide) ?_
  refine A_istore_n hg dX11_losingOf_3 rfl (by decide) (q_c1d rfl) ?_
  refine A_eq (ls2 := [some (.ref (q_h G + 279)), some (.int (nI (r))), some (.int (nI (0))), some (.int (nI (0)))]) (st2 := []) (pc2 := 0) rfl rfl ?_
  have hL4 : ∀ (fu : Nat) (p : Nat) (c : Nat), (p ≤ 1681) → (c = s_cnt (fun q => va (1681 * r + q) == 0) p) → (1681 - p) < fu → AJ G K Q 0 0 ex n 4 [some (.ref (q_h G + 279)), some (.int (nI (r))), some (.int (nI (c))), some (.int (nI (p)))] [] σ := by
    intro fu
    induction fu with
    | zero => intro p c hp hc hm; exact absurd hm (Nat.not_lt_zero _)
    | succ fu ih4 =>
      intro p c hp hc hm4
      refine A_iload_n hg dX11_losingOf_4 rfl rfl ?_
      refine A_sipush (v := (nI (1681))) hg dX11_losingOf_5 (by decide) ?_
      refine A_icmp_geN (tgt := 40) hg dX11_losingOf_8 (by omega) (by decide) (by decide) (fun c8 => ?_) (fun c8 => ?_)
      · skip
        refine A_iload_n hg dX11_losingOf_40 rfl rfl ?_
        rw [hQ]
        exact A_ireturn hg (by decide) (by decide) rfl dX11_losingOf_41 ⟨rfl, ⟨rfl, (by rw [hc, show p = 1681 by omega])⟩⟩
      · skip
        refine A_iload_n hg dX11_losingOf_11 rfl rfl ?_
        refine A_aload_n hg dX11_losingOf_12 rfl rfl ?_
        refine A_getf (v := .ref (q_h G + 289)) hg fl_RX11_38 dX11_losingOf_13 hc0 (by omega) rfl ?_
        refine A_sipush (v := (nI (1681))) hg dX11_losingOf_16 (by decide) ?_
        refine A_iload_n hg dX11_losingOf_19 rfl rfl ?_
        refine A_imulN hg dX11_losingOf_20 ?_
        refine A_iload_n hg dX11_losingOf_21 rfl rfl ?_
        refine A_iaddN hg dX11_losingOf_22 ?_
        refine A_iald (j := ((1681 * r) + p)) hg dX11_losingOf_23 hc1 (by omega) (by omega) (by decide) ?_
        have hfp := hfb p (by omega)
        refine A_if_neN (tgt := 31) hg dX11_losingOf_24 (by omega) (by decide) (fun c24 => ?_) (fun c24 => ?_)
        · skip
          refine A_iconst (v := (nI (0))) hg dX11_losingOf_31 (by decide) ?_
          refine A_iaddN hg dX11_losingOf_32 ?_
          refine A_istore_n hg dX11_losingOf_33 rfl (by decide) (q_c1d rfl) ?_
          refine A_eq (ls2 := [some (.ref (q_h G + 279)), some (.int (nI (r))), some (.int (nI (c + 0))), some (.int (nI (p)))]) (st2 := []) (pc2 := 0) rfl rfl ?_
          refine A_iincN (k' := 1) hg dX11_losingOf_34 (by decide) rfl (by decide) (q_c1d rfl) ?_
          refine A_eq (ls2 := [some (.ref (q_h G + 279)), some (.int (nI (r))), some (.int (nI (c + 0))), some (.int (nI (p + 1)))]) (st2 := []) (pc2 := 0) rfl rfl ?_
          refine A_goto (tgt := 4) hg dX11_losingOf_37 (by decide) ?_
          exact ih4 (p + 1) (c + 0) (by omega) (by unfold s_cnt; rw [← hc]; simp [c24]) (by omega)
        · skip
          refine A_iconst (v := (nI (1))) hg dX11_losingOf_27 (by decide) ?_
          refine A_goto (tgt := 32) hg dX11_losingOf_28 (by decide) ?_
          refine A_iaddN hg dX11_losingOf_32 ?_
          refine A_istore_n hg dX11_losingOf_33 rfl (by decide) (q_c1d rfl) ?_
          refine A_eq (ls2 := [some (.ref (q_h G + 279)), some (.int (nI (r))), some (.int (nI (c + 1))), some (.int (nI (p)))]) (st2 := []) (pc2 := 0) rfl rfl ?_
          refine A_iincN (k' := 1) hg dX11_losingOf_34 (by decide) rfl (by decide) (q_c1d rfl) ?_
          refine A_eq (ls2 := [some (.ref (q_h G + 279)), some (.int (nI (r))), some (.int (nI (c + 1))), some (.int (nI (p + 1)))]) (st2 := []) (pc2 := 0) rfl rfl ?_
          refine A_goto (tgt := 4) hg dX11_losingOf_37 (by decide) ?_
          exact ih4 (p + 1) (c + 1) (by omega) (by unfold s_cnt; rw [← hc]; simp [c24]) (by omega)
  exact hL4 _ 0 0 (by omega) rfl (Nat.lt_succ_self _)
set_option maxRecDepth 100000 in
set_option maxHeartbeats 4000000 in
theorem c_X11_boardsOf (G : GL) (ex : Bool) (n : Nat) (σ : Nat → va_E) (F : Nat → Int32) (g : Nat → Nat) (r : Nat) (hc0 : σ 279 = o11 G F) (hc1 : σ 280 = q_an G 265 g) (hn : 294 ≤ n) (hr : r < 4) (hg9 : s_gwf g) : Ct G yX11_boardsOf cX11_boardsOf 4 (some .int) ⟨1, 0, 0, 22⟩ [.ref (q_h G + 279), .int (nI (r))] ex n σ (fun v9 σ2 => σ2 = σ ∧ v9 = some (.int (nI (s_cnt (fun b => g (133 + 5 * b + 0) == r) (g 1))))) := by
  refine q_enter [some (.ref (q_h G + 279)), some (.int (nI (r))), none, none] (by decide) (Nat.le_of_ble_eq_true rfl) rfl ?_
  intro K hg
  obtain ⟨Q, hQ⟩ : ∃ Q, Q = q_Q G K ex n 0 0 (fun v9 n' σ' => n' = n ∧ (fun v9 σ2 => σ2 = σ ∧ v9 = some (.int (nI (s_cnt (fun b => g (133 + 5 * b + 0) == r) (g 1))))) v9 σ') q_noX := ⟨_, rfl⟩
  refine (?_ : AJ G K (q_Q G K ex n 0 0 _ _) 0 0 ex n 0 _ _ σ)
  rw [← hQ]
  have h1 := hg9.2.1
  have h0 := hg9.1
  refine A_iconst (v := (nI (0))) hg dX11_boardsOf_0 (by decide) ?_
  refine A_istore_n hg dX11_boardsOf_1 rfl (by decide) (q_c1d rfl) ?_
  refine A_eq (ls2 := [some (.ref (q_h G + 279)), some (.int (nI (r))), some (.int (nI (0))), none]) (st2 := []) (pc2 := 0) rfl rfl ?_
  refine A_iconst (v := (nI (0))) hg dX11_boardsOf_2 (by decide) ?_
  refine A_istore_n hg dX11_boardsOf_3 rfl (by decide) (q_c1d rfl) ?_
  refine A_eq (ls2 := [some (.ref (q_h G + 279)), some (.int (nI (r))), some (.int (nI (0))), some (.int (nI (0)))]) (st2 := []) (pc2 := 0) rfl rfl ?_
  have hL4 : ∀ (fu : Nat) (b : Nat) (c : Nat), (b ≤ g 1) → (c = s_cnt (fun b => g (133 + 5 * b + 0) == r) b) → (g 1 - b) < fu → AJ G K Q 0 0 ex n 4 [some (.ref (q_h G + 279)), some (.int (nI (r))), some (.int (nI (c))), some (.int (nI (b)))] [] σ := by
    intro fu
    induction fu with
    | zero => intro b c hb hc hm; exact absurd hm (Nat.not_lt_zero _)
    | succ fu ih4 =>
      intro b c hb hc hm4
      refine A_iload_n hg dX11_boardsOf_4 rfl rfl ?_
      refine A_aload_n hg dX11_boardsOf_5 rfl rfl ?_
      refine A_getf (v := .ref (q_h G + 280)) hg fl_RX11_7 dX11_boardsOf_6 hc0 (by omega) rfl ?_
      refine A_iconst (v := (nI (1))) hg dX11_boardsOf_9 (by decide) ?_
      refine A_iald (j := 1) hg dX11_boardsOf_10 hc1 (by omega) (by omega) (by decide) ?_
      refine A_icmp_geN (tgt := 38) hg dX11_boardsOf_11 (by omega) (by omega) (by decide) (fun c11 => ?_) (fun c11 => ?_)
      · skip
        refine A_iload_n hg dX11_boardsOf_38 rfl rfl ?_
        rw [hQ]
        exact A_ireturn hg (by decide) (by decide) rfl dX11_boardsOf_39 ⟨rfl, ⟨rfl, (by rw [hc, show b = g 1 by omega])⟩⟩
      · skip
        refine A_iload_n hg dX11_boardsOf_14 rfl rfl ?_
        refine A_aload_n hg dX11_boardsOf_15 rfl rfl ?_
        refine A_iload_n hg dX11_boardsOf_16 rfl rfl ?_
        refine A_iconst (v := (nI (0))) hg dX11_boardsOf_17 (by decide) ?_
        refine A_eV (kc2 := 0) (ks2 := 0) (As := [.int (nI (b)), .int (nI (0))]) (rest := [.int (nI (c))]) hg lk_RX11_185 in_X11_ofBoard se_X11_ofBoard rfl dX11_boardsOf_18 ⟨by decide, by decide⟩ rfl rfl ⟨by decide, by decide⟩ hc0 (by omega) rfl rfl (Nat.le_of_ble_eq_true rfl) (c_X11_ofBoard G ex n σ F g b 0 hc0 hc1 (by omega) (by omega)) ?_
        refine A_iload_n hg dX11_boardsOf_21 rfl rfl ?_
        have hbd := (hg9.2.2.2.2.2.2.1 b (by omega)).1
        refine A_icmp_neN (tgt := 29) hg dX11_boardsOf_22 (by omega) (by omega) (by decide) (fun c22 => ?_) (fun c22 => ?_)
        · skip
          refine A_iconst (v := (nI (0))) hg dX11_boardsOf_29 (by decide) ?_
          refine A_iaddN hg dX11_boardsOf_30 ?_
          refine A_istore_n hg dX11_boardsOf_31 rfl (by decide) (q_c1d rfl) ?_
          refine A_eq (ls2 := [some (.ref (q_h G + 279)), some (.int (nI (r))), some (.int (nI (c + 0))), some (.int (nI (b)))]) (st2 := []) (pc2 := 0) rfl rfl ?_
          refine A_iincN (k' := 1) hg dX11_boardsOf_32 (by decide) rfl (by decide) (q_c1d rfl) ?_
          refine A_eq (ls2 := [some (.ref (q_h G + 279)), some (.int (nI (r))), some (.int (nI (c + 0))), some (.int (nI (b + 1)))]) (st2 := []) (pc2 := 0) rfl rfl ?_
          refine A_goto (tgt := 4) hg dX11_boardsOf_35 (by decide) ?_
          exact ih4 (b + 1) (c + 0) (by omega) (by first | exact (congrArg (· + 1) hc).trans (s_cnt_t (P := fun b => g (133 + 5 * b + 0) == r) (beq_iff_eq.mpr c22)).symm | exact hc.trans (s_cnt_f (P := fun b => g (133 + 5 * b + 0) == r) (beq_eq_false_iff_ne.mpr c22)).symm) (by omega)
        · skip
          refine A_iconst (v := (nI (1))) hg dX11_boardsOf_25 (by decide) ?_
          refine A_goto (tgt := 30) hg dX11_boardsOf_26 (by decide) ?_
          refine A_iaddN hg dX11_boardsOf_30 ?_
          refine A_istore_n hg dX11_boardsOf_31 rfl (by decide) (q_c1d rfl) ?_
          refine A_eq (ls2 := [some (.ref (q_h G + 279)), some (.int (nI (r))), some (.int (nI (c + 1))), some (.int (nI (b)))]) (st2 := []) (pc2 := 0) rfl rfl ?_
          refine A_iincN (k' := 1) hg dX11_boardsOf_32 (by decide) rfl (by decide) (q_c1d rfl) ?_
          refine A_eq (ls2 := [some (.ref (q_h G + 279)), some (.int (nI (r))), some (.int (nI (c + 1))), some (.int (nI (b + 1)))]) (st2 := []) (pc2 := 0) rfl rfl ?_
          refine A_goto (tgt := 4) hg dX11_boardsOf_35 (by decide) ?_
          exact ih4 (b + 1) (c + 1) (by omega) (by first | exact (congrArg (· + 1) hc).trans (s_cnt_t (P := fun b => g (133 + 5 * b + 0) == r) (beq_iff_eq.mpr c22)).symm | exact hc.trans (s_cnt_f (P := fun b => g (133 + 5 * b + 0) == r) (beq_eq_false_iff_ne.mpr c22)).symm) (by omega)
  exact hL4 _ 0 0 (by omega) rfl (Nat.lt_succ_self _)
set_option maxRecDepth 100000 in
set_option maxHeartbeats 4000000 in
theorem c_X11_only (G : GL) (ex : Bool) (n : Nat) (σ : Nat → va_E) (F : Nat → Int32) (g : Nat → Nat) (r : Int32) (x : Int32) (hc0 : σ 279 = o11 G F) (hc1 : σ 280 = q_an G 265 g) (hn : 294 ≤ n) (hg9 : s_gwf g) : Ct G yX11_only cX11_only 3 (some .int) ⟨2, 0, 0, 43⟩ [.ref (q_h G + 279), .int (r), .int (x)] ex n σ (fun v9 σ2 => (v9 = some (.int (nI (0))) ∧ (∀ j : Nat, j < g 0 → r = nI j → False) ∧ σ2 279 = o11 G (upd F 7 (nI (1))) ∧ (∀ i : Nat, i ≠ 279 → σ2 i = σ i)) ∨ (∃ (r1 : Nat), ∃ (i1 : Nat), v9 = some (.int (nI (s_rule g r1 (10 + i1)))) ∧ (r = nI r1) ∧ (r1 < g 0) ∧ (x = nI i1) ∧ (i1 < s_rule g r1 9) ∧ σ2 279 = o11 G (upd F 7 (nI (0))) ∧ (∀ i : Nat, i ≠ 279 → σ2 i = σ i)) ∨ (∃ (r1 : Nat), v9 = some (.int (q_d (0))) ∧ (r = nI r1) ∧ (r1 < g 0) ∧ (∀ j : Nat, j < s_rule g r1 9 → x = nI j → False) ∧ σ2 279 = o11 G (upd F 7 (nI (0))) ∧ (∀ i : Nat, i ≠ 279 → σ2 i = σ i))) := by
  refine q_enter [some (.ref (q_h G + 279)), some (.int (r)), some (.int (x))] (by decide) (Nat.le_of_ble_eq_true rfl) rfl ?_
  intro K hg
  obtain ⟨Q, hQ⟩ : ∃ Q, Q = q_Q G K ex n 0 0 (fun v9 n' σ' => n' = n ∧ (fun v9 σ2 => (v9 = some (.int (nI (0))) ∧ (∀ j : Nat, j < g 0 → r = nI j → False) ∧ σ2 279 = o11 G (upd F 7 (nI (1))) ∧ (∀ i : Nat, i ≠ 279 → σ2 i = σ i)) ∨ (∃ (r1 : Nat), ∃ (i1 : Nat), v9 = some (.int (nI (s_rule g r1 (10 + i1)))) ∧ (r = nI r1) ∧ (r1 < g 0) ∧ (x = nI i1) ∧ (i1 < s_rule g r1 9) ∧ σ2 279 = o11 G (upd F 7 (nI (0))) ∧ (∀ i : Nat, i ≠ 279 → σ2 i = σ i)) ∨ (∃ (r1 : Nat), v9 = some (.int (q_d (0))) ∧ (r = nI r1) ∧ (r1 < g 0) ∧ (∀ j : Nat, j < s_rule g r1 9 → x = nI j → False) ∧ σ2 279 = o11 G (upd F 7 (nI (0))) ∧ (∀ i : Nat, i ≠ 279 → σ2 i = σ i))) v9 σ') q_noX := ⟨_, rfl⟩
  refine (?_ : AJ G K (q_Q G K ex n 0 0 _ _) 0 0 ex n 0 _ _ σ)
  rw [← hQ]
  have hnr : g 0 ≤ 4 := hg9.1
  refine A_aload_n hg dX11_only_0 rfl rfl ?_
  refine A_iconst (v := (nI (0))) hg dX11_only_1 (by decide) ?_
  refine A_putf hg fl_RX11_67 dX11_only_2 hc0 (by omega) (Nat.le_of_ble_eq_true rfl) rfl rfl rfl (fun σ_1 hc_2 hf_3 => ?_)
  have hc_2 : σ_1 279 = o11 G (upd F 7 (nI (0))) := hc_2
  have hc_4 : σ_1 280 = q_an G 265 g := (hf_3 _ (by omega)).trans hc1
  refine A_aload_n hg dX11_only_5 rfl rfl ?_
  refine A_iload_n hg dX11_only_6 rfl rfl ?_
  refine A_hV (kc2 := 0) (ks2 := 0) (As := [.int (r)]) (rest := []) hg lk_RX11_402 in_X11_noRule se_X11_noRule rfl dX11_only_7 ⟨by decide, by decide⟩ rfl rfl ⟨by decide, by decide⟩ hc_2 (by omega) rfl rfl (Nat.le_of_ble_eq_true rfl) (c_X11_noRule G ex n σ_1 (upd F 7 (nI (0))) g r hc_2 hc_4 (by omega) (by omega)) ?_
  rintro _ σ_8 (⟨rfl, hno, hc_5, hf_6⟩ | ⟨r1, rfl, hre, hrl, he_7⟩)
  · skip
    refine (?_ : AJ G K Q 0 0 ex n 10 [some (.ref (q_h G + 279)), some (.int (r)), some (.int (x))] [.int (nI (1))] σ_8)
    have hc_5 : σ_8 279 = o11 G (upd F 7 (nI (1))) := hc_5
    have hc_9 : σ_8 280 = q_an G 265 g := (hf_6 _ (by omega)).trans hc_4
    refine A_if_eqN (tgt := 15) hg dX11_only_10 (by decide) (by decide) (fun c10 => absurd c10 (by decide)) (fun c10 => ?_)
    refine A_iconst (v := (nI (0))) hg dX11_only_13 (by decide) ?_
    rw [hQ]
    exact A_ireturn hg (by decide) (by decide) rfl dX11_only_14 ⟨rfl, Or.inl (⟨rfl, (by first | rfl | assumption | omega), hc_5, (fun i hi => ((hf_6 i (by omega)).trans (hf_3 i (by omega))))⟩)⟩
  · skip
    rw [he_7]
    refine (?_ : AJ G K Q 0 0 ex n 10 [some (.ref (q_h G + 279)), some (.int (r)), some (.int (x))] [.int (nI (0))] σ_1)
    refine A_if_eqN (tgt := 15) hg dX11_only_10 (by decide) (by decide) (fun c10 => ?_) (fun c10 => absurd (by decide) c10)
    subst hre
    have hw := hg9.2.2.2.2.2.1 r1 hrl
    have hu0 := hw.1
    have hu9 := hw.2.1
    have hu18 := hw.2.2.1
    have hu19 := hw.2.2.2.1
    have hu20 := hw.2.2.2.2.1
    refine A_iload_n hg dX11_only_15 rfl rfl ?_
    refine A_iconst (v := (nI (0))) hg dX11_only_16 (by decide) ?_
    refine A_aload_n hg dX11_only_17 rfl rfl ?_
    refine A_iload_n hg dX11_only_18 rfl rfl ?_
    refine A_bipush (v := (nI (9))) hg dX11_only_19 (by decide) ?_
    refine A_eV (kc2 := 0) (ks2 := 0) (As := [.int (nI (r1)), .int (nI (9))]) (rest := [.int (nI (0)), .int (x)]) hg lk_RX11_85 in_X11_of se_X11_of rfl dX11_only_21 ⟨by decide, by decide⟩ rfl rfl ⟨by decide, by decide⟩ hc_2 (by omega) rfl rfl (Nat.le_of_ble_eq_true rfl) (c_X11_of G ex n σ_1 (upd F 7 (nI (0))) g r1 9 hc_2 hc_4 (by omega) (by omega)) ?_
    refine A_iconst (v := (nI (1))) hg dX11_only_24 (by decide) ?_
    refine A_isub hg dX11_only_25 ?_
    refine A_eS (kc2 := 0) (ks2 := 0) (As := [.int (x), .int (nI (0)), .int ((nI (s_rule g r1 9)) - (nI (1)))]) (rest := []) hg lk_RX11_77 st_X11_inRange dX11_only_26 ⟨by decide, by decide⟩ rfl rfl ⟨by decide, by decide⟩ rfl rfl (Nat.le_of_ble_eq_true rfl) (c_X11_inRange G ex n σ_1 x (nI (0)) ((nI (s_rule g r1 9)) - (nI (1)))) ?_
    refine A_if_eqB (tgt := 44) hg dX11_only_29 (by decide) (fun c29 => ?_) (fun c29 => ?_)
    · skip
      refine A_iconst (v := (q_d (0))) hg dX11_only_44 (by decide) ?_
      rw [hQ]
      exact A_ireturn hg (by decide) (by decide) rfl dX11_only_45 ⟨rfl, Or.inr (Or.inr ((⟨r1, rfl, (by first | rfl | assumption | omega), (by first | rfl | assumption | omega), (q_below_f (by omega) c29), hc_2, (fun i hi => (hf_3 i (by omega)))⟩)))⟩
    · skip
      obtain ⟨i1, hie, hil⟩ := q_below_t (by omega) c29
      subst hie
      refine A_aload_n hg dX11_only_32 rfl rfl ?_
      refine A_iload_n hg dX11_only_33 rfl rfl ?_
      refine A_bipush (v := (nI (10))) hg dX11_only_34 (by decide) ?_
      refine A_iload_n hg dX11_only_36 rfl rfl ?_
      refine A_iaddN hg dX11_only_37 ?_
      refine A_eV (kc2 := 0) (ks2 := 0) (As := [.int (nI (r1)), .int (nI (10 + i1))]) (rest := []) hg lk_RX11_85 in_X11_of se_X11_of rfl dX11_only_38 ⟨by decide, by decide⟩ rfl rfl ⟨by decide, by decide⟩ hc_2 (by omega) rfl rfl (Nat.le_of_ble_eq_true rfl) (c_X11_of G ex n σ_1 (upd F 7 (nI (0))) g r1 (10 + i1) hc_2 hc_4 (by omega) (by omega)) ?_
      refine A_goto (tgt := 45) hg dX11_only_41 (by decide) ?_
      rw [hQ]
      exact A_ireturn hg (by decide) (by decide) rfl dX11_only_45 ⟨rfl, Or.inr (Or.inl (⟨r1, i1, rfl, (by first | rfl | assumption | omega), (by first | rfl | assumption | omega), (by first | rfl | assumption | omega), (by first | rfl | assumption | omega), hc_2, (fun i hi => (hf_3 i (by omega)))⟩))⟩
set_option maxRecDepth 100000 in
set_option maxHeartbeats 4000000 in
theorem c_X11_ruleLetter (G : GL) (ex : Bool) (n : Nat) (σ : Nat → va_E) (F : Nat → Int32) (g : Nat → Nat) (r : Int32) (x : Int32) (hc0 : σ 279 = o11 G F) (hc1 : σ 280 = q_an G 265 g) (hn : 294 ≤ n) (hg9 : s_gwf g) : Ct G yX11_ruleLetter cX11_ruleLetter 3 (some .int) ⟨2, 0, 0, 43⟩ [.ref (q_h G + 279), .int (r), .int (x)] ex n σ (fun v9 σ2 => (v9 = some (.int (nI (0))) ∧ (∀ j : Nat, j < g 0 → r = nI j → False) ∧ σ2 279 = o11 G (upd F 7 (nI (1))) ∧ (∀ i : Nat, i ≠ 279 → σ2 i = σ i)) ∨ (∃ (r1 : Nat), ∃ (i1 : Nat), v9 = some (.int (nI (s_rule g r1 (1 + i1)))) ∧ (r = nI r1) ∧ (r1 < g 0) ∧ (x = nI i1) ∧ (i1 < s_rule g r1 0) ∧ σ2 279 = o11 G (upd F 7 (nI (0))) ∧ (∀ i : Nat, i ≠ 279 → σ2 i = σ i)) ∨ (∃ (r1 : Nat), v9 = some (.int (nI (0))) ∧ (r = nI r1) ∧ (r1 < g 0) ∧ (∀ j : Nat, j < s_rule g r1 0 → x = nI j → False) ∧ σ2 279 = o11 G (upd F 7 (nI (0))) ∧ (∀ i : Nat, i ≠ 279 → σ2 i = σ i))) := by
  refine q_enter [some (.ref (q_h G + 279)), some (.int (r)), some (.int (x))] (by decide) (Nat.le_of_ble_eq_true rfl) rfl ?_
  intro K hg
  obtain ⟨Q, hQ⟩ : ∃ Q, Q = q_Q G K ex n 0 0 (fun v9 n' σ' => n' = n ∧ (fun v9 σ2 => (v9 = some (.int (nI (0))) ∧ (∀ j : Nat, j < g 0 → r = nI j → False) ∧ σ2 279 = o11 G (upd F 7 (nI (1))) ∧ (∀ i : Nat, i ≠ 279 → σ2 i = σ i)) ∨ (∃ (r1 : Nat), ∃ (i1 : Nat), v9 = some (.int (nI (s_rule g r1 (1 + i1)))) ∧ (r = nI r1) ∧ (r1 < g 0) ∧ (x = nI i1) ∧ (i1 < s_rule g r1 0) ∧ σ2 279 = o11 G (upd F 7 (nI (0))) ∧ (∀ i : Nat, i ≠ 279 → σ2 i = σ i)) ∨ (∃ (r1 : Nat), v9 = some (.int (nI (0))) ∧ (r = nI r1) ∧ (r1 < g 0) ∧ (∀ j : Nat, j < s_rule g r1 0 → x = nI j → False) ∧ σ2 279 = o11 G (upd F 7 (nI (0))) ∧ (∀ i : Nat, i ≠ 279 → σ2 i = σ i))) v9 σ') q_noX := ⟨_, rfl⟩
  refine (?_ : AJ G K (q_Q G K ex n 0 0 _ _) 0 0 ex n 0 _ _ σ)
  rw [← hQ]
  have hnr : g 0 ≤ 4 := hg9.1
  refine A_aload_n hg dX11_ruleLetter_0 rfl rfl ?_
  refine A_iconst (v := (nI (0))) hg dX11_ruleLetter_1 (by decide) ?_
  refine A_putf hg fl_RX11_67 dX11_ruleLetter_2 hc0 (by omega) (Nat.le_of_ble_eq_true rfl) rfl rfl rfl (fun σ_1 hc_2 hf_3 => ?_)
  have hc_2 : σ_1 279 = o11 G (upd F 7 (nI (0))) := hc_2
  have hc_4 : σ_1 280 = q_an G 265 g := (hf_3 _ (by omega)).trans hc1
  refine A_aload_n hg dX11_ruleLetter_5 rfl rfl ?_
  refine A_iload_n hg dX11_ruleLetter_6 rfl rfl ?_
  refine A_hV (kc2 := 0) (ks2 := 0) (As := [.int (r)]) (rest := []) hg lk_RX11_402 in_X11_noRule se_X11_noRule rfl dX11_ruleLetter_7 ⟨by decide, by decide⟩ rfl rfl ⟨by decide, by decide⟩ hc_2 (by omega) rfl rfl (Nat.le_of_ble_eq_true rfl) (c_X11_noRule G ex n σ_1 (upd F 7 (nI (0))) g r hc_2 hc_4 (by omega) (by omega)) ?_
  rintro _ σ_8 (⟨rfl, hno, hc_5, hf_6⟩ | ⟨r1, rfl, hre, hrl, he_7⟩)
  · skip
    refine (?_ : AJ G K Q 0 0 ex n 10 [some (.ref (q_h G + 279)), some (.int (r)), some (.int (x))] [.int (nI (1))] σ_8)
    have hc_5 : σ_8 279 = o11 G (upd F 7 (nI (1))) := hc_5
    have hc_9 : σ_8 280 = q_an G 265 g := (hf_6 _ (by omega)).trans hc_4
    refine A_if_eqN (tgt := 15) hg dX11_ruleLetter_10 (by decide) (by decide) (fun c10 => absurd c10 (by decide)) (fun c10 => ?_)
    refine A_iconst (v := (nI (0))) hg dX11_ruleLetter_13 (by decide) ?_
    rw [hQ]
    exact A_ireturn hg (by decide) (by decide) rfl dX11_ruleLetter_14 ⟨rfl, Or.inl (⟨rfl, (by first | rfl | assumption | omega), hc_5, (fun i hi => ((hf_6 i (by omega)).trans (hf_3 i (by omega))))⟩)⟩
  · skip
    rw [he_7]
    refine (?_ : AJ G K Q 0 0 ex n 10 [some (.ref (q_h G + 279)), some (.int (r)), some (.int (x))] [.int (nI (0))] σ_1)
    refine A_if_eqN (tgt := 15) hg dX11_ruleLetter_10 (by decide) (by decide) (fun c10 => ?_) (fun c10 => absurd (by decide) c10)
    subst hre
    have hw := hg9.2.2.2.2.2.1 r1 hrl
    have hu0 := hw.1
    have hu9 := hw.2.1
    have hu18 := hw.2.2.1
    have hu19 := hw.2.2.2.1
    have hu20 := hw.2.2.2.2.1
    refine A_iload_n hg dX11_ruleLetter_15 rfl rfl ?_
    refine A_iconst (v := (nI (0))) hg dX11_ruleLetter_16 (by decide) ?_
    refine A_aload_n hg dX11_ruleLetter_17 rfl rfl ?_
    refine A_iload_n hg dX11_ruleLetter_18 rfl rfl ?_
    refine A_iconst (v := (nI (0))) hg dX11_ruleLetter_19 (by decide) ?_
    refine A_eV (kc2 := 0) (ks2 := 0) (As := [.int (nI (r1)), .int (nI (0))]) (rest := [.int (nI (0)), .int (x)]) hg lk_RX11_85 in_X11_of se_X11_of rfl dX11_ruleLetter_20 ⟨by decide, by decide⟩ rfl rfl ⟨by decide, by decide⟩ hc_2 (by omega) rfl rfl (Nat.le_of_ble_eq_true rfl) (c_X11_of G ex n σ_1 (upd F 7 (nI (0))) g r1 0 hc_2 hc_4 (by omega) (by omega)) ?_
    refine A_iconst (v := (nI (1))) hg dX11_ruleLetter_23 (by decide) ?_
    refine A_isub hg dX11_ruleLetter_24 ?_
    refine A_eS (kc2 := 0) (ks2 := 0) (As := [.int (x), .int (nI (0)), .int ((nI (s_rule g r1 0)) - (nI (1)))]) (rest := []) hg lk_RX11_77 st_X11_inRange dX11_ruleLetter_25 ⟨by decide, by decide⟩ rfl rfl ⟨by decide, by decide⟩ rfl rfl (Nat.le_of_ble_eq_true rfl) (c_X11_inRange G ex n σ_1 x (nI (0)) ((nI (s_rule g r1 0)) - (nI (1)))) ?_
    refine A_if_eqB (tgt := 42) hg dX11_ruleLetter_28 (by decide) (fun c28 => ?_) (fun c28 => ?_)
    · skip
      refine A_iconst (v := (nI (0))) hg dX11_ruleLetter_42 (by decide) ?_
      rw [hQ]
      exact A_ireturn hg (by decide) (by decide) rfl dX11_ruleLetter_43 ⟨rfl, Or.inr (Or.inr ((⟨r1, rfl, (by first | rfl | assumption | omega), (by first | rfl | assumption | omega), (q_below_f (by omega) c28), hc_2, (fun i hi => (hf_3 i (by omega)))⟩)))⟩
    · skip
      obtain ⟨i1, hie, hil⟩ := q_below_t (by omega) c28
      subst hie
      refine A_aload_n hg dX11_ruleLetter_31 rfl rfl ?_
      refine A_iload_n hg dX11_ruleLetter_32 rfl rfl ?_
      refine A_iconst (v := (nI (1))) hg dX11_ruleLetter_33 (by decide) ?_
      refine A_iload_n hg dX11_ruleLetter_34 rfl rfl ?_
      refine A_iaddN hg dX11_ruleLetter_35 ?_
      refine A_eV (kc2 := 0) (ks2 := 0) (As := [.int (nI (r1)), .int (nI (1 + i1))]) (rest := []) hg lk_RX11_85 in_X11_of se_X11_of rfl dX11_ruleLetter_36 ⟨by decide, by decide⟩ rfl rfl ⟨by decide, by decide⟩ hc_2 (by omega) rfl rfl (Nat.le_of_ble_eq_true rfl) (c_X11_of G ex n σ_1 (upd F 7 (nI (0))) g r1 (1 + i1) hc_2 hc_4 (by omega) (by omega)) ?_
      refine A_goto (tgt := 43) hg dX11_ruleLetter_39 (by decide) ?_
      rw [hQ]
      exact A_ireturn hg (by decide) (by decide) rfl dX11_ruleLetter_43 ⟨rfl, Or.inr (Or.inl (⟨r1, i1, rfl, (by first | rfl | assumption | omega), (by first | rfl | assumption | omega), (by first | rfl | assumption | omega), (by first | rfl | assumption | omega), hc_2, (fun i hi => (hf_3 i (by omega)))⟩))⟩
set_option maxRecDepth 100000 in
set_option maxHeartbeats 4000000 in
theorem c_X11_barred (G : GL) (ex : Bool) (n : Nat) (σ : Nat → va_E) (F : Nat → Int32) (g : Nat → Nat) (r : Int32) (x : Int32) (s : Bool) (hc0 : σ 279 = o11 G F) (hc1 : σ 280 = q_an G 265 g) (hn : 294 ≤ n) (hg9 : s_gwf g) : Ct G yX11_barred cX11_barred 4 (some .int) ⟨2, 0, 0, 43⟩ [.ref (q_h G + 279), .int (r), .int (x), .int (q_b (s))] ex n σ (fun v9 σ2 => (v9 = some (.int (nI (0))) ∧ (∀ j : Nat, j < g 0 → r = nI j → False) ∧ σ2 279 = o11 G (upd F 7 (nI (1))) ∧ (∀ i : Nat, i ≠ 279 → σ2 i = σ i)) ∨ (∃ (r1 : Nat), ∃ (i1 : Nat), v9 = some (.int (nI (s_rule g r1 (21 + 2 * i1 + (if s = true then 1 else 0))))) ∧ (r = nI r1) ∧ (r1 < g 0) ∧ (x = nI i1) ∧ (i1 < s_rule g r1 20) ∧ σ2 279 = o11 G (upd F 7 (nI (0))) ∧ (∀ i : Nat, i ≠ 279 → σ2 i = σ i)) ∨ (∃ (r1 : Nat), v9 = some (.int (q_d (0))) ∧ (r = nI r1) ∧ (r1 < g 0) ∧ (∀ j : Nat, j < s_rule g r1 20 → x = nI j → False) ∧ σ2 279 = o11 G (upd F 7 (nI (0))) ∧ (∀ i : Nat, i ≠ 279 → σ2 i = σ i))) := by
  refine q_enter [some (.ref (q_h G + 279)), some (.int (r)), some (.int (x)), some (.int (q_b (s)))] (by decide) (Nat.le_of_ble_eq_true rfl) rfl ?_
  intro K hg
  obtain ⟨Q, hQ⟩ : ∃ Q, Q = q_Q G K ex n 0 0 (fun v9 n' σ' => n' = n ∧ (fun v9 σ2 => (v9 = some (.int (nI (0))) ∧ (∀ j : Nat, j < g 0 → r = nI j → False) ∧ σ2 279 = o11 G (upd F 7 (nI (1))) ∧ (∀ i : Nat, i ≠ 279 → σ2 i = σ i)) ∨ (∃ (r1 : Nat), ∃ (i1 : Nat), v9 = some (.int (nI (s_rule g r1 (21 + 2 * i1 + (if s = true then 1 else 0))))) ∧ (r = nI r1) ∧ (r1 < g 0) ∧ (x = nI i1) ∧ (i1 < s_rule g r1 20) ∧ σ2 279 = o11 G (upd F 7 (nI (0))) ∧ (∀ i : Nat, i ≠ 279 → σ2 i = σ i)) ∨ (∃ (r1 : Nat), v9 = some (.int (q_d (0))) ∧ (r = nI r1) ∧ (r1 < g 0) ∧ (∀ j : Nat, j < s_rule g r1 20 → x = nI j → False) ∧ σ2 279 = o11 G (upd F 7 (nI (0))) ∧ (∀ i : Nat, i ≠ 279 → σ2 i = σ i))) v9 σ') q_noX := ⟨_, rfl⟩
  refine (?_ : AJ G K (q_Q G K ex n 0 0 _ _) 0 0 ex n 0 _ _ σ)
  rw [← hQ]
  have hnr : g 0 ≤ 4 := hg9.1
  refine A_aload_n hg dX11_barred_0 rfl rfl ?_
  refine A_iconst (v := (nI (0))) hg dX11_barred_1 (by decide) ?_
  refine A_putf hg fl_RX11_67 dX11_barred_2 hc0 (by omega) (Nat.le_of_ble_eq_true rfl) rfl rfl rfl (fun σ_1 hc_2 hf_3 => ?_)
  have hc_2 : σ_1 279 = o11 G (upd F 7 (nI (0))) := hc_2
  have hc_4 : σ_1 280 = q_an G 265 g := (hf_3 _ (by omega)).trans hc1
  refine A_aload_n hg dX11_barred_5 rfl rfl ?_
  refine A_iload_n hg dX11_barred_6 rfl rfl ?_
  refine A_hV (kc2 := 0) (ks2 := 0) (As := [.int (r)]) (rest := []) hg lk_RX11_402 in_X11_noRule se_X11_noRule rfl dX11_barred_7 ⟨by decide, by decide⟩ rfl rfl ⟨by decide, by decide⟩ hc_2 (by omega) rfl rfl (Nat.le_of_ble_eq_true rfl) (c_X11_noRule G ex n σ_1 (upd F 7 (nI (0))) g r hc_2 hc_4 (by omega) (by omega)) ?_
  rintro _ σ_8 (⟨rfl, hno, hc_5, hf_6⟩ | ⟨r1, rfl, hre, hrl, he_7⟩)
  · skip
    refine (?_ : AJ G K Q 0 0 ex n 10 [some (.ref (q_h G + 279)), some (.int (r)), some (.int (x)), some (.int (q_b (s)))] [.int (nI (1))] σ_8)
    have hc_5 : σ_8 279 = o11 G (upd F 7 (nI (1))) := hc_5
    have hc_9 : σ_8 280 = q_an G 265 g := (hf_6 _ (by omega)).trans hc_4
    refine A_if_eqN (tgt := 15) hg dX11_barred_10 (by decide) (by decide) (fun c10 => absurd c10 (by decide)) (fun c10 => ?_)
    refine A_iconst (v := (nI (0))) hg dX11_barred_13 (by decide) ?_
    rw [hQ]
    exact A_ireturn hg (by decide) (by decide) rfl dX11_barred_14 ⟨rfl, Or.inl (⟨rfl, (by first | rfl | assumption | omega), hc_5, (fun i hi => ((hf_6 i (by omega)).trans (hf_3 i (by omega))))⟩)⟩
  · skip
    rw [he_7]
    refine (?_ : AJ G K Q 0 0 ex n 10 [some (.ref (q_h G + 279)), some (.int (r)), some (.int (x)), some (.int (q_b (s)))] [.int (nI (0))] σ_1)
    refine A_if_eqN (tgt := 15) hg dX11_barred_10 (by decide) (by decide) (fun c10 => ?_) (fun c10 => absurd (by decide) c10)
    subst hre
    have hw := hg9.2.2.2.2.2.1 r1 hrl
    have hu0 := hw.1
    have hu9 := hw.2.1
    have hu18 := hw.2.2.1
    have hu19 := hw.2.2.2.1
    have hu20 := hw.2.2.2.2.1
    refine A_iload_n hg dX11_barred_15 rfl rfl ?_
    refine A_iconst (v := (nI (0))) hg dX11_barred_16 (by decide) ?_
    refine A_aload_n hg dX11_barred_17 rfl rfl ?_
    refine A_iload_n hg dX11_barred_18 rfl rfl ?_
    refine A_bipush (v := (nI (20))) hg dX11_barred_19 (by decide) ?_
    refine A_eV (kc2 := 0) (ks2 := 0) (As := [.int (nI (r1)), .int (nI (20))]) (rest := [.int (nI (0)), .int (x)]) hg lk_RX11_85 in_X11_of se_X11_of rfl dX11_barred_21 ⟨by decide, by decide⟩ rfl rfl ⟨by decide, by decide⟩ hc_2 (by omega) rfl rfl (Nat.le_of_ble_eq_true rfl) (c_X11_of G ex n σ_1 (upd F 7 (nI (0))) g r1 20 hc_2 hc_4 (by omega) (by omega)) ?_
    refine A_iconst (v := (nI (1))) hg dX11_barred_24 (by decide) ?_
    refine A_isub hg dX11_barred_25 ?_
    refine A_eS (kc2 := 0) (ks2 := 0) (As := [.int (x), .int (nI (0)), .int ((nI (s_rule g r1 20)) - (nI (1)))]) (rest := []) hg lk_RX11_77 st_X11_inRange dX11_barred_26 ⟨by decide, by decide⟩ rfl rfl ⟨by decide, by decide⟩ rfl rfl (Nat.le_of_ble_eq_true rfl) (c_X11_inRange G ex n σ_1 x (nI (0)) ((nI (s_rule g r1 20)) - (nI (1)))) ?_
    refine A_if_eqB (tgt := 56) hg dX11_barred_29 (by decide) (fun c29 => ?_) (fun c29 => ?_)
    · skip
      refine A_iconst (v := (q_d (0))) hg dX11_barred_56 (by decide) ?_
      rw [hQ]
      exact A_ireturn hg (by decide) (by decide) rfl dX11_barred_57 ⟨rfl, Or.inr (Or.inr ((⟨r1, rfl, (by first | rfl | assumption | omega), (by first | rfl | assumption | omega), (q_below_f (by omega) c29), hc_2, (fun i hi => (hf_3 i (by omega)))⟩)))⟩
    · skip
      obtain ⟨i1, hie, hil⟩ := q_below_t (by omega) c29
      subst hie
      refine A_aload_n hg dX11_barred_32 rfl rfl ?_
      refine A_iload_n hg dX11_barred_33 rfl rfl ?_
      refine A_bipush (v := (nI (21))) hg dX11_barred_34 (by decide) ?_
      refine A_iconst (v := (nI (2))) hg dX11_barred_36 (by decide) ?_
      refine A_iload_n hg dX11_barred_37 rfl rfl ?_
      refine A_imulN hg dX11_barred_38 ?_
      refine A_iaddN hg dX11_barred_39 ?_
      refine A_iload_n hg dX11_barred_40 rfl rfl ?_
      refine A_if_eqB (tgt := 48) hg dX11_barred_41 (by decide) (fun c41 => ?_) (fun c41 => ?_)
      · skip
        refine A_iconst (v := (nI (0))) hg dX11_barred_48 (by decide) ?_
        refine A_iaddN hg dX11_barred_49 ?_
        refine A_eV (kc2 := 0) (ks2 := 0) (As := [.int (nI (r1)), .int (nI ((21 + (2 * i1)) + 0))]) (rest := []) hg lk_RX11_85 in_X11_of se_X11_of rfl dX11_barred_50 ⟨by decide, by decide⟩ rfl rfl ⟨by decide, by decide⟩ hc_2 (by omega) rfl rfl (Nat.le_of_ble_eq_true rfl) (c_X11_of G ex n σ_1 (upd F 7 (nI (0))) g r1 ((21 + (2 * i1)) + 0) hc_2 hc_4 (by omega) (by omega)) ?_
        refine A_goto (tgt := 57) hg dX11_barred_53 (by decide) ?_
        rw [hQ]
        exact A_ireturn hg (by decide) (by decide) rfl dX11_barred_57 ⟨rfl, Or.inr (Or.inl (⟨r1, i1, (by rw [c41]; rfl), (by first | rfl | assumption | omega), (by first | rfl | assumption | omega), (by first | rfl | assumption | omega), (by first | rfl | assumption | omega), hc_2, (fun i hi => (hf_3 i (by omega)))⟩))⟩
      · skip
        refine A_iconst (v := (nI (1))) hg dX11_barred_44 (by decide) ?_
        refine A_goto (tgt := 49) hg dX11_barred_45 (by decide) ?_
        refine A_iaddN hg dX11_barred_49 ?_
        refine A_eV (kc2 := 0) (ks2 := 0) (As := [.int (nI (r1)), .int (nI ((21 + (2 * i1)) + 1))]) (rest := []) hg lk_RX11_85 in_X11_of se_X11_of rfl dX11_barred_50 ⟨by decide, by decide⟩ rfl rfl ⟨by decide, by decide⟩ hc_2 (by omega) rfl rfl (Nat.le_of_ble_eq_true rfl) (c_X11_of G ex n σ_1 (upd F 7 (nI (0))) g r1 ((21 + (2 * i1)) + 1) hc_2 hc_4 (by omega) (by omega)) ?_
        refine A_goto (tgt := 57) hg dX11_barred_53 (by decide) ?_
        rw [hQ]
        exact A_ireturn hg (by decide) (by decide) rfl dX11_barred_57 ⟨rfl, Or.inr (Or.inl (⟨r1, i1, (by rw [c41]; rfl), (by first | rfl | assumption | omega), (by first | rfl | assumption | omega), (by first | rfl | assumption | omega), (by first | rfl | assumption | omega), hc_2, (fun i hi => (hf_3 i (by omega)))⟩))⟩
set_option maxRecDepth 100000 in
set_option maxHeartbeats 4000000 in
theorem c_X11_allows (G : GL) (ex : Bool) (n : Nat) (σ : Nat → va_E) (F : Nat → Int32) (g : Nat → Nat) (r : Int32) (k : Int32) (l : Int32) (hc0 : σ 279 = o11 G F) (hc1 : σ 280 = q_an G 265 g) (hn : 294 ≤ n) (hg9 : s_gwf g) : Ct G yX11_allows cX11_allows 4 (some .boolean) ⟨4, 0, 0, 93⟩ [.ref (q_h G + 279), .int (r), .int (k), .int (l)] ex n σ (fun v9 σ2 => (v9 = some (.int (nI (0))) ∧ (∀ j : Nat, j < g 0 → r = nI j → False) ∧ σ2 279 = o11 G (upd F 7 (nI (1))) ∧ (∀ i : Nat, i ≠ 279 → σ2 i = σ i)) ∨ (∃ (r1 : Nat), v9 = some (.int (nI (0))) ∧ (r = nI r1) ∧ (r1 < g 0) ∧ (∀ a b : Nat, a ≤ 40 → b ≤ 40 → k = nI a → l = nI b → False) ∧ σ2 279 = o11 G (upd F 7 (nI (2))) ∧ (∀ i : Nat, i ≠ 279 → σ2 i = σ i)) ∨ (∃ (r1 : Nat), ∃ (a1 : Nat), ∃ (b1 : Nat), v9 = some (.int (q_b (s_al (s_rule g r1) a1 b1))) ∧ (r = nI r1) ∧ (r1 < g 0) ∧ (k = nI a1) ∧ (l = nI b1) ∧ (a1 ≤ 40) ∧ (b1 ≤ 40) ∧ σ2 279 = o11 G (upd F 7 (nI (0))) ∧ (∀ i : Nat, i ≠ 279 → σ2 i = σ i))) := by
  refine q_enter [some (.ref (q_h G + 279)), some (.int (r)), some (.int (k)), some (.int (l))] (by decide) (Nat.le_of_ble_eq_true rfl) rfl ?_
  intro K hg
  obtain ⟨Q, hQ⟩ : ∃ Q, Q = q_Q G K ex n 0 0 (fun v9 n' σ' => n' = n ∧ (fun v9 σ2 => (v9 = some (.int (nI (0))) ∧ (∀ j : Nat, j < g 0 → r = nI j → False) ∧ σ2 279 = o11 G (upd F 7 (nI (1))) ∧ (∀ i : Nat, i ≠ 279 → σ2 i = σ i)) ∨ (∃ (r1 : Nat), v9 = some (.int (nI (0))) ∧ (r = nI r1) ∧ (r1 < g 0) ∧ (∀ a b : Nat, a ≤ 40 → b ≤ 40 → k = nI a → l = nI b → False) ∧ σ2 279 = o11 G (upd F 7 (nI (2))) ∧ (∀ i : Nat, i ≠ 279 → σ2 i = σ i)) ∨ (∃ (r1 : Nat), ∃ (a1 : Nat), ∃ (b1 : Nat), v9 = some (.int (q_b (s_al (s_rule g r1) a1 b1))) ∧ (r = nI r1) ∧ (r1 < g 0) ∧ (k = nI a1) ∧ (l = nI b1) ∧ (a1 ≤ 40) ∧ (b1 ≤ 40) ∧ σ2 279 = o11 G (upd F 7 (nI (0))) ∧ (∀ i : Nat, i ≠ 279 → σ2 i = σ i))) v9 σ') q_noX := ⟨_, rfl⟩
  refine (?_ : AJ G K (q_Q G K ex n 0 0 _ _) 0 0 ex n 0 _ _ σ)
  rw [← hQ]
  have hnr : g 0 ≤ 4 := hg9.1
  refine A_aload_n hg dX11_allows_0 rfl rfl ?_
  refine A_iconst (v := (nI (0))) hg dX11_allows_1 (by decide) ?_
  refine A_putf hg fl_RX11_67 dX11_allows_2 hc0 (by omega) (Nat.le_of_ble_eq_true rfl) rfl rfl rfl (fun σ_1 hc_2 hf_3 => ?_)
  have hc_2 : σ_1 279 = o11 G (upd F 7 (nI (0))) := hc_2
  have hc_4 : σ_1 280 = q_an G 265 g := (hf_3 _ (by omega)).trans hc1
  refine A_aload_n hg dX11_allows_5 rfl rfl ?_
  refine A_iload_n hg dX11_allows_6 rfl rfl ?_
  refine A_hV (kc2 := 0) (ks2 := 0) (As := [.int (r)]) (rest := []) hg lk_RX11_402 in_X11_noRule se_X11_noRule rfl dX11_allows_7 ⟨by decide, by decide⟩ rfl rfl ⟨by decide, by decide⟩ hc_2 (by omega) rfl rfl (Nat.le_of_ble_eq_true rfl) (c_X11_noRule G ex n σ_1 (upd F 7 (nI (0))) g r hc_2 hc_4 (by omega) (by omega)) ?_
  rintro _ σ_8 (⟨rfl, hno, hc_5, hf_6⟩ | ⟨r1, rfl, hre, hrl, he_7⟩)
  · skip
    refine (?_ : AJ G K Q 0 0 ex n 10 [some (.ref (q_h G + 279)), some (.int (r)), some (.int (k)), some (.int (l))] [.int (nI (1))] σ_8)
    have hc_5 : σ_8 279 = o11 G (upd F 7 (nI (1))) := hc_5
    have hc_9 : σ_8 280 = q_an G 265 g := (hf_6 _ (by omega)).trans hc_4
    refine A_if_neN (tgt := 36) hg dX11_allows_10 (by decide) (by decide) (fun c10 => ?_) (fun c10 => absurd c10 (by decide))
    refine A_iconst (v := (nI (0))) hg dX11_allows_36 (by decide) ?_
    rw [hQ]
    exact A_zreturn hg (by decide) (by decide) rfl rfl dX11_allows_37 ⟨rfl, Or.inl (⟨rfl, (by first | rfl | assumption | omega), hc_5, (fun i hi => ((hf_6 i (by omega)).trans (hf_3 i (by omega))))⟩)⟩
  · skip
    rw [he_7]
    refine (?_ : AJ G K Q 0 0 ex n 10 [some (.ref (q_h G + 279)), some (.int (r)), some (.int (k)), some (.int (l))] [.int (nI (0))] σ_1)
    refine A_if_neN (tgt := 36) hg dX11_allows_10 (by decide) (by decide) (fun c10 => absurd (by decide) c10) (fun c10 => ?_)
    subst hre
    have hw := hg9.2.2.2.2.2.1 r1 hrl
    have hu0 := hw.1
    have hu9 := hw.2.1
    have hu18 := hw.2.2.1
    have hu19 := hw.2.2.2.1
    have hu20 := hw.2.2.2.2.1
    refine A_aload_n hg dX11_allows_13 rfl rfl ?_
    refine A_iload_n hg dX11_allows_14 rfl rfl ?_
    refine A_iload_n hg dX11_allows_15 rfl rfl ?_
    refine A_hV (kc2 := 0) (ks2 := 0) (As := [.int (k), .int (l)]) (rest := []) hg lk_RX11_424 in_X11_noPair se_X11_noPair rfl dX11_allows_16 ⟨by decide, by decide⟩ rfl rfl ⟨by decide, by decide⟩ hc_2 (by omega) rfl rfl (Nat.le_of_ble_eq_true rfl) (c_X11_noPair G ex n σ_1 (upd F 7 (nI (0))) k l hc_2 (by omega)) ?_
    rintro _ σ_13 (⟨rfl, hnp, hc_10, hf_11⟩ | ⟨a1, b1, rfl, hke, hle, hkl, hll, he_12⟩)
    · skip
      refine (?_ : AJ G K Q 0 0 ex n 19 [some (.ref (q_h G + 279)), some (.int (nI (r1))), some (.int (k)), some (.int (l))] [.int (nI (1))] σ_13)
      have hc_10 : σ_13 279 = o11 G (upd F 7 (nI (2))) := hc_10
      have hc_14 : σ_13 280 = q_an G 265 g := (hf_11 _ (by omega)).trans hc_4
      refine A_if_neN (tgt := 36) hg dX11_allows_19 (by decide) (by decide) (fun c19 => ?_) (fun c19 => absurd c19 (by decide))
      refine A_iconst (v := (nI (0))) hg dX11_allows_36 (by decide) ?_
      rw [hQ]
      exact A_zreturn hg (by decide) (by decide) rfl rfl dX11_allows_37 ⟨rfl, Or.inr (Or.inl (⟨r1, rfl, (by first | rfl | assumption | omega), (by first | rfl | assumption | omega), (by first | rfl | assumption | omega), hc_10, (fun i hi => ((hf_11 i (by omega)).trans (hf_3 i (by omega))))⟩))⟩
    · skip
      rw [he_12]
      refine (?_ : AJ G K Q 0 0 ex n 19 [some (.ref (q_h G + 279)), some (.int (nI (r1))), some (.int (k)), some (.int (l))] [.int (nI (0))] σ_1)
      refine A_if_neN (tgt := 36) hg dX11_allows_19 (by decide) (by decide) (fun c19 => absurd (by decide) c19) (fun c19 => ?_)
      subst hke
      subst hle
      refine A_aload_n hg dX11_allows_22 rfl rfl ?_
      refine A_iload_n hg dX11_allows_23 rfl rfl ?_
      refine A_iload_n hg dX11_allows_24 rfl rfl ?_
      refine A_iload_n hg dX11_allows_25 rfl rfl ?_
      refine A_eV (kc2 := 0) (ks2 := 0) (As := [.int (nI (r1)), .int (nI (a1)), .int (nI (b1))]) (rest := []) hg lk_RX11_109 in_X11_allowsMove se_X11_allowsMove rfl dX11_allows_26 ⟨by decide, by decide⟩ rfl rfl ⟨by decide, by decide⟩ hc_2 (by omega) rfl rfl (Nat.le_of_ble_eq_true rfl) (c_X11_allowsMove G ex n σ_1 (upd F 7 (nI (0))) g r1 a1 b1 hc_2 hc_4 (by omega) (by omega) (by omega) (by omega) (by omega)) ?_
      refine A_if_eqB (tgt := 36) hg dX11_allows_29 (by decide) (fun c29 => ?_) (fun c29 => ?_)
      · skip
        refine A_iconst (v := (nI (0))) hg dX11_allows_36 (by decide) ?_
        rw [hQ]
        exact A_zreturn hg (by decide) (by decide) rfl rfl dX11_allows_37 ⟨rfl, Or.inr (Or.inr ((⟨r1, a1, b1, (q_rf c29), (by first | rfl | assumption | omega), (by first | rfl | assumption | omega), (by first | rfl | assumption | omega), (by first | rfl | assumption | omega), (by first | rfl | assumption | omega), (by first | rfl | assumption | omega), hc_2, (fun i hi => (hf_3 i (by omega)))⟩)))⟩
      · skip
        refine A_iconst (v := (nI (1))) hg dX11_allows_32 (by decide) ?_
        refine A_goto (tgt := 37) hg dX11_allows_33 (by decide) ?_
        rw [hQ]
        exact A_zreturn hg (by decide) (by decide) rfl rfl dX11_allows_37 ⟨rfl, Or.inr (Or.inr ((⟨r1, a1, b1, (q_rt c29), (by first | rfl | assumption | omega), (by first | rfl | assumption | omega), (by first | rfl | assumption | omega), (by first | rfl | assumption | omega), (by first | rfl | assumption | omega), (by first | rfl | assumption | omega), hc_2, (fun i hi => (hf_3 i (by omega)))⟩)))⟩
set_option maxRecDepth 100000 in
set_option maxHeartbeats 4000000 in
theorem c_X11_whyNot (G : GL) (ex : Bool) (n : Nat) (σ : Nat → va_E) (F : Nat → Int32) (g : Nat → Nat) (p : Int32) (k : Int32) (l : Int32) (hc0 : σ 279 = o11 G F) (hc1 : σ 280 = q_an G 265 g) (hn : 294 ≤ n) (hg9 : s_gwf g) : Ct G yX11_whyNot cX11_whyNot 4 (some .int) ⟨4, 0, 0, 93⟩ [.ref (q_h G + 279), .int (p), .int (k), .int (l)] ex n σ (fun v9 σ2 => (v9 = some (.int (nI (0))) ∧ (∀ j : Nat, j < s_np g → p = nI j → False) ∧ σ2 279 = o11 G (upd F 7 (nI (1))) ∧ (∀ i : Nat, i ≠ 279 → σ2 i = σ i)) ∨ (∃ (p1 : Nat), v9 = some (.int (nI (s_refI g p1 k l))) ∧ (p = nI p1) ∧ (p1 < s_np g) ∧ σ2 279 = o11 G (upd F 7 (nI (0))) ∧ (∀ i : Nat, i ≠ 279 → σ2 i = σ i))) := by
  refine q_enter [some (.ref (q_h G + 279)), some (.int (p)), some (.int (k)), some (.int (l))] (by decide) (Nat.le_of_ble_eq_true rfl) rfl ?_
  intro K hg
  obtain ⟨Q, hQ⟩ : ∃ Q, Q = q_Q G K ex n 0 0 (fun v9 n' σ' => n' = n ∧ (fun v9 σ2 => (v9 = some (.int (nI (0))) ∧ (∀ j : Nat, j < s_np g → p = nI j → False) ∧ σ2 279 = o11 G (upd F 7 (nI (1))) ∧ (∀ i : Nat, i ≠ 279 → σ2 i = σ i)) ∨ (∃ (p1 : Nat), v9 = some (.int (nI (s_refI g p1 k l))) ∧ (p = nI p1) ∧ (p1 < s_np g) ∧ σ2 279 = o11 G (upd F 7 (nI (0))) ∧ (∀ i : Nat, i ≠ 279 → σ2 i = σ i))) v9 σ') q_noX := ⟨_, rfl⟩
  refine (?_ : AJ G K (q_Q G K ex n 0 0 _ _) 0 0 ex n 0 _ _ σ)
  rw [← hQ]
  refine A_aload_n hg dX11_whyNot_0 rfl rfl ?_
  refine A_iconst (v := (nI (0))) hg dX11_whyNot_1 (by decide) ?_
  refine A_putf hg fl_RX11_67 dX11_whyNot_2 hc0 (by omega) (Nat.le_of_ble_eq_true rfl) rfl rfl rfl (fun σ_1 hc_2 hf_3 => ?_)
  have hc_2 : σ_1 279 = o11 G (upd F 7 (nI (0))) := hc_2
  have hc_4 : σ_1 280 = q_an G 265 g := (hf_3 _ (by omega)).trans hc1
  refine A_aload_n hg dX11_whyNot_5 rfl rfl ?_
  refine A_iload_n hg dX11_whyNot_6 rfl rfl ?_
  refine A_hV (kc2 := 0) (ks2 := 0) (As := [.int (p)]) (rest := []) hg lk_RX11_418 in_X11_noPart se_X11_noPart rfl dX11_whyNot_7 ⟨by decide, by decide⟩ rfl rfl ⟨by decide, by decide⟩ hc_2 (by omega) rfl rfl (Nat.le_of_ble_eq_true rfl) (c_X11_noPart G ex n σ_1 (upd F 7 (nI (0))) g p hc_2 hc_4 (by omega) (s_np_le hg9)) ?_
  rintro _ σ_8 (⟨rfl, hno, hc_5, hf_6⟩ | ⟨p1, rfl, hpe, hpl, he_7⟩)
  · skip
    refine (?_ : AJ G K Q 0 0 ex n 10 [some (.ref (q_h G + 279)), some (.int (p)), some (.int (k)), some (.int (l))] [.int (nI (1))] σ_8)
    have hc_5 : σ_8 279 = o11 G (upd F 7 (nI (1))) := hc_5
    have hc_9 : σ_8 280 = q_an G 265 g := (hf_6 _ (by omega)).trans hc_4
    refine A_if_eqN (tgt := 17) hg dX11_whyNot_10 (by decide) (by decide) (fun c10 => absurd c10 (by decide)) (fun c10 => ?_)
    refine A_iconst (v := (nI (0))) hg dX11_whyNot_13 (by decide) ?_
    refine A_goto (tgt := 24) hg dX11_whyNot_14 (by decide) ?_
    rw [hQ]
    exact A_ireturn hg (by decide) (by decide) rfl dX11_whyNot_24 ⟨rfl, Or.inl (⟨rfl, (by first | rfl | assumption | omega), hc_5, (fun i hi => ((hf_6 i (by omega)).trans (hf_3 i (by omega))))⟩)⟩
  · skip
    rw [he_7]
    refine (?_ : AJ G K Q 0 0 ex n 10 [some (.ref (q_h G + 279)), some (.int (p)), some (.int (k)), some (.int (l))] [.int (nI (0))] σ_1)
    refine A_if_eqN (tgt := 17) hg dX11_whyNot_10 (by decide) (by decide) (fun c10 => ?_) (fun c10 => absurd (by decide) c10)
    subst hpe
    refine A_aload_n hg dX11_whyNot_17 rfl rfl ?_
    refine A_iload_n hg dX11_whyNot_18 rfl rfl ?_
    refine A_iload_n hg dX11_whyNot_19 rfl rfl ?_
    refine A_iload_n hg dX11_whyNot_20 rfl rfl ?_
    refine A_eV (kc2 := 0) (ks2 := 0) (As := [.int (nI (p1)), .int (k), .int (l)]) (rest := []) hg lk_RX11_209 in_X11_refusal se_X11_refusal rfl dX11_whyNot_21 ⟨by decide, by decide⟩ rfl rfl ⟨by decide, by decide⟩ hc_2 (by omega) rfl rfl (Nat.le_of_ble_eq_true rfl) (c_X11_refusalI G ex n σ_1 (upd F 7 (nI (0))) g p1 k l hc_2 hc_4 (by omega) hg9 hpl) ?_
    rw [hQ]
    exact A_ireturn hg (by decide) (by decide) rfl dX11_whyNot_24 ⟨rfl, Or.inr ((⟨p1, rfl, (by first | rfl | assumption | omega), (by first | rfl | assumption | omega), hc_2, (fun i hi => (hf_3 i (by omega)))⟩))⟩
set_option maxRecDepth 100000 in
set_option maxHeartbeats 4000000 in
theorem c_X11_value (G : GL) (ex : Bool) (n : Nat) (σ : Nat → va_E) (F : Nat → Int32) (g : Nat → Nat) (f : Nat → Nat) (nv : Nat → Nat) (ns : Nat → Nat) (mk : Nat → Nat) (va : Nat → Nat) (sp : Nat → Nat) (lo : Nat → Nat) (mc : Nat) (z : Nat) (r : Int32) (k : Int32) (l : Int32) (hc0 : σ 279 = o11 G F) (hc1 : σ 280 = q_an G 265 g) (hc2 : σ 285 = q_bn G 1681 f) (hc3 : σ 286 = q_an G 1681 nv) (hc4 : σ 287 = q_an G 1681 ns) (hc5 : σ 288 = q_an G 2000 mk) (hc6 : σ 289 = q_an G 6724 va) (hc7 : σ 290 = q_an G 6724 sp) (hc8 : σ 291 = q_an G 80 lo) (hn : 294 ≤ n) (hg9 : s_gwf g) (hmc : mc + 6724 < 2 ^ 31) (hF12 : F 12 = nI mc) (hF16 : F 16 = nI z) (hmk : ∀ v : Nat, v < 2000 → mk v ≤ mc) (hTI : s_TI z lo va sp) (hlo : ∀ j : Nat, j < 80 → lo j < 2 ^ 31) : Ct G yX11_value cX11_value 4 (some .int) ⟨6, 0, 0, 137⟩ [.ref (q_h G + 279), .int (r), .int (k), .int (l)] ex n σ (fun v9 σ2 => (v9 = some (.int (nI (0))) ∧ (∀ j : Nat, j < g 0 → r = nI j → False) ∧ σ2 279 = o11 G (upd F 7 (nI (1))) ∧ (∀ i : Nat, i ≠ 279 → σ2 i = σ i)) ∨ (∃ (r1 : Nat), v9 = some (.int (nI (0))) ∧ (r = nI r1) ∧ (r1 < g 0) ∧ (∀ a b : Nat, a ≤ 40 → b ≤ 40 → k = nI a → l = nI b → False) ∧ σ2 279 = o11 G (upd F 7 (nI (2))) ∧ (∀ i : Nat, i ≠ 279 → σ2 i = σ i)) ∨ (∃ (r1 : Nat), ∃ (a1 : Nat), ∃ (b1 : Nat), ∃ (f' : Nat → Nat), ∃ (nv' : Nat → Nat), ∃ (ns' : Nat → Nat), ∃ (mk' : Nat → Nat), ∃ (va' : Nat → Nat), ∃ (sp' : Nat → Nat), ∃ (lo' : Nat → Nat), ∃ (mc' : Nat), ∃ (z' : Nat), v9 = some (.int (nI (s_V (s_rule g r1) (41 * a1 + b1)))) ∧ (r = nI r1) ∧ (r1 < g 0) ∧ (k = nI a1) ∧ (l = nI b1) ∧ (a1 ≤ 40) ∧ (b1 ≤ 40) ∧ (s_TI z' lo' va' sp') ∧ (mc' ≤ mc + 6724) ∧ (∀ v : Nat, v < 2000 → mk' v ≤ mc') ∧ (∀ j : Nat, j < 80 → lo' j < 2 ^ 31) ∧ σ2 279 = o11 G (upd (upd (upd F 7 (nI (0))) 12 (nI (mc'))) 16 (nI (z'))) ∧ σ2 285 = q_bn G 1681 f' ∧ σ2 286 = q_an G 1681 nv' ∧ σ2 287 = q_an G 1681 ns' ∧ σ2 288 = q_an G 2000 mk' ∧ σ2 289 = q_an G 6724 va' ∧ σ2 290 = q_an G 6724 sp' ∧ σ2 291 = q_an G 80 lo' ∧ (∀ i : Nat, i ≠ 279 ∧ (i < 285 ∨ 291 < i) → σ2 i = σ i))) := by
  refine q_enter [some (.ref (q_h G + 279)), some (.int (r)), some (.int (k)), some (.int (l))] (by decide) (Nat.le_of_ble_eq_true rfl) rfl ?_
  intro K hg
  obtain ⟨Q, hQ⟩ : ∃ Q, Q = q_Q G K ex n 0 0 (fun v9 n' σ' => n' = n ∧ (fun v9 σ2 => (v9 = some (.int (nI (0))) ∧ (∀ j : Nat, j < g 0 → r = nI j → False) ∧ σ2 279 = o11 G (upd F 7 (nI (1))) ∧ (∀ i : Nat, i ≠ 279 → σ2 i = σ i)) ∨ (∃ (r1 : Nat), v9 = some (.int (nI (0))) ∧ (r = nI r1) ∧ (r1 < g 0) ∧ (∀ a b : Nat, a ≤ 40 → b ≤ 40 → k = nI a → l = nI b → False) ∧ σ2 279 = o11 G (upd F 7 (nI (2))) ∧ (∀ i : Nat, i ≠ 279 → σ2 i = σ i)) ∨ (∃ (r1 : Nat), ∃ (a1 : Nat), ∃ (b1 : Nat), ∃ (f' : Nat → Nat), ∃ (nv' : Nat → Nat), ∃ (ns' : Nat → Nat), ∃ (mk' : Nat → Nat), ∃ (va' : Nat → Nat), ∃ (sp' : Nat → Nat), ∃ (lo' : Nat → Nat), ∃ (mc' : Nat), ∃ (z' : Nat), v9 = some (.int (nI (s_V (s_rule g r1) (41 * a1 + b1)))) ∧ (r = nI r1) ∧ (r1 < g 0) ∧ (k = nI a1) ∧ (l = nI b1) ∧ (a1 ≤ 40) ∧ (b1 ≤ 40) ∧ (s_TI z' lo' va' sp') ∧ (mc' ≤ mc + 6724) ∧ (∀ v : Nat, v < 2000 → mk' v ≤ mc') ∧ (∀ j : Nat, j < 80 → lo' j < 2 ^ 31) ∧ σ2 279 = o11 G (upd (upd (upd F 7 (nI (0))) 12 (nI (mc'))) 16 (nI (z'))) ∧ σ2 285 = q_bn G 1681 f' ∧ σ2 286 = q_an G 1681 nv' ∧ σ2 287 = q_an G 1681 ns' ∧ σ2 288 = q_an G 2000 mk' ∧ σ2 289 = q_an G 6724 va' ∧ σ2 290 = q_an G 6724 sp' ∧ σ2 291 = q_an G 80 lo' ∧ (∀ i : Nat, i ≠ 279 ∧ (i < 285 ∨ 291 < i) → σ2 i = σ i))) v9 σ') q_noX := ⟨_, rfl⟩
  refine (?_ : AJ G K (q_Q G K ex n 0 0 _ _) 0 0 ex n 0 _ _ σ)
  rw [← hQ]
  have hnr : g 0 ≤ 4 := hg9.1
  refine A_aload_n hg dX11_value_0 rfl rfl ?_
  refine A_iconst (v := (nI (0))) hg dX11_value_1 (by decide) ?_
  refine A_putf hg fl_RX11_67 dX11_value_2 hc0 (by omega) (Nat.le_of_ble_eq_true rfl) rfl rfl rfl (fun σ_1 hc_2 hf_3 => ?_)
  have hc_2 : σ_1 279 = o11 G (upd F 7 (nI (0))) := hc_2
  have hc_4 : σ_1 280 = q_an G 265 g := (hf_3 _ (by omega)).trans hc1
  have hc_5 : σ_1 285 = q_bn G 1681 f := (hf_3 _ (by omega)).trans hc2
  have hc_6 : σ_1 286 = q_an G 1681 nv := (hf_3 _ (by omega)).trans hc3
  have hc_7 : σ_1 287 = q_an G 1681 ns := (hf_3 _ (by omega)).trans hc4
  have hc_8 : σ_1 288 = q_an G 2000 mk := (hf_3 _ (by omega)).trans hc5
  have hc_9 : σ_1 289 = q_an G 6724 va := (hf_3 _ (by omega)).trans hc6
  have hc_10 : σ_1 290 = q_an G 6724 sp := (hf_3 _ (by omega)).trans hc7
  have hc_11 : σ_1 291 = q_an G 80 lo := (hf_3 _ (by omega)).trans hc8
  refine A_aload_n hg dX11_value_5 rfl rfl ?_
  refine A_iload_n hg dX11_value_6 rfl rfl ?_
  refine A_hV (kc2 := 0) (ks2 := 0) (As := [.int (r)]) (rest := []) hg lk_RX11_402 in_X11_noRule se_X11_noRule rfl dX11_value_7 ⟨by decide, by decide⟩ rfl rfl ⟨by decide, by decide⟩ hc_2 (by omega) rfl rfl (Nat.le_of_ble_eq_true rfl) (c_X11_noRule G ex n σ_1 (upd F 7 (nI (0))) g r hc_2 hc_4 (by omega) (by omega)) ?_
  rintro _ σ_15 (⟨rfl, hno, hc_12, hf_13⟩ | ⟨r1, rfl, hre, hrl, he_14⟩)
  · skip
    refine (?_ : AJ G K Q 0 0 ex n 10 [some (.ref (q_h G + 279)), some (.int (r)), some (.int (k)), some (.int (l))] [.int (nI (1))] σ_15)
    have hc_12 : σ_15 279 = o11 G (upd F 7 (nI (1))) := hc_12
    have hc_16 : σ_15 280 = q_an G 265 g := (hf_13 _ (by omega)).trans hc_4
    have hc_17 : σ_15 285 = q_bn G 1681 f := (hf_13 _ (by omega)).trans hc_5
    have hc_18 : σ_15 286 = q_an G 1681 nv := (hf_13 _ (by omega)).trans hc_6
    have hc_19 : σ_15 287 = q_an G 1681 ns := (hf_13 _ (by omega)).trans hc_7
    have hc_20 : σ_15 288 = q_an G 2000 mk := (hf_13 _ (by omega)).trans hc_8
    have hc_21 : σ_15 289 = q_an G 6724 va := (hf_13 _ (by omega)).trans hc_9
    have hc_22 : σ_15 290 = q_an G 6724 sp := (hf_13 _ (by omega)).trans hc_10
    have hc_23 : σ_15 291 = q_an G 80 lo := (hf_13 _ (by omega)).trans hc_11
    refine A_if_neN (tgt := 22) hg dX11_value_10 (by decide) (by decide) (fun c10 => ?_) (fun c10 => absurd c10 (by decide))
    refine A_iconst (v := (nI (0))) hg dX11_value_22 (by decide) ?_
    rw [hQ]
    exact A_ireturn hg (by decide) (by decide) rfl dX11_value_23 ⟨rfl, Or.inl (⟨rfl, (by first | rfl | assumption | omega), hc_12, (fun i hi => ((hf_13 i (by omega)).trans (hf_3 i (by omega))))⟩)⟩
  · skip
    rw [he_14]
    refine (?_ : AJ G K Q 0 0 ex n 10 [some (.ref (q_h G + 279)), some (.int (r)), some (.int (k)), some (.int (l))] [.int (nI (0))] σ_1)
    refine A_if_neN (tgt := 22) hg dX11_value_10 (by decide) (by decide) (fun c10 => absurd (by decide) c10) (fun c10 => ?_)
    subst hre
    have hw := hg9.2.2.2.2.2.1 r1 hrl
    have hu0 := hw.1
    have hu9 := hw.2.1
    have hu18 := hw.2.2.1
    have hu19 := hw.2.2.2.1
    have hu20 := hw.2.2.2.2.1
    refine A_aload_n hg dX11_value_13 rfl rfl ?_
    refine A_iload_n hg dX11_value_14 rfl rfl ?_
    refine A_iload_n hg dX11_value_15 rfl rfl ?_
    refine A_hV (kc2 := 0) (ks2 := 0) (As := [.int (k), .int (l)]) (rest := []) hg lk_RX11_424 in_X11_noPair se_X11_noPair rfl dX11_value_16 ⟨by decide, by decide⟩ rfl rfl ⟨by decide, by decide⟩ hc_2 (by omega) rfl rfl (Nat.le_of_ble_eq_true rfl) (c_X11_noPair G ex n σ_1 (upd F 7 (nI (0))) k l hc_2 (by omega)) ?_
    rintro _ σ_27 (⟨rfl, hnp, hc_24, hf_25⟩ | ⟨a1, b1, rfl, hke, hle, hkl, hll, he_26⟩)
    · skip
      refine (?_ : AJ G K Q 0 0 ex n 19 [some (.ref (q_h G + 279)), some (.int (nI (r1))), some (.int (k)), some (.int (l))] [.int (nI (1))] σ_27)
      have hc_24 : σ_27 279 = o11 G (upd F 7 (nI (2))) := hc_24
      have hc_28 : σ_27 280 = q_an G 265 g := (hf_25 _ (by omega)).trans hc_4
      have hc_29 : σ_27 285 = q_bn G 1681 f := (hf_25 _ (by omega)).trans hc_5
      have hc_30 : σ_27 286 = q_an G 1681 nv := (hf_25 _ (by omega)).trans hc_6
      have hc_31 : σ_27 287 = q_an G 1681 ns := (hf_25 _ (by omega)).trans hc_7
      have hc_32 : σ_27 288 = q_an G 2000 mk := (hf_25 _ (by omega)).trans hc_8
      have hc_33 : σ_27 289 = q_an G 6724 va := (hf_25 _ (by omega)).trans hc_9
      have hc_34 : σ_27 290 = q_an G 6724 sp := (hf_25 _ (by omega)).trans hc_10
      have hc_35 : σ_27 291 = q_an G 80 lo := (hf_25 _ (by omega)).trans hc_11
      refine A_if_eqN (tgt := 24) hg dX11_value_19 (by decide) (by decide) (fun c19 => absurd c19 (by decide)) (fun c19 => ?_)
      refine A_iconst (v := (nI (0))) hg dX11_value_22 (by decide) ?_
      rw [hQ]
      exact A_ireturn hg (by decide) (by decide) rfl dX11_value_23 ⟨rfl, Or.inr (Or.inl (⟨r1, rfl, (by first | rfl | assumption | omega), (by first | rfl | assumption | omega), (by first | rfl | assumption | omega), hc_24, (fun i hi => ((hf_25 i (by omega)).trans (hf_3 i (by omega))))⟩))⟩
    · skip
      rw [he_26]
      refine (?_ : AJ G K Q 0 0 ex n 19 [some (.ref (q_h G + 279)), some (.int (nI (r1))), some (.int (k)), some (.int (l))] [.int (nI (0))] σ_1)
      refine A_if_eqN (tgt := 24) hg dX11_value_19 (by decide) (by decide) (fun c19 => ?_) (fun c19 => absurd (by decide) c19)
      subst hke
      subst hle
      refine A_aload_n hg dX11_value_24 rfl rfl ?_
      refine A_iload_n hg dX11_value_25 rfl rfl ?_
      refine A_vV (kc2 := 0) (ks2 := 0) (As := [.int (nI (r1))]) (rest := []) hg lk_RX11_143 in_X11_lays se_X11_lays rfl dX11_value_26 ⟨by decide, by decide⟩ rfl rfl ⟨by decide, by decide⟩ hc_2 (by omega) rfl rfl (Nat.le_of_ble_eq_true rfl) (c_X11_lays G ex n σ_1 (upd F 7 (nI (0))) g r1 f nv ns mk va sp lo mc z hc_2 hc_4 hc_5 hc_6 hc_7 hc_8 hc_9 hc_10 hc_11 (by omega) (by omega) hw (by omega) hF12 hF16 hmk hTI hlo) ?_
      rintro σ_45 ⟨f', nv', ns', mk', va', sp', lo', mc', z', hTI2, hCU2, hkp2, hmc2, hmk2, hlo2, hc_36, hc_37, hc_38, hc_39, hc_40, hc_41, hc_42, hc_43, hf_44⟩
      have hc_36 : σ_45 279 = o11 G (upd (upd (upd F 7 (nI (0))) 12 (nI (mc'))) 16 (nI (z'))) := hc_36
      have hc_46 : σ_45 280 = q_an G 265 g := (hf_44 _ (by omega)).trans hc_4
      refine A_aload_n hg dX11_value_29 rfl rfl ?_
      refine A_iload_n hg dX11_value_30 rfl rfl ?_
      refine A_iload_n hg dX11_value_31 rfl rfl ?_
      refine A_iload_n hg dX11_value_32 rfl rfl ?_
      refine A_eV (kc2 := 0) (ks2 := 0) (As := [.int (nI (r1)), .int (nI (a1)), .int (nI (b1))]) (rest := []) hg lk_RX11_188 in_X11_valueAt se_X11_valueAt rfl dX11_value_33 ⟨by decide, by decide⟩ rfl rfl ⟨by decide, by decide⟩ hc_36 (by omega) rfl rfl (Nat.le_of_ble_eq_true rfl) (c_X11_valueAt G ex n σ_45 (upd (upd (upd F 7 (nI (0))) 12 (nI (mc'))) 16 (nI (z'))) va' r1 a1 b1 hc_36 hc_41 (by omega) (by omega) (by omega) (by omega)) ?_
      rw [hQ]
      exact A_ireturn hg (by decide) (by decide) rfl dX11_value_36 ⟨rfl, Or.inr (Or.inr ((⟨r1, a1, b1, f', nv', ns', mk', va', sp', lo', mc', z', (by rw [show 1681 * r1 + 41 * a1 + b1 = 1681 * r1 + (41 * a1 + b1) by omega, (hCU2 _ (by omega)).1]), (by first | rfl | assumption | omega), (by first | rfl | assumption | omega), (by first | rfl | assumption | omega), (by first | rfl | assumption | omega), (by first | rfl | assumption | omega), (by first | rfl | assumption | omega), hTI2, (by omega), hmk2, hlo2, hc_36, hc_37, hc_38, hc_39, hc_40, hc_41, hc_42, hc_43, (fun i hi => ((hf_44 i (by omega)).trans (hf_3 i (by omega))))⟩)))⟩
set_option maxRecDepth 100000 in
set_option maxHeartbeats 4000000 in
theorem c_X11_account (G : GL) (ex : Bool) (n : Nat) (σ : Nat → va_E) (F : Nat → Int32) (g : Nat → Nat) (p : Int32) (x : Int32) (hc0 : σ 279 = o11 G F) (hc1 : σ 280 = q_an G 265 g) (hn : 294 ≤ n) (hg9 : s_gwf g) : Ct G yX11_account cX11_account 3 (some .int) ⟨2, 0, 0, 43⟩ [.ref (q_h G + 279), .int (p), .int (x)] ex n σ (fun v9 σ2 => (v9 = some (.int (nI (0))) ∧ (∀ j : Nat, 0 ≤ j → j ≤ 1 → p = nI j → False) ∧ σ2 279 = o11 G (upd F 7 (nI (1))) ∧ (∀ i : Nat, i ≠ 279 → σ2 i = σ i)) ∨ (∃ (p1 : Nat), v9 = some (.int (nI (0))) ∧ (p = nI p1) ∧ (p1 ≤ 1) ∧ (∀ j : Nat, 0 ≤ j → j ≤ 4 → x = nI j → False) ∧ σ2 279 = o11 G (upd F 7 (nI (2))) ∧ (∀ i : Nat, i ≠ 279 → σ2 i = σ i)) ∨ (∃ (p1 : Nat), ∃ (x1 : Nat), v9 = some (.int (nI (g (7 + 5 * p1 + x1)))) ∧ (p = nI p1) ∧ (p1 ≤ 1) ∧ (x = nI x1) ∧ (x1 ≤ 4) ∧ σ2 279 = o11 G (upd F 7 (nI (0))) ∧ (∀ i : Nat, i ≠ 279 → σ2 i = σ i))) := by
  refine q_enter [some (.ref (q_h G + 279)), some (.int (p)), some (.int (x))] (by decide) (Nat.le_of_ble_eq_true rfl) rfl ?_
  intro K hg
  obtain ⟨Q, hQ⟩ : ∃ Q, Q = q_Q G K ex n 0 0 (fun v9 n' σ' => n' = n ∧ (fun v9 σ2 => (v9 = some (.int (nI (0))) ∧ (∀ j : Nat, 0 ≤ j → j ≤ 1 → p = nI j → False) ∧ σ2 279 = o11 G (upd F 7 (nI (1))) ∧ (∀ i : Nat, i ≠ 279 → σ2 i = σ i)) ∨ (∃ (p1 : Nat), v9 = some (.int (nI (0))) ∧ (p = nI p1) ∧ (p1 ≤ 1) ∧ (∀ j : Nat, 0 ≤ j → j ≤ 4 → x = nI j → False) ∧ σ2 279 = o11 G (upd F 7 (nI (2))) ∧ (∀ i : Nat, i ≠ 279 → σ2 i = σ i)) ∨ (∃ (p1 : Nat), ∃ (x1 : Nat), v9 = some (.int (nI (g (7 + 5 * p1 + x1)))) ∧ (p = nI p1) ∧ (p1 ≤ 1) ∧ (x = nI x1) ∧ (x1 ≤ 4) ∧ σ2 279 = o11 G (upd F 7 (nI (0))) ∧ (∀ i : Nat, i ≠ 279 → σ2 i = σ i))) v9 σ') q_noX := ⟨_, rfl⟩
  refine (?_ : AJ G K (q_Q G K ex n 0 0 _ _) 0 0 ex n 0 _ _ σ)
  rw [← hQ]
  refine A_aload_n hg dX11_account_0 rfl rfl ?_
  refine A_iconst (v := (nI (0))) hg dX11_account_1 (by decide) ?_
  refine A_putf hg fl_RX11_67 dX11_account_2 hc0 (by omega) (Nat.le_of_ble_eq_true rfl) rfl rfl rfl (fun σ_1 hc_2 hf_3 => ?_)
  have hc_2 : σ_1 279 = o11 G (upd F 7 (nI (0))) := hc_2
  have hc_4 : σ_1 280 = q_an G 265 g := (hf_3 _ (by omega)).trans hc1
  refine A_aload_n hg dX11_account_5 rfl rfl ?_
  refine A_iload_n hg dX11_account_6 rfl rfl ?_
  refine A_hV (kc2 := 0) (ks2 := 0) (As := [.int (p)]) (rest := []) hg lk_RX11_399 in_X11_noPlayer se_X11_noPlayer rfl dX11_account_7 ⟨by decide, by decide⟩ rfl rfl ⟨by decide, by decide⟩ hc_2 (by omega) rfl rfl (Nat.le_of_ble_eq_true rfl) (c_X11_noPlayer G ex n σ_1 (upd F 7 (nI (0))) p hc_2 (by omega)) ?_
  rintro _ σ_8 (⟨rfl, hno, hc_5, hf_6⟩ | ⟨p1, rfl, hpe, hpa, hpl, he_7⟩)
  · skip
    refine (?_ : AJ G K Q 0 0 ex n 10 [some (.ref (q_h G + 279)), some (.int (p)), some (.int (x))] [.int (nI (1))] σ_8)
    have hc_5 : σ_8 279 = o11 G (upd F 7 (nI (1))) := hc_5
    have hc_9 : σ_8 280 = q_an G 265 g := (hf_6 _ (by omega)).trans hc_4
    refine A_if_neN (tgt := 35) hg dX11_account_10 (by decide) (by decide) (fun c10 => ?_) (fun c10 => absurd c10 (by decide))
    refine A_iconst (v := (nI (0))) hg dX11_account_35 (by decide) ?_
    refine A_goto (tgt := 52) hg dX11_account_36 (by decide) ?_
    rw [hQ]
    exact A_ireturn hg (by decide) (by decide) rfl dX11_account_52 ⟨rfl, Or.inl (⟨rfl, (by first | rfl | assumption | omega), hc_5, (fun i hi => ((hf_6 i (by omega)).trans (hf_3 i (by omega))))⟩)⟩
  · skip
    rw [he_7]
    refine (?_ : AJ G K Q 0 0 ex n 10 [some (.ref (q_h G + 279)), some (.int (p)), some (.int (x))] [.int (nI (0))] σ_1)
    refine A_if_neN (tgt := 35) hg dX11_account_10 (by decide) (by decide) (fun c10 => absurd (by decide) c10) (fun c10 => ?_)
    subst hpe
    refine A_aload_n hg dX11_account_13 rfl rfl ?_
    refine A_iload_n hg dX11_account_14 rfl rfl ?_
    refine A_iconst (v := (nI (0))) hg dX11_account_15 (by decide) ?_
    refine A_iconst (v := (nI (4))) hg dX11_account_16 (by decide) ?_
    refine A_eS (kc2 := 0) (ks2 := 0) (As := [.int (x), .int (nI (0)), .int (nI (4))]) (rest := [.ref (q_h G + 279)]) hg lk_RX11_77 st_X11_inRange dX11_account_17 ⟨by decide, by decide⟩ rfl rfl ⟨by decide, by decide⟩ rfl rfl (Nat.le_of_ble_eq_true rfl) (c_X11_inRange G ex n σ_1 x (nI (0)) (nI (4))) ?_
    refine A_if_neB (tgt := 27) hg dX11_account_20 (by decide) (fun c20 => ?_) (fun c20 => ?_)
    · skip
      refine A_iconst (v := (nI (0))) hg dX11_account_27 (by decide) ?_
      refine A_iconst (v := (nI (2))) hg dX11_account_28 (by decide) ?_
      refine A_eV (kc2 := 0) (ks2 := 0) (As := [.int (nI (0)), .int (nI (2))]) (rest := []) hg lk_RX11_81 in_X11_fails se_X11_fails rfl dX11_account_29 ⟨by decide, by decide⟩ rfl rfl ⟨by decide, by decide⟩ hc_2 (by omega) rfl rfl (Nat.le_of_ble_eq_true rfl) (c_X11_fails0 G ex n σ_1 (upd F 7 (nI (0))) (nI (2)) hc_2 (by omega)) ?_
      refine A_if_eqN (tgt := 39) hg dX11_account_32 (by decide) (by decide) (fun c32 => ?_) (fun c32 => absurd (by decide) c32)
      obtain ⟨x1, hxe, -, hxl⟩ := q_in_nat (by decide) c20 (by decide)
      subst hxe
      refine A_aload_n hg dX11_account_39 rfl rfl ?_
      refine A_getf (v := .ref (q_h G + 280)) hg fl_RX11_7 dX11_account_40 hc_2 (by omega) rfl ?_
      refine A_bipush (v := (nI (7))) hg dX11_account_43 (by decide) ?_
      refine A_iconst (v := (nI (5))) hg dX11_account_45 (by decide) ?_
      refine A_iload_n hg dX11_account_46 rfl rfl ?_
      refine A_imulN hg dX11_account_47 ?_
      refine A_iaddN hg dX11_account_48 ?_
      refine A_iload_n hg dX11_account_49 rfl rfl ?_
      refine A_iaddN hg dX11_account_50 ?_
      refine A_iald (j := ((7 + (5 * p1)) + x1)) hg dX11_account_51 hc_4 (by omega) (by omega) (by decide) ?_
      rw [hQ]
      exact A_ireturn hg (by decide) (by decide) rfl dX11_account_52 ⟨rfl, Or.inr (Or.inr ((⟨p1, x1, rfl, (by first | rfl | assumption | omega), (by first | rfl | assumption | omega), (by first | rfl | assumption | omega), (by first | rfl | assumption | omega), hc_2, (fun i hi => (hf_3 i (by omega)))⟩)))⟩
    · skip
      refine A_iconst (v := (nI (1))) hg dX11_account_23 (by decide) ?_
      refine A_goto (tgt := 28) hg dX11_account_24 (by decide) ?_
      refine A_iconst (v := (nI (2))) hg dX11_account_28 (by decide) ?_
      refine A_hV (kc2 := 0) (ks2 := 0) (As := [.int (nI (1)), .int (nI (2))]) (rest := []) hg lk_RX11_81 in_X11_fails se_X11_fails rfl dX11_account_29 ⟨by decide, by decide⟩ rfl rfl ⟨by decide, by decide⟩ hc_2 (by omega) rfl rfl (Nat.le_of_ble_eq_true rfl) (c_X11_fails1 G ex n σ_1 (upd F 7 (nI (0))) 2 hc_2 (by omega)) ?_
      rintro _ σ_12 ⟨rfl, hc_10, hf_11⟩
      refine (?_ : AJ G K Q 0 0 ex n 32 [some (.ref (q_h G + 279)), some (.int (nI (p1))), some (.int (x))] [.int (nI (1))] σ_12)
      have hc_10 : σ_12 279 = o11 G (upd F 7 (nI (2))) := hc_10
      have hc_13 : σ_12 280 = q_an G 265 g := (hf_11 _ (by omega)).trans hc_4
      refine A_if_eqN (tgt := 39) hg dX11_account_32 (by decide) (by decide) (fun c32 => absurd c32 (by decide)) (fun c32 => ?_)
      refine A_iconst (v := (nI (0))) hg dX11_account_35 (by decide) ?_
      refine A_goto (tgt := 52) hg dX11_account_36 (by decide) ?_
      rw [hQ]
      exact A_ireturn hg (by decide) (by decide) rfl dX11_account_52 ⟨rfl, Or.inr (Or.inl (⟨p1, rfl, (by first | rfl | assumption | omega), (by first | rfl | assumption | omega), (q_range_f (by decide) c20), hc_10, (fun i hi => ((hf_11 i (by omega)).trans (hf_3 i (by omega))))⟩))⟩
set_option maxRecDepth 100000 in
set_option maxHeartbeats 4000000 in
theorem c_X11_turn (G : GL) (ex : Bool) (n : Nat) (σ : Nat → va_E) (F : Nat → Int32) (g : Nat → Nat) (p : Int32) (x : Int32) (hc0 : σ 279 = o11 G F) (hc1 : σ 280 = q_an G 265 g) (hn : 294 ≤ n) (hg9 : s_gwf g) : Ct G yX11_turn cX11_turn 3 (some .int) ⟨1, 0, 0, 22⟩ [.ref (q_h G + 279), .int (p), .int (x)] ex n σ (fun v9 σ2 => (v9 = some (.int (nI (0))) ∧ (∀ j : Nat, j < g 6 → p = nI j → False) ∧ σ2 279 = o11 G (upd F 7 (nI (1))) ∧ (∀ i : Nat, i ≠ 279 → σ2 i = σ i)) ∨ (∃ (p1 : Nat), v9 = some (.int (nI (0))) ∧ (p = nI p1) ∧ (p1 < g 6) ∧ (∀ j : Nat, 0 ≤ j → j ≤ 4 → x = nI j → False) ∧ σ2 279 = o11 G (upd F 7 (nI (2))) ∧ (∀ i : Nat, i ≠ 279 → σ2 i = σ i)) ∨ (∃ (p1 : Nat), ∃ (x1 : Nat), v9 = some (.int (nI (g (165 + 5 * (g 6 - 1 - p1) + x1)))) ∧ (p = nI p1) ∧ (p1 < g 6) ∧ (x = nI x1) ∧ (x1 ≤ 4) ∧ σ2 279 = o11 G (upd F 7 (nI (0))) ∧ (∀ i : Nat, i ≠ 279 → σ2 i = σ i))) := by
  refine q_enter [some (.ref (q_h G + 279)), some (.int (p)), some (.int (x))] (by decide) (Nat.le_of_ble_eq_true rfl) rfl ?_
  intro K hg
  obtain ⟨Q, hQ⟩ : ∃ Q, Q = q_Q G K ex n 0 0 (fun v9 n' σ' => n' = n ∧ (fun v9 σ2 => (v9 = some (.int (nI (0))) ∧ (∀ j : Nat, j < g 6 → p = nI j → False) ∧ σ2 279 = o11 G (upd F 7 (nI (1))) ∧ (∀ i : Nat, i ≠ 279 → σ2 i = σ i)) ∨ (∃ (p1 : Nat), v9 = some (.int (nI (0))) ∧ (p = nI p1) ∧ (p1 < g 6) ∧ (∀ j : Nat, 0 ≤ j → j ≤ 4 → x = nI j → False) ∧ σ2 279 = o11 G (upd F 7 (nI (2))) ∧ (∀ i : Nat, i ≠ 279 → σ2 i = σ i)) ∨ (∃ (p1 : Nat), ∃ (x1 : Nat), v9 = some (.int (nI (g (165 + 5 * (g 6 - 1 - p1) + x1)))) ∧ (p = nI p1) ∧ (p1 < g 6) ∧ (x = nI x1) ∧ (x1 ≤ 4) ∧ σ2 279 = o11 G (upd F 7 (nI (0))) ∧ (∀ i : Nat, i ≠ 279 → σ2 i = σ i))) v9 σ') q_noX := ⟨_, rfl⟩
  refine (?_ : AJ G K (q_Q G K ex n 0 0 _ _) 0 0 ex n 0 _ _ σ)
  rw [← hQ]
  have h6 := hg9.2.2.2.2.1
  refine A_aload_n hg dX11_turn_0 rfl rfl ?_
  refine A_iconst (v := (nI (0))) hg dX11_turn_1 (by decide) ?_
  refine A_putf hg fl_RX11_67 dX11_turn_2 hc0 (by omega) (Nat.le_of_ble_eq_true rfl) rfl rfl rfl (fun σ_1 hc_2 hf_3 => ?_)
  have hc_2 : σ_1 279 = o11 G (upd F 7 (nI (0))) := hc_2
  have hc_4 : σ_1 280 = q_an G 265 g := (hf_3 _ (by omega)).trans hc1
  refine A_aload_n hg dX11_turn_5 rfl rfl ?_
  refine A_iload_n hg dX11_turn_6 rfl rfl ?_
  refine A_iconst (v := (nI (0))) hg dX11_turn_7 (by decide) ?_
  refine A_aload_n hg dX11_turn_8 rfl rfl ?_
  refine A_getf (v := .ref (q_h G + 280)) hg fl_RX11_7 dX11_turn_9 hc_2 (by omega) rfl ?_
  refine A_bipush (v := (nI (6))) hg dX11_turn_12 (by decide) ?_
  refine A_iald (j := 6) hg dX11_turn_14 hc_4 (by omega) (by omega) (by decide) ?_
  refine A_iconst (v := (nI (1))) hg dX11_turn_15 (by decide) ?_
  refine A_isub hg dX11_turn_16 ?_
  refine A_eS (kc2 := 0) (ks2 := 0) (As := [.int (p), .int (nI (0)), .int ((nI (g 6)) - (nI (1)))]) (rest := [.ref (q_h G + 279)]) hg lk_RX11_77 st_X11_inRange dX11_turn_17 ⟨by decide, by decide⟩ rfl rfl ⟨by decide, by decide⟩ rfl rfl (Nat.le_of_ble_eq_true rfl) (c_X11_inRange G ex n σ_1 p (nI (0)) ((nI (g 6)) - (nI (1)))) ?_
  refine A_if_neB (tgt := 27) hg dX11_turn_20 (by decide) (fun c20 => ?_) (fun c20 => ?_)
  · skip
    refine A_iconst (v := (nI (0))) hg dX11_turn_27 (by decide) ?_
    refine A_iconst (v := (nI (1))) hg dX11_turn_28 (by decide) ?_
    refine A_eV (kc2 := 0) (ks2 := 0) (As := [.int (nI (0)), .int (nI (1))]) (rest := []) hg lk_RX11_81 in_X11_fails se_X11_fails rfl dX11_turn_29 ⟨by decide, by decide⟩ rfl rfl ⟨by decide, by decide⟩ hc_2 (by omega) rfl rfl (Nat.le_of_ble_eq_true rfl) (c_X11_fails0 G ex n σ_1 (upd F 7 (nI (0))) (nI (1)) hc_2 (by omega)) ?_
    refine A_if_neN (tgt := 57) hg dX11_turn_32 (by decide) (by decide) (fun c32 => absurd (by decide) c32) (fun c32 => ?_)
    obtain ⟨p1, hpe, hpl⟩ := q_below_t (by omega) c20
    subst hpe
    refine A_aload_n hg dX11_turn_35 rfl rfl ?_
    refine A_iload_n hg dX11_turn_36 rfl rfl ?_
    refine A_iconst (v := (nI (0))) hg dX11_turn_37 (by decide) ?_
    refine A_iconst (v := (nI (4))) hg dX11_turn_38 (by decide) ?_
    refine A_eS (kc2 := 0) (ks2 := 0) (As := [.int (x), .int (nI (0)), .int (nI (4))]) (rest := [.ref (q_h G + 279)]) hg lk_RX11_77 st_X11_inRange dX11_turn_39 ⟨by decide, by decide⟩ rfl rfl ⟨by decide, by decide⟩ rfl rfl (Nat.le_of_ble_eq_true rfl) (c_X11_inRange G ex n σ_1 x (nI (0)) (nI (4))) ?_
    refine A_if_neB (tgt := 49) hg dX11_turn_42 (by decide) (fun c42 => ?_) (fun c42 => ?_)
    · skip
      refine A_iconst (v := (nI (0))) hg dX11_turn_49 (by decide) ?_
      refine A_iconst (v := (nI (2))) hg dX11_turn_50 (by decide) ?_
      refine A_eV (kc2 := 0) (ks2 := 0) (As := [.int (nI (0)), .int (nI (2))]) (rest := []) hg lk_RX11_81 in_X11_fails se_X11_fails rfl dX11_turn_51 ⟨by decide, by decide⟩ rfl rfl ⟨by decide, by decide⟩ hc_2 (by omega) rfl rfl (Nat.le_of_ble_eq_true rfl) (c_X11_fails0 G ex n σ_1 (upd F 7 (nI (0))) (nI (2)) hc_2 (by omega)) ?_
      refine A_if_eqN (tgt := 59) hg dX11_turn_54 (by decide) (by decide) (fun c54 => ?_) (fun c54 => absurd (by decide) c54)
      obtain ⟨x1, hxe, -, hxl⟩ := q_in_nat (by decide) c42 (by decide)
      subst hxe
      refine A_aload_n hg dX11_turn_59 rfl rfl ?_
      refine A_getf (v := .ref (q_h G + 280)) hg fl_RX11_7 dX11_turn_60 hc_2 (by omega) rfl ?_
      refine A_sipush (v := (nI (165))) hg dX11_turn_63 (by decide) ?_
      refine A_iconst (v := (nI (5))) hg dX11_turn_66 (by decide) ?_
      refine A_aload_n hg dX11_turn_67 rfl rfl ?_
      refine A_getf (v := .ref (q_h G + 280)) hg fl_RX11_7 dX11_turn_68 hc_2 (by omega) rfl ?_
      refine A_bipush (v := (nI (6))) hg dX11_turn_71 (by decide) ?_
      refine A_iald (j := 6) hg dX11_turn_73 hc_4 (by omega) (by omega) (by decide) ?_
      refine A_iconst (v := (nI (1))) hg dX11_turn_74 (by decide) ?_
      refine A_isubN hg dX11_turn_75 (by omega) ?_
      refine A_iload_n hg dX11_turn_76 rfl rfl ?_
      refine A_isubN hg dX11_turn_77 (by omega) ?_
      refine A_imulN hg dX11_turn_78 ?_
      refine A_iaddN hg dX11_turn_79 ?_
      refine A_iload_n hg dX11_turn_80 rfl rfl ?_
      refine A_iaddN hg dX11_turn_81 ?_
      refine A_iald (j := ((165 + (5 * (((g 6) - 1) - p1))) + x1)) hg dX11_turn_82 hc_4 (by omega) (by omega) (by decide) ?_
      rw [hQ]
      exact A_ireturn hg (by decide) (by decide) rfl dX11_turn_83 ⟨rfl, Or.inr (Or.inr ((⟨p1, x1, rfl, (by first | rfl | assumption | omega), (by first | rfl | assumption | omega), (by first | rfl | assumption | omega), (by first | rfl | assumption | omega), hc_2, (fun i hi => (hf_3 i (by omega)))⟩)))⟩
    · skip
      refine A_iconst (v := (nI (1))) hg dX11_turn_45 (by decide) ?_
      refine A_goto (tgt := 50) hg dX11_turn_46 (by decide) ?_
      refine A_iconst (v := (nI (2))) hg dX11_turn_50 (by decide) ?_
      refine A_hV (kc2 := 0) (ks2 := 0) (As := [.int (nI (1)), .int (nI (2))]) (rest := []) hg lk_RX11_81 in_X11_fails se_X11_fails rfl dX11_turn_51 ⟨by decide, by decide⟩ rfl rfl ⟨by decide, by decide⟩ hc_2 (by omega) rfl rfl (Nat.le_of_ble_eq_true rfl) (c_X11_fails1 G ex n σ_1 (upd F 7 (nI (0))) 2 hc_2 (by omega)) ?_
      rintro _ σ_7 ⟨rfl, hc_5, hf_6⟩
      refine (?_ : AJ G K Q 0 0 ex n 54 [some (.ref (q_h G + 279)), some (.int (nI (p1))), some (.int (x))] [.int (nI (1))] σ_7)
      have hc_5 : σ_7 279 = o11 G (upd F 7 (nI (2))) := hc_5
      have hc_8 : σ_7 280 = q_an G 265 g := (hf_6 _ (by omega)).trans hc_4
      refine A_if_eqN (tgt := 59) hg dX11_turn_54 (by decide) (by decide) (fun c54 => absurd c54 (by decide)) (fun c54 => ?_)
      refine A_iconst (v := (nI (0))) hg dX11_turn_57 (by decide) ?_
      rw [hQ]
      exact A_ireturn hg (by decide) (by decide) rfl dX11_turn_58 ⟨rfl, Or.inr (Or.inl (⟨p1, rfl, (by first | rfl | assumption | omega), (by first | rfl | assumption | omega), (q_range_f (by decide) c42), hc_5, (fun i hi => ((hf_6 i (by omega)).trans (hf_3 i (by omega))))⟩))⟩
  · skip
    refine A_iconst (v := (nI (1))) hg dX11_turn_23 (by decide) ?_
    refine A_goto (tgt := 28) hg dX11_turn_24 (by decide) ?_
    refine A_iconst (v := (nI (1))) hg dX11_turn_28 (by decide) ?_
    refine A_hV (kc2 := 0) (ks2 := 0) (As := [.int (nI (1)), .int (nI (1))]) (rest := []) hg lk_RX11_81 in_X11_fails se_X11_fails rfl dX11_turn_29 ⟨by decide, by decide⟩ rfl rfl ⟨by decide, by decide⟩ hc_2 (by omega) rfl rfl (Nat.le_of_ble_eq_true rfl) (c_X11_fails1 G ex n σ_1 (upd F 7 (nI (0))) 1 hc_2 (by omega)) ?_
    rintro _ σ_11 ⟨rfl, hc_9, hf_10⟩
    refine (?_ : AJ G K Q 0 0 ex n 32 [some (.ref (q_h G + 279)), some (.int (p)), some (.int (x))] [.int (nI (1))] σ_11)
    have hc_9 : σ_11 279 = o11 G (upd F 7 (nI (1))) := hc_9
    have hc_12 : σ_11 280 = q_an G 265 g := (hf_10 _ (by omega)).trans hc_4
    refine A_if_neN (tgt := 57) hg dX11_turn_32 (by decide) (by decide) (fun c32 => ?_) (fun c32 => absurd c32 (by decide))
    refine A_iconst (v := (nI (0))) hg dX11_turn_57 (by decide) ?_
    rw [hQ]
    exact A_ireturn hg (by decide) (by decide) rfl dX11_turn_58 ⟨rfl, Or.inl (⟨rfl, (q_below_f (by omega) c20), hc_9, (fun i hi => ((hf_10 i (by omega)).trans (hf_3 i (by omega))))⟩)⟩
set_option maxRecDepth 100000 in
set_option maxHeartbeats 4000000 in
theorem c_X11_span (G : GL) (ex : Bool) (n : Nat) (σ : Nat → va_E) (F : Nat → Int32) (g : Nat → Nat) (f : Nat → Nat) (nv : Nat → Nat) (ns : Nat → Nat) (mk : Nat → Nat) (va : Nat → Nat) (sp : Nat → Nat) (lo : Nat → Nat) (mc : Nat) (z : Nat) (r : Int32) (k : Int32) (l : Int32) (hc0 : σ 279 = o11 G F) (hc1 : σ 280 = q_an G 265 g) (hc2 : σ 285 = q_bn G 1681 f) (hc3 : σ 286 = q_an G 1681 nv) (hc4 : σ 287 = q_an G 1681 ns) (hc5 : σ 288 = q_an G 2000 mk) (hc6 : σ 289 = q_an G 6724 va) (hc7 : σ 290 = q_an G 6724 sp) (hc8 : σ 291 = q_an G 80 lo) (hn : 294 ≤ n) (hg9 : s_gwf g) (hmc : mc + 6724 < 2 ^ 31) (hF12 : F 12 = nI mc) (hF16 : F 16 = nI z) (hmk : ∀ v : Nat, v < 2000 → mk v ≤ mc) (hTI : s_TI z lo va sp) (hlo : ∀ j : Nat, j < 80 → lo j < 2 ^ 31) : Ct G yX11_span cX11_span 4 (some .int) ⟨6, 0, 0, 137⟩ [.ref (q_h G + 279), .int (r), .int (k), .int (l)] ex n σ (fun v9 σ2 => (v9 = some (.int (nI (0))) ∧ (∀ j : Nat, j < g 0 → r = nI j → False) ∧ σ2 279 = o11 G (upd F 7 (nI (1))) ∧ (∀ i : Nat, i ≠ 279 → σ2 i = σ i)) ∨ (∃ (r1 : Nat), v9 = some (.int (nI (0))) ∧ (r = nI r1) ∧ (r1 < g 0) ∧ (∀ a b : Nat, a ≤ 40 → b ≤ 40 → k = nI a → l = nI b → False) ∧ σ2 279 = o11 G (upd F 7 (nI (2))) ∧ (∀ i : Nat, i ≠ 279 → σ2 i = σ i)) ∨ (∃ (r1 : Nat), ∃ (a1 : Nat), ∃ (b1 : Nat), ∃ (f' : Nat → Nat), ∃ (nv' : Nat → Nat), ∃ (ns' : Nat → Nat), ∃ (mk' : Nat → Nat), ∃ (va' : Nat → Nat), ∃ (sp' : Nat → Nat), ∃ (lo' : Nat → Nat), ∃ (mc' : Nat), ∃ (z' : Nat), v9 = some (.int (nI (s_S (s_rule g r1) (41 * a1 + b1)))) ∧ (r = nI r1) ∧ (r1 < g 0) ∧ (k = nI a1) ∧ (l = nI b1) ∧ (a1 ≤ 40) ∧ (b1 ≤ 40) ∧ (s_TI z' lo' va' sp') ∧ (mc' ≤ mc + 6724) ∧ (∀ v : Nat, v < 2000 → mk' v ≤ mc') ∧ (∀ j : Nat, j < 80 → lo' j < 2 ^ 31) ∧ σ2 279 = o11 G (upd (upd (upd F 7 (nI (0))) 12 (nI (mc'))) 16 (nI (z'))) ∧ σ2 285 = q_bn G 1681 f' ∧ σ2 286 = q_an G 1681 nv' ∧ σ2 287 = q_an G 1681 ns' ∧ σ2 288 = q_an G 2000 mk' ∧ σ2 289 = q_an G 6724 va' ∧ σ2 290 = q_an G 6724 sp' ∧ σ2 291 = q_an G 80 lo' ∧ (∀ i : Nat, i ≠ 279 ∧ (i < 285 ∨ 291 < i) → σ2 i = σ i))) := by
  refine q_enter [some (.ref (q_h G + 279)), some (.int (r)), some (.int (k)), some (.int (l))] (by decide) (Nat.le_of_ble_eq_true rfl) rfl ?_
  intro K hg
  obtain ⟨Q, hQ⟩ : ∃ Q, Q = q_Q G K ex n 0 0 (fun v9 n' σ' => n' = n ∧ (fun v9 σ2 => (v9 = some (.int (nI (0))) ∧ (∀ j : Nat, j < g 0 → r = nI j → False) ∧ σ2 279 = o11 G (upd F 7 (nI (1))) ∧ (∀ i : Nat, i ≠ 279 → σ2 i = σ i)) ∨ (∃ (r1 : Nat), v9 = some (.int (nI (0))) ∧ (r = nI r1) ∧ (r1 < g 0) ∧ (∀ a b : Nat, a ≤ 40 → b ≤ 40 → k = nI a → l = nI b → False) ∧ σ2 279 = o11 G (upd F 7 (nI (2))) ∧ (∀ i : Nat, i ≠ 279 → σ2 i = σ i)) ∨ (∃ (r1 : Nat), ∃ (a1 : Nat), ∃ (b1 : Nat), ∃ (f' : Nat → Nat), ∃ (nv' : Nat → Nat), ∃ (ns' : Nat → Nat), ∃ (mk' : Nat → Nat), ∃ (va' : Nat → Nat), ∃ (sp' : Nat → Nat), ∃ (lo' : Nat → Nat), ∃ (mc' : Nat), ∃ (z' : Nat), v9 = some (.int (nI (s_S (s_rule g r1) (41 * a1 + b1)))) ∧ (r = nI r1) ∧ (r1 < g 0) ∧ (k = nI a1) ∧ (l = nI b1) ∧ (a1 ≤ 40) ∧ (b1 ≤ 40) ∧ (s_TI z' lo' va' sp') ∧ (mc' ≤ mc + 6724) ∧ (∀ v : Nat, v < 2000 → mk' v ≤ mc') ∧ (∀ j : Nat, j < 80 → lo' j < 2 ^ 31) ∧ σ2 279 = o11 G (upd (upd (upd F 7 (nI (0))) 12 (nI (mc'))) 16 (nI (z'))) ∧ σ2 285 = q_bn G 1681 f' ∧ σ2 286 = q_an G 1681 nv' ∧ σ2 287 = q_an G 1681 ns' ∧ σ2 288 = q_an G 2000 mk' ∧ σ2 289 = q_an G 6724 va' ∧ σ2 290 = q_an G 6724 sp' ∧ σ2 291 = q_an G 80 lo' ∧ (∀ i : Nat, i ≠ 279 ∧ (i < 285 ∨ 291 < i) → σ2 i = σ i))) v9 σ') q_noX := ⟨_, rfl⟩
  refine (?_ : AJ G K (q_Q G K ex n 0 0 _ _) 0 0 ex n 0 _ _ σ)
  rw [← hQ]
  have hnr : g 0 ≤ 4 := hg9.1
  refine A_aload_n hg dX11_span_0 rfl rfl ?_
  refine A_iconst (v := (nI (0))) hg dX11_span_1 (by decide) ?_
  refine A_putf hg fl_RX11_67 dX11_span_2 hc0 (by omega) (Nat.le_of_ble_eq_true rfl) rfl rfl rfl (fun σ_1 hc_2 hf_3 => ?_)
  have hc_2 : σ_1 279 = o11 G (upd F 7 (nI (0))) := hc_2
  have hc_4 : σ_1 280 = q_an G 265 g := (hf_3 _ (by omega)).trans hc1
  have hc_5 : σ_1 285 = q_bn G 1681 f := (hf_3 _ (by omega)).trans hc2
  have hc_6 : σ_1 286 = q_an G 1681 nv := (hf_3 _ (by omega)).trans hc3
  have hc_7 : σ_1 287 = q_an G 1681 ns := (hf_3 _ (by omega)).trans hc4
  have hc_8 : σ_1 288 = q_an G 2000 mk := (hf_3 _ (by omega)).trans hc5
  have hc_9 : σ_1 289 = q_an G 6724 va := (hf_3 _ (by omega)).trans hc6
  have hc_10 : σ_1 290 = q_an G 6724 sp := (hf_3 _ (by omega)).trans hc7
  have hc_11 : σ_1 291 = q_an G 80 lo := (hf_3 _ (by omega)).trans hc8
  refine A_aload_n hg dX11_span_5 rfl rfl ?_
  refine A_iload_n hg dX11_span_6 rfl rfl ?_
  refine A_hV (kc2 := 0) (ks2 := 0) (As := [.int (r)]) (rest := []) hg lk_RX11_402 in_X11_noRule se_X11_noRule rfl dX11_span_7 ⟨by decide, by decide⟩ rfl rfl ⟨by decide, by decide⟩ hc_2 (by omega) rfl rfl (Nat.le_of_ble_eq_true rfl) (c_X11_noRule G ex n σ_1 (upd F 7 (nI (0))) g r hc_2 hc_4 (by omega) (by omega)) ?_
  rintro _ σ_15 (⟨rfl, hno, hc_12, hf_13⟩ | ⟨r1, rfl, hre, hrl, he_14⟩)
  · skip
    refine (?_ : AJ G K Q 0 0 ex n 10 [some (.ref (q_h G + 279)), some (.int (r)), some (.int (k)), some (.int (l))] [.int (nI (1))] σ_15)
    have hc_12 : σ_15 279 = o11 G (upd F 7 (nI (1))) := hc_12
    have hc_16 : σ_15 280 = q_an G 265 g := (hf_13 _ (by omega)).trans hc_4
    have hc_17 : σ_15 285 = q_bn G 1681 f := (hf_13 _ (by omega)).trans hc_5
    have hc_18 : σ_15 286 = q_an G 1681 nv := (hf_13 _ (by omega)).trans hc_6
    have hc_19 : σ_15 287 = q_an G 1681 ns := (hf_13 _ (by omega)).trans hc_7
    have hc_20 : σ_15 288 = q_an G 2000 mk := (hf_13 _ (by omega)).trans hc_8
    have hc_21 : σ_15 289 = q_an G 6724 va := (hf_13 _ (by omega)).trans hc_9
    have hc_22 : σ_15 290 = q_an G 6724 sp := (hf_13 _ (by omega)).trans hc_10
    have hc_23 : σ_15 291 = q_an G 80 lo := (hf_13 _ (by omega)).trans hc_11
    refine A_if_neN (tgt := 22) hg dX11_span_10 (by decide) (by decide) (fun c10 => ?_) (fun c10 => absurd c10 (by decide))
    refine A_iconst (v := (nI (0))) hg dX11_span_22 (by decide) ?_
    rw [hQ]
    exact A_ireturn hg (by decide) (by decide) rfl dX11_span_23 ⟨rfl, Or.inl (⟨rfl, (by first | rfl | assumption | omega), hc_12, (fun i hi => ((hf_13 i (by omega)).trans (hf_3 i (by omega))))⟩)⟩
  · skip
    rw [he_14]
    refine (?_ : AJ G K Q 0 0 ex n 10 [some (.ref (q_h G + 279)), some (.int (r)), some (.int (k)), some (.int (l))] [.int (nI (0))] σ_1)
    refine A_if_neN (tgt := 22) hg dX11_span_10 (by decide) (by decide) (fun c10 => absurd (by decide) c10) (fun c10 => ?_)
    subst hre
    have hw := hg9.2.2.2.2.2.1 r1 hrl
    have hu0 := hw.1
    have hu9 := hw.2.1
    have hu18 := hw.2.2.1
    have hu19 := hw.2.2.2.1
    have hu20 := hw.2.2.2.2.1
    refine A_aload_n hg dX11_span_13 rfl rfl ?_
    refine A_iload_n hg dX11_span_14 rfl rfl ?_
    refine A_iload_n hg dX11_span_15 rfl rfl ?_
    refine A_hV (kc2 := 0) (ks2 := 0) (As := [.int (k), .int (l)]) (rest := []) hg lk_RX11_424 in_X11_noPair se_X11_noPair rfl dX11_span_16 ⟨by decide, by decide⟩ rfl rfl ⟨by decide, by decide⟩ hc_2 (by omega) rfl rfl (Nat.le_of_ble_eq_true rfl) (c_X11_noPair G ex n σ_1 (upd F 7 (nI (0))) k l hc_2 (by omega)) ?_
    rintro _ σ_27 (⟨rfl, hnp, hc_24, hf_25⟩ | ⟨a1, b1, rfl, hke, hle, hkl, hll, he_26⟩)
    · skip
      refine (?_ : AJ G K Q 0 0 ex n 19 [some (.ref (q_h G + 279)), some (.int (nI (r1))), some (.int (k)), some (.int (l))] [.int (nI (1))] σ_27)
      have hc_24 : σ_27 279 = o11 G (upd F 7 (nI (2))) := hc_24
      have hc_28 : σ_27 280 = q_an G 265 g := (hf_25 _ (by omega)).trans hc_4
      have hc_29 : σ_27 285 = q_bn G 1681 f := (hf_25 _ (by omega)).trans hc_5
      have hc_30 : σ_27 286 = q_an G 1681 nv := (hf_25 _ (by omega)).trans hc_6
      have hc_31 : σ_27 287 = q_an G 1681 ns := (hf_25 _ (by omega)).trans hc_7
      have hc_32 : σ_27 288 = q_an G 2000 mk := (hf_25 _ (by omega)).trans hc_8
      have hc_33 : σ_27 289 = q_an G 6724 va := (hf_25 _ (by omega)).trans hc_9
      have hc_34 : σ_27 290 = q_an G 6724 sp := (hf_25 _ (by omega)).trans hc_10
      have hc_35 : σ_27 291 = q_an G 80 lo := (hf_25 _ (by omega)).trans hc_11
      refine A_if_eqN (tgt := 24) hg dX11_span_19 (by decide) (by decide) (fun c19 => absurd c19 (by decide)) (fun c19 => ?_)
      refine A_iconst (v := (nI (0))) hg dX11_span_22 (by decide) ?_
      rw [hQ]
      exact A_ireturn hg (by decide) (by decide) rfl dX11_span_23 ⟨rfl, Or.inr (Or.inl (⟨r1, rfl, (by first | rfl | assumption | omega), (by first | rfl | assumption | omega), (by first | rfl | assumption | omega), hc_24, (fun i hi => ((hf_25 i (by omega)).trans (hf_3 i (by omega))))⟩))⟩
    · skip
      rw [he_26]
      refine (?_ : AJ G K Q 0 0 ex n 19 [some (.ref (q_h G + 279)), some (.int (nI (r1))), some (.int (k)), some (.int (l))] [.int (nI (0))] σ_1)
      refine A_if_eqN (tgt := 24) hg dX11_span_19 (by decide) (by decide) (fun c19 => ?_) (fun c19 => absurd (by decide) c19)
      subst hke
      subst hle
      refine A_aload_n hg dX11_span_24 rfl rfl ?_
      refine A_iload_n hg dX11_span_25 rfl rfl ?_
      refine A_vV (kc2 := 0) (ks2 := 0) (As := [.int (nI (r1))]) (rest := []) hg lk_RX11_143 in_X11_lays se_X11_lays rfl dX11_span_26 ⟨by decide, by decide⟩ rfl rfl ⟨by decide, by decide⟩ hc_2 (by omega) rfl rfl (Nat.le_of_ble_eq_true rfl) (c_X11_lays G ex n σ_1 (upd F 7 (nI (0))) g r1 f nv ns mk va sp lo mc z hc_2 hc_4 hc_5 hc_6 hc_7 hc_8 hc_9 hc_10 hc_11 (by omega) (by omega) hw (by omega) hF12 hF16 hmk hTI hlo) ?_
      rintro σ_45 ⟨f', nv', ns', mk', va', sp', lo', mc', z', hTI2, hCU2, hkp2, hmc2, hmk2, hlo2, hc_36, hc_37, hc_38, hc_39, hc_40, hc_41, hc_42, hc_43, hf_44⟩
      have hc_36 : σ_45 279 = o11 G (upd (upd (upd F 7 (nI (0))) 12 (nI (mc'))) 16 (nI (z'))) := hc_36
      have hc_46 : σ_45 280 = q_an G 265 g := (hf_44 _ (by omega)).trans hc_4
      refine A_aload_n hg dX11_span_29 rfl rfl ?_
      refine A_getf (v := .ref (q_h G + 290)) hg fl_RX11_41 dX11_span_30 hc_36 (by omega) rfl ?_
      refine A_sipush (v := (nI (1681))) hg dX11_span_33 (by decide) ?_
      refine A_iload_n hg dX11_span_36 rfl rfl ?_
      refine A_imulN hg dX11_span_37 ?_
      refine A_bipush (v := (nI (41))) hg dX11_span_38 (by decide) ?_
      refine A_iload_n hg dX11_span_40 rfl rfl ?_
      refine A_imulN hg dX11_span_41 ?_
      refine A_iaddN hg dX11_span_42 ?_
      refine A_iload_n hg dX11_span_43 rfl rfl ?_
      refine A_iaddN hg dX11_span_44 ?_
      refine A_iald (j := (((1681 * r1) + (41 * a1)) + b1)) hg dX11_span_45 hc_42 (by omega) (by omega) (by decide) ?_
      rw [hQ]
      exact A_ireturn hg (by decide) (by decide) rfl dX11_span_46 ⟨rfl, Or.inr (Or.inr ((⟨r1, a1, b1, f', nv', ns', mk', va', sp', lo', mc', z', (by rw [show 1681 * r1 + 41 * a1 + b1 = 1681 * r1 + (41 * a1 + b1) by omega, (hCU2 _ (by omega)).2]), (by first | rfl | assumption | omega), (by first | rfl | assumption | omega), (by first | rfl | assumption | omega), (by first | rfl | assumption | omega), (by first | rfl | assumption | omega), (by first | rfl | assumption | omega), hTI2, (by omega), hmk2, hlo2, hc_36, hc_37, hc_38, hc_39, hc_40, hc_41, hc_42, hc_43, (fun i hi => ((hf_44 i (by omega)).trans (hf_3 i (by omega))))⟩)))⟩
end
