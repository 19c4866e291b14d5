section
def rd_inv (g : Nat → Nat) : Prop := s_gwf g ∧ (∀ i : Nat, g i < 2 ^ 31) ∧ ∀ i : Nat, 17 + 29 * g 0 ≤ i → i < 133 → g i = 0
variable {f : Nat → Nat} {m : Nat}
theorem s_pnk_i (f g : Nat → Nat) (t r len k i : Nat) : s_pnk f g t r len k i = if i = 17 + 29 * r then len else if 17 + 29 * r + 1 ≤ i ∧ i < 17 + 29 * r + 1 + k then f (t + (i - (17 + 29 * r + 1))) - 97 + 1 else g i := rfl
theorem rd_new_out {g : Nat → Nat} {t i : Nat} (h : i < 17 + 29 * g 0 ∨ 17 + 29 * g 0 + 29 ≤ i) (hn : tk_be f m t - t ≤ 8) : rd_new f m g t i = g i := by
  unfold rd_new s_pnm va_up
  rw [if_neg (by omega), if_neg (by omega), s_pnk_i, if_neg (by omega), if_neg (by omega)]
theorem rd_new_at {g : Nat → Nat} {t j : Nat} (hz : ∀ i : Nat, 17 + 29 * g 0 ≤ i → i < 133 → g i = 0) (h4 : g 0 < 4) (hj : j < 29) (h9 : 9 ≤ j) (hn : tk_be f m t - t ≤ 8) : rd_new f m g t (17 + 29 * g 0 + j) = if j = 19 then 40 else if j = 18 then 1 else 0 := by
  unfold rd_new s_pnm va_up
  by_cases e1 : j = 19
  · rw [if_pos (by omega), if_pos e1]
  · rw [if_neg (by omega), if_neg e1]
    by_cases e2 : j = 18
    · rw [if_pos (by omega), if_pos e2]
    · rw [if_neg (by omega), if_neg e2, s_pnk_i, if_neg (by omega), if_neg (by omega)]
      exact hz _ (by omega) (by omega)
theorem rd_new_0 {g : Nat → Nat} {t : Nat} : rd_new f m g t (17 + 29 * g 0) = tk_be f m t - t := by
  unfold rd_new s_pnm va_up
  rw [if_neg (by omega), if_neg (by omega), s_pnk_i, if_pos rfl]
theorem rd_new_ok {g : Nat → Nat} {t : Nat} (hi : rd_inv g) (h4 : g 0 < 4) (hnm : tk_nm f m t = true) : rw_ok (g 0) (rd_new f m g t) ∧ rw_sm (g 0) g (rd_new f m g t) := by
  obtain ⟨-, hv, hz⟩ := hi
  obtain ⟨hk, hn⟩ := of_decide_eq_true hnm
  have at_ := fun j hj h9 => rd_new_at (f := f) (m := m) (t := t) (j := j) hz h4 hj h9 hn
  refine ⟨⟨⟨?_, ?_, ?_, ?_, ?_, ?_, ?_⟩, ?_⟩, ?_⟩
  · show rd_new f m g t (17 + 29 * g 0 + 0) ≤ 8
    rw [Nat.add_zero, rd_new_0]; exact hn
  · show rd_new f m g t (17 + 29 * g 0 + 9) ≤ 8
    rw [at_ 9 (by decide) (by decide)]; decide
  · show rd_new f m g t (17 + 29 * g 0 + 18) ≤ 5
    rw [at_ 18 (by decide) (by decide)]; decide
  · show rd_new f m g t (17 + 29 * g 0 + 19) ≤ 40
    rw [at_ 19 (by decide) (by decide)]; decide
  · show rd_new f m g t (17 + 29 * g 0 + 20) ≤ 4
    rw [at_ 20 (by decide) (by decide)]; decide
  · intro i hi
    show rd_new f m g t (17 + 29 * g 0 + (10 + i)) ≤ 40
    rw [at_ (10 + i) (by omega) (by omega)]
    repeat' split
    all_goals decide
  · intro i hi
    show rd_new f m g t (17 + 29 * g 0 + (21 + i)) ≤ 40
    rw [at_ (21 + i) (by omega) (by omega)]
    repeat' split
    all_goals decide
  · intro i
    unfold rd_new
    refine va_up_lt (va_up_lt ?_ (by decide)) (by decide) i
    intro i
    unfold s_pnm s_pnk
    split
    · omega
    · split
      · rename_i h1 h2
        have := tk_let_k2 hk (i - (17 + 29 * g 0 + 1)) (by omega)
        omega
      · exact hv i
  · intro i hi
    exact rd_new_out hi hn
theorem s_rule_sm {r q j : Nat} {g g' : Nat → Nat} (h : rw_sm r g g') (hq : q ≠ r) (hj : j < 29) : s_rule g' q j = s_rule g q j := h _ (by omega)
/-- a rule more -/
theorem rd_inv_rule {g g' : Nat → Nat} (hi : rd_inv g) (h4 : g 0 < 4) (hok : rw_ok (g 0) g') (hs : rw_sm (g 0) g g') : rd_inv (va_up g' 0 (g' 0 + 1)) := by
  obtain ⟨⟨a0, a1, a2, a3, a6, ar, ab, as⟩, hv, hz⟩ := hi
  have e0 : g' 0 = g 0 := rw_sm_g0 hs
  have lo : ∀ i : Nat, i < 17 → i ≠ 0 → va_up g' 0 (g' 0 + 1) i = g i := fun i h1 h2 => by
    unfold va_up; rw [if_neg h2]; exact hs i (Or.inl (by omega))
  have hi_ : ∀ i : Nat, 133 ≤ i → va_up g' 0 (g' 0 + 1) i = g i := fun i h1 => by
    unfold va_up; rw [if_neg (by omega)]; exact hs i (Or.inr (by omega))
  have z0 : va_up g' 0 (g' 0 + 1) 0 = g 0 + 1 := by unfold va_up; rw [if_pos rfl, e0]
  refine ⟨⟨?_, ?_, ?_, ?_, ?_, ?_, ?_, ?_⟩, ?_, ?_⟩
  · rw [z0]; omega
  · rw [lo 1 (by decide) (by decide)]; exact a1
  · rw [lo 2 (by decide) (by decide)]; exact a2
  · rw [lo 3 (by decide) (by decide)]; exact a3
  · rw [lo 6 (by decide) (by decide)]; exact a6
  · intro q hq
    rw [z0] at hq
    have e : ∀ j : Nat, s_rule (va_up g' 0 (g' 0 + 1)) q j = s_rule g' q j := fun j => by
      show va_up g' 0 (g' 0 + 1) (17 + 29 * q + j) = _
      unfold va_up; rw [if_neg (by omega)]; rfl
    by_cases hqr : q = g 0
    · rw [hqr] at e ⊢
      exact s_rwf_congr (fun j _ => e j) hok.1
    · exact s_rwf_congr (fun j hj => (e j).trans (s_rule_sm hs hqr hj)) (ar q (by omega))
  · intro b hb
    rw [lo 1 (by decide) (by decide)] at hb
    have h := ab b hb
    rw [z0, hi_ _ (by omega), hi_ _ (by omega), hi_ _ (by omega), hi_ _ (by omega), hi_ _ (by omega)]
    omega
  · intro s hs2
    rw [lo 2 (by decide) (by decide)] at hs2
    have h := as s hs2
    rw [hi_ _ (by omega), hi_ _ (by omega), hi_ _ (by omega)]
    exact h
  · exact va_up_lt hok.2 (by omega)
  · intro i h1 h2
    rw [z0] at h1
    unfold va_up; rw [if_neg (by omega), hs i (Or.inr (by omega))]
    exact hz i (by omega) h2
theorem rd_inv_board {g : Nat → Nat} {r x y : Nat} (hi : rd_inv g) (h1 : g 1 < 4) (hr : r < g 0) (hx : x ≤ 40) (hy : y ≤ 40) : rd_inv (s_addB g r x y) := by
  obtain ⟨⟨a0, a1, a2, a3, a6, ar, ab, as⟩, hv, hz⟩ := hi
  have out : ∀ i : Nat, i ≠ 1 → (i < 133 + 5 * g 1 ∨ 133 + 5 * g 1 + 5 ≤ i) → s_addB g r x y i = g i := fun i h h2 => by
    unfold s_addB va_up
    rw [if_neg h, if_neg (by omega), if_neg (by omega), if_neg (by omega), if_neg (by omega), if_neg (by omega)]
  have z1 : s_addB g r x y 1 = g 1 + 1 := by unfold s_addB; unfold va_up; rw [if_pos rfl]
  have zb : ∀ k : Nat, k < 5 → s_addB g r x y (133 + 5 * g 1 + k) = if k = 4 then y else if k = 3 then x else if k = 2 then y else if k = 1 then x else r := fun k hk => by
    unfold s_addB va_up
    rw [if_neg (by omega)]
    rcases (show k = 0 ∨ k = 1 ∨ k = 2 ∨ k = 3 ∨ k = 4 by omega) with rfl | rfl | rfl | rfl | rfl
    · rw [if_neg (by omega), if_neg (by omega), if_neg (by omega), if_neg (by omega), if_pos rfl]; rfl
    · rw [if_neg (by omega), if_neg (by omega), if_neg (by omega), if_pos rfl]; rfl
    · rw [if_neg (by omega), if_neg (by omega), if_pos rfl]; rfl
    · rw [if_neg (by omega), if_pos rfl]; rfl
    · rw [if_pos rfl]; rfl
  refine ⟨⟨?_, ?_, ?_, ?_, ?_, ?_, ?_, ?_⟩, ?_, ?_⟩
  · rw [out 0 (by decide) (by omega)]; exact a0
  · rw [z1]; omega
  · rw [out 2 (by decide) (by omega)]; exact a2
  · rw [out 3 (by decide) (by omega)]; exact a3
  · rw [out 6 (by decide) (by omega)]; exact a6
  · intro q hq
    rw [out 0 (by decide) (by omega)] at hq
    exact s_rwf_congr (fun j hj => out _ (by omega) (by omega)) (ar q hq)
  · intro b hb
    rw [z1] at hb
    rw [out 0 (by decide) (by omega)]
    by_cases e : b = g 1
    · rw [e, zb 0 (by decide), zb 1 (by decide), zb 2 (by decide), zb 3 (by decide), zb 4 (by decide)]
      exact ⟨hr, hx, hy, hx, hy⟩
    · have h := ab b (by omega)
      rw [out _ (by omega) (by omega), out _ (by omega) (by omega), out _ (by omega) (by omega), out _ (by omega) (by omega), out _ (by omega) (by omega)]
      exact h
  · intro s hs2
    rw [out 2 (by decide) (by omega)] at hs2
    have h := as s hs2
    rw [out _ (by omega) (by omega), out _ (by omega) (by omega), out _ (by omega) (by omega)]
    exact h
  · unfold s_addB
    exact va_up_lt (va_up_lt (va_up_lt (va_up_lt (va_up_lt (va_up_lt hv (by omega)) (by omega)) (by omega)) (by omega)) (by omega)) (by omega)
  · intro i h1 h2
    rw [out 0 (by decide) (by omega)] at h1
    rw [out i (by omega) (by omega)]
    exact hz i h1 h2
theorem rd_inv_stick {g : Nat → Nat} {x y : Nat} (hi : rd_inv g) (h1 : g 2 < 4) (hx : x ≤ 60) (hy : 1 ≤ y ∧ y ≤ 9) : rd_inv (s_addS g x y) := by
  obtain ⟨⟨a0, a1, a2, a3, a6, ar, ab, as⟩, hv, hz⟩ := hi
  have out : ∀ i : Nat, i ≠ 2 → (i < 153 + 3 * g 2 ∨ 153 + 3 * g 2 + 3 ≤ i) → s_addS g x y i = g i := fun i h h2 => by
    unfold s_addS va_up
    rw [if_neg h, if_neg (by omega), if_neg (by omega), if_neg (by omega)]
  have z1 : s_addS g x y 2 = g 2 + 1 := by unfold s_addS; unfold va_up; rw [if_pos rfl]
  have zb : ∀ k : Nat, k < 3 → s_addS g x y (153 + 3 * g 2 + k) = if k = 2 then x else if k = 1 then y else x := fun k hk => by
    unfold s_addS va_up
    rw [if_neg (by omega)]
    rcases (show k = 0 ∨ k = 1 ∨ k = 2 by omega) with rfl | rfl | rfl
    · rw [if_neg (by omega), if_neg (by omega), if_pos rfl]; rfl
    · rw [if_neg (by omega), if_pos rfl]; rfl
    · rw [if_pos rfl]; rfl
  refine ⟨⟨?_, ?_, ?_, ?_, ?_, ?_, ?_, ?_⟩, ?_, ?_⟩
  · rw [out 0 (by decide) (by omega)]; exact a0
  · rw [out 1 (by decide) (by omega)]; exact a1
  · rw [z1]; omega
  · rw [out 3 (by decide) (by omega)]; exact a3
  · rw [out 6 (by decide) (by omega)]; exact a6
  · intro q hq
    rw [out 0 (by decide) (by omega)] at hq
    exact s_rwf_congr (fun j hj => out _ (by omega) (by omega)) (ar q hq)
  · intro b hb
    rw [out 1 (by decide) (by omega)] at hb
    rw [out 0 (by decide) (by omega)]
    have h := ab b hb
    rw [out _ (by omega) (by omega), out _ (by omega) (by omega), out _ (by omega) (by omega), out _ (by omega) (by omega), out _ (by omega) (by omega)]
    exact h
  · intro s hs2
    rw [z1] at hs2
    by_cases e : s = g 2
    · rw [e, zb 0 (by decide), zb 1 (by decide), zb 2 (by decide)]
      exact ⟨hx, hy, hx⟩
    · have h := as s (by omega)
      rw [out _ (by omega) (by omega), out _ (by omega) (by omega), out _ (by omega) (by omega)]
      exact h
  · unfold s_addS
    exact va_up_lt (va_up_lt (va_up_lt (va_up_lt hv (by omega)) (by omega)) (by omega)) (by omega)
  · intro i h1 h2
    rw [out 0 (by decide) (by omega)] at h1
    rw [out i (by omega) (by omega)]
    exact hz i h1 h2
theorem rd_inv_first {g : Nat → Nat} {x : Nat} (hi : rd_inv g) (hx : x ≤ 1) : rd_inv (va_up g 3 x) := by
  obtain ⟨⟨a0, a1, a2, a3, a6, ar, ab, as⟩, hv, hz⟩ := hi
  have out : ∀ i : Nat, i ≠ 3 → va_up g 3 x i = g i := fun i h => by unfold va_up; rw [if_neg h]
  refine ⟨⟨?_, ?_, ?_, ?_, ?_, ?_, ?_, ?_⟩, ?_, ?_⟩
  · rw [out 0 (by decide)]; exact a0
  · rw [out 1 (by decide)]; exact a1
  · rw [out 2 (by decide)]; exact a2
  · unfold va_up; rw [if_pos rfl]; exact hx
  · rw [out 6 (by decide)]; exact a6
  · intro q hq
    rw [out 0 (by decide)] at hq
    exact s_rwf_congr (fun j hj => out _ (by omega)) (ar q hq)
  · intro b hb
    rw [out 1 (by decide)] at hb
    rw [out 0 (by decide), out _ (by omega), out _ (by omega), out _ (by omega), out _ (by omega), out _ (by omega)]
    exact ab b hb
  · intro s hs2
    rw [out 2 (by decide)] at hs2
    rw [out _ (by omega), out _ (by omega), out _ (by omega)]
    exact as s hs2
  · exact va_up_lt hv (by omega)
  · intro i h1 h2
    rw [out 0 (by decide)] at h1
    rw [out i (by omega)]
    exact hz i h1 h2
end
section
theorem q_nM {x : Nat} (h : x < 2 ^ 31) : ¬ nI x = q_d 0 := fun e => by
  have h1 := congrArg Int32.toInt e
  rw [nI_toInt h] at h1
  have h2 : (q_d 0).toInt = -1 := by decide
  omega
theorem q_MN {x : Nat} (h : x < 2 ^ 31) : ¬ q_d 0 = nI x := fun e => q_nM h e.symm
variable {f : Nat → Nat} {m : Nat}
theorem rd_r_go {g : Nat → Nat} {t t2 t3 : Nat} (h4 : ¬ g 0 = 4) (h2 : t2 = tk_nx f m t) (hn : tk_nm f m t2 = true) (hh : ¬ s_nmi f m g t2 < g 0) (h3 : t3 = tk_nx f m t2) : rd_r f m g t = rd_r2 f m (g 0) (rd_new f m g t2) t3 := by
  unfold rd_r; rw [if_neg h4, ← h2, if_pos hn, if_neg hh, ← h3]
theorem rd_d_go {g : Nat → Nat} {t t2 t3 : Nat} (h4 : ¬ g 1 = 4) (h2 : t2 = tk_nx f m t) (hn : tk_nm f m t2 = true) (hh : s_nmi f m g t2 < g 0) (h3 : t3 = tk_nx f m t2) : rd_d f m g t = rd_2 f m 0 40 0 40 (fun x y => s_addB g (s_nmi f m g t2) x y) t3 := by
  unfold rd_d; rw [if_neg h4, ← h2, if_pos hn, if_pos hh, ← h3]
theorem rd_2_1 {a b c d : Nat} {k : Nat → Nat → (Nat → Nat)} {t : Nat} (h : ¬ tk_nc f m t a b = 0) : rd_2 f m a b c d k t = .inl (tk_nc f m t a b, t) := by
  unfold rd_2; rw [if_neg h]
theorem rd_2_2 {a b c d : Nat} {k : Nat → Nat → (Nat → Nat)} {t t2 : Nat} (h : tk_nc f m t a b = 0) (h2 : t2 = tk_nx f m t) (h3 : ¬ tk_nc f m t2 c d = 0) : rd_2 f m a b c d k t = .inl (tk_nc f m t2 c d, t2) := by
  unfold rd_2; rw [if_pos h, ← h2, if_neg h3]
theorem rd_2_ok {a b c d : Nat} {k : Nat → Nat → (Nat → Nat)} {t t2 t3 : Nat} (h : tk_nc f m t a b = 0) (h2 : t2 = tk_nx f m t) (h3 : tk_nc f m t2 c d = 0) (h4 : t3 = tk_nx f m t2) : rd_2 f m a b c d k t = .inr (k (tk_vl f m t) (tk_vl f m t2), t3) := by
  unfold rd_2; rw [if_pos h, ← h2, if_pos h3, ← h4]
end
section
variable {f : Nat → Nat} {m : Nat}
theorem tk_wd_not {t : Nat} {bs cs : List Nat} (h : tk_wd f m t bs = true) (hne : bs.length ≠ cs.length ∨ (0 < bs.length ∧ 0 < cs.length ∧ bs.getD 0 0 ≠ cs.getD 0 0)) : tk_wd f m t cs = false := by
  obtain ⟨h1, h2, h3⟩ := of_decide_eq_true h
  refine decide_eq_false (fun z => ?_)
  obtain ⟨z1, z2, z3⟩ := z
  rcases hne with q | ⟨q1, q2, q3⟩
  · exact q (h2.symm.trans z2)
  · exact q3 ((h3 0 q1).symm.trans (z3 0 q2))
theorem rd_u_n {u t : Nat} {bs : List Nat} (h : tk_wd f m t bs = true) (hne : bs.length ≠ [102, 105, 114, 115, 116].length ∨ (0 < bs.length ∧ 0 < [102, 105, 114, 115, 116].length ∧ bs.getD 0 0 ≠ [102, 105, 114, 115, 116].getD 0 0)) : rd_u f m u t = u := by
  unfold rd_u
  rw [if_neg (by rw [tk_wd_not h hne]; decide)]
theorem rd_t_n {n u : Nat} {g : Nat → Nat} {t : Nat} (h : tk_kd f m t = 0) : rd_t f m (n + 1) u g t = if 0 < g 0 then .inr (g, t) else .inl (1, t) := by
  exact if_pos h
theorem rd_t_s {n u : Nat} {g : Nat → Nat} {t : Nat} (h : ¬ tk_kd f m t = 0) : rd_t f m (n + 1) u g t = rd_bd (rd_m f m u g t) fun g2 t2 => if tk_kd f m t2 = 3 then rd_t f m n (rd_u f m u t) g2 (tk_nx f m t2) else .inl (1, t2) := by
  exact if_neg h
theorem tk_be_3 {t : Nat} (h : tk_kd f m t = 3) : tk_be f m t = t + 1 := by
  unfold tk_be; rw [if_neg (by omega), if_neg (by omega), if_neg (by omega)]
theorem tk_kd_m {t : Nat} (h : ¬ tk_kd f m t = 0) : t < m := by
  by_cases e : s_byte f m t = 0
  · exact absurd (tk_k0 e).1 h
  · exact (tk_b1 e).1
theorem rd_r_inv {g g' : Nat → Nat} {t t' : Nat} (hi : rd_inv g) (hR : rd_r f m g t = .inr (g', t')) : rd_inv g' := by
  have h04 := hi.1.1
  unfold rd_r at hR
  by_cases h1 : g 0 = 4
  · rw [if_pos h1] at hR; cases hR
  · rw [if_neg h1] at hR
    by_cases h2 : tk_nm f m (tk_nx f m t) = true
    · rw [if_pos h2] at hR
      by_cases h3 : s_nmi f m g (tk_nx f m t) < g 0
      · rw [if_pos h3] at hR; cases hR
      · rw [if_neg h3] at hR
        unfold rd_r2 at hR
        obtain ⟨k1, k2⟩ := rd_new_ok hi (by omega) h2
        obtain ⟨g4, t4, e4, hR⟩ := rd_bd_inr hR
        have w4 := rd_o_wf k1 e4
        obtain ⟨g5, t5, e5, hR⟩ := rd_bd_inr hR
        have w5 := rd_w_wf w4.1 (by omega) e5
        obtain ⟨g6, t6, e6, hR⟩ := rd_bd_inr hR
        have w6 := rd_w_wf w5.1 (by omega) e6
        obtain ⟨g7, t7, e7, hR⟩ := rd_bd_inr hR
        have w7 := rd_bL_wf 5 w6.1 e7
        cases hR
        exact rd_inv_rule hi (by omega) w7.1 (rw_sm_trans (rw_sm_trans (rw_sm_trans (rw_sm_trans k2 w4.2) w5.2) w6.2) w7.2)
    · rw [if_neg h2] at hR; cases hR
theorem rd_2_inr {a b c d : Nat} {k : Nat → Nat → (Nat → Nat)} {t t' : Nat} {g' : Nat → Nat} (hR : rd_2 f m a b c d k t = .inr (g', t')) : ∃ x y : Nat, (a ≤ x ∧ x ≤ b) ∧ (c ≤ y ∧ y ≤ d) ∧ g' = k x y := by
  unfold rd_2 at hR
  by_cases h1 : tk_nc f m t a b = 0
  · rw [if_pos h1] at hR
    by_cases h2 : tk_nc f m (tk_nx f m t) c d = 0
    · rw [if_pos h2] at hR; cases hR
      exact ⟨_, _, tk_nc_v h1, tk_nc_v h2, rfl⟩
    · rw [if_neg h2] at hR; cases hR
  · rw [if_neg h1] at hR; cases hR
theorem rd_d_inv {g g' : Nat → Nat} {t t' : Nat} (hi : rd_inv g) (hR : rd_d f m g t = .inr (g', t')) : rd_inv g' := by
  have h1 := hi.1.2.1
  unfold rd_d at hR
  by_cases h4 : g 1 = 4
  · rw [if_pos h4] at hR; cases hR
  · rw [if_neg h4] at hR
    by_cases h2 : tk_nm f m (tk_nx f m t) = true
    · rw [if_pos h2] at hR
      by_cases h3 : s_nmi f m g (tk_nx f m t) < g 0
      · rw [if_pos h3] at hR
        obtain ⟨x, y, hx, hy, rfl⟩ := rd_2_inr hR
        exact rd_inv_board hi (by omega) h3 hx.2 hy.2
      · rw [if_neg h3] at hR; cases hR
    · rw [if_neg h2] at hR; cases hR
theorem rd_s_inv {g g' : Nat → Nat} {t t' : Nat} (hi : rd_inv g) (hR : rd_s f m g t = .inr (g', t')) : rd_inv g' := by
  have h1 := hi.1.2.2.1
  unfold rd_s at hR
  by_cases h4 : g 2 = 4
  · rw [if_pos h4] at hR; cases hR
  · rw [if_neg h4] at hR
    obtain ⟨x, y, hx, hy, rfl⟩ := rd_2_inr hR
    exact rd_inv_stick hi (by omega) hx.2 hy
theorem rd_f_inv {g g' : Nat → Nat} {u t t' : Nat} (hi : rd_inv g) (hR : rd_f f m u g t = .inr (g', t')) : rd_inv g' := by
  unfold rd_f at hR
  by_cases h4 : u = 1
  · rw [if_pos h4] at hR; cases hR
  · rw [if_neg h4] at hR
    by_cases h2 : tk_nc f m (tk_nx f m t) 0 1 = 0
    · rw [if_pos h2] at hR; cases hR
      exact rd_inv_first hi (tk_nc_v h2).2
    · rw [if_neg h2] at hR; cases hR
theorem rd_m_inv {g g' : Nat → Nat} {u t t' : Nat} (hi : rd_inv g) (hR : rd_m f m u g t = .inr (g', t')) : rd_inv g' := by
  unfold rd_m at hR
  split at hR
  · exact rd_r_inv hi hR
  · split at hR
    · exact rd_d_inv hi hR
    · split at hR
      · exact rd_s_inv hi hR
      · split at hR
        · exact rd_f_inv hi hR
        · cases hR
theorem rd_t_inv : ∀ (n : Nat) {g g' : Nat → Nat} {u t t' : Nat}, rd_inv g → rd_t f m n u g t = .inr (g', t') → rd_inv g'
  | 0, g, g', u, t, t', h, hR => by cases hR; exact h
  | n + 1, g, g', u, t, t', h, hR => by
    by_cases h1 : tk_kd f m t = 0
    · rw [rd_t_n h1] at hR
      split at hR
      · cases hR; exact h
      · cases hR
    · rw [rd_t_s h1] at hR
      obtain ⟨g2, t2, e1, e2⟩ := rd_bd_inr hR
      split at e2
      · exact rd_t_inv n (rd_m_inv h e1) e2
      · cases e2
theorem rd_inv_0 : rd_inv rd_g0 := by
  refine ⟨⟨?_, ?_, ?_, ?_, ?_, ?_, ?_, ?_⟩, ?_, ?_⟩
  · decide
  · decide
  · decide
  · decide
  · decide
  · intro r hr; exact absurd hr (Nat.not_lt_zero _)
  · intro r hr; exact absurd hr (Nat.not_lt_zero _)
  · intro r hr; exact absurd hr (Nat.not_lt_zero _)
  · intro i; unfold rd_g0; split <;> decide
  · intro i h1 h2; unfold rd_g0; rw [if_neg (by have e : rd_g0 0 = 0 := rfl; omega)]
theorem rd_all_inv {g' : Nat → Nat} {t' : Nat} (hR : rd_all f m = .inr (g', t')) : rd_inv g' := rd_t_inv (m + 1) rd_inv_0 hR
end
section
theorem rd_u_le {f : Nat → Nat} {m u t : Nat} (h : u ≤ 1) : rd_u f m u t ≤ 1 := by
  unfold rd_u
  split
  · exact Nat.le_refl _
  · exact h
end
