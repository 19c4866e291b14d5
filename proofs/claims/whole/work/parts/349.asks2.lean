section
def s_ptn (u : Nat → Nat) (a : Nat) : Nat := s_first (fun y => s_V u (41 * a + y) == 0) 41
def s_pta (u : Nat → Nat) (a : Nat) : Bool := s_any (fun y => s_V u (41 * a + y) == 0) 41
theorem s_pta_t {u : Nat → Nat} {a y : Nat} (hy : y < 41) (h : s_V u (41 * a + y) = 0) : s_pta u a = true := by
  unfold s_pta
  exact s_any_t (k := y) hy (beq_iff_eq.mpr h)
theorem s_pta_f {u : Nat → Nat} {a : Nat} (h : ∀ y : Nat, y < 41 → ¬ s_V u (41 * a + y) = 0) : s_pta u a = false := by
  unfold s_pta
  exact s_any_f (fun j hj => beq_eq_false_iff_ne.mpr (h j hj))
theorem s_ptn_eq {u : Nat → Nat} {a y : Nat} (hy : y < 41) (h : s_V u (41 * a + y) = 0) (hno : ∀ j : Nat, j < y → ¬ s_V u (41 * a + j) = 0) : s_ptn u a = y := by
  unfold s_ptn
  exact s_first_eq hy (beq_iff_eq.mpr h) (fun j hj => beq_eq_false_iff_ne.mpr (hno j hj))
def s_lzc (u : Nat → Nat) (p : Nat) : Nat := s_cnt (fun q => s_V u q == 0) p
def s_lzn (u : Nat → Nat) (i : Nat) : Nat := s_nth (fun q => s_V u q == 0) 1681 i
theorem s_lzc_0 (u : Nat → Nat) : s_lzc u 0 = 0 := by unfold s_lzc; rfl
theorem s_lzc_t {u : Nat → Nat} {p : Nat} (h : s_V u p = 0) : s_lzc u (p + 1) = s_lzc u p + 1 := by
  unfold s_lzc; exact s_cnt_t (beq_iff_eq.mpr h)
theorem s_lzc_f {u : Nat → Nat} {p : Nat} (h : ¬ s_V u p = 0) : s_lzc u (p + 1) = s_lzc u p := by
  unfold s_lzc; exact s_cnt_f (beq_eq_false_iff_ne.mpr h)
theorem s_lzc_le (u : Nat → Nat) (p : Nat) : s_lzc u p ≤ p := by
  unfold s_lzc; exact s_cnt_le _ _
theorem s_lzc_lt {u : Nat → Nat} {p : Nat} (hp : p < 1681) (h : s_V u p = 0) : s_lzc u p < s_lzc u 1681 := by
  unfold s_lzc; exact s_cnt_lt hp (beq_iff_eq.mpr h)
theorem s_lzn_eq {u : Nat → Nat} {p : Nat} (hp : p < 1681) (h : s_V u p = 0) : s_lzn u (s_lzc u p) = p := by
  unfold s_lzn s_lzc; exact s_nth_eq hp (beq_iff_eq.mpr h) rfl
def s_chP (u : Nat → Nat) (a b q : Nat) : Bool := !((s_V u q == 0) == (s_val (s_A2 u a b) q == 0))
def s_chc (u : Nat → Nat) (a b p : Nat) : Nat := s_cnt (s_chP u a b) p
theorem s_chc_0 (u : Nat → Nat) (a b : Nat) : s_chc u a b 0 = 0 := by unfold s_chc; rfl
theorem s_chc_le (u : Nat → Nat) (a b p : Nat) : s_chc u a b p ≤ p := by
  unfold s_chc; exact s_cnt_le _ _
theorem s_chc_t1 {u : Nat → Nat} {a b p : Nat} (h : s_V u p = 0) (h2 : ¬ s_val (s_A2 u a b) p = 0) : s_chc u a b (p + 1) = s_chc u a b p + 1 := by
  unfold s_chc; exact s_cnt_t (by unfold s_chP; rw [beq_iff_eq.mpr h, beq_eq_false_iff_ne.mpr h2]; rfl)
theorem s_chc_t2 {u : Nat → Nat} {a b p : Nat} (h : ¬ s_V u p = 0) (h2 : s_val (s_A2 u a b) p = 0) : s_chc u a b (p + 1) = s_chc u a b p + 1 := by
  unfold s_chc; exact s_cnt_t (by unfold s_chP; rw [beq_iff_eq.mpr h2, beq_eq_false_iff_ne.mpr h]; rfl)
theorem s_chc_f1 {u : Nat → Nat} {a b p : Nat} (h : s_V u p = 0) (h2 : s_val (s_A2 u a b) p = 0) : s_chc u a b (p + 1) = s_chc u a b p := by
  unfold s_chc; exact s_cnt_f (by unfold s_chP; rw [beq_iff_eq.mpr h, beq_iff_eq.mpr h2]; rfl)
theorem s_chc_f2 {u : Nat → Nat} {a b p : Nat} (h : ¬ s_V u p = 0) (h2 : ¬ s_val (s_A2 u a b) p = 0) : s_chc u a b (p + 1) = s_chc u a b p := by
  unfold s_chc; exact s_cnt_f (by unfold s_chP; rw [beq_eq_false_iff_ne.mpr h, beq_eq_false_iff_ne.mpr h2]; rfl)
end
section
theorem q_lzend {C : Nat → Nat} {x lf : Int32} {p : Nat} (h1 : C 1681 ≤ 1681) (hp : p ≤ 1681) (hc : ¬ p < 1681 ∨ lf < 0)
  (hA : (x < 0 ∧ lf = x) ∨ ∃ i : Nat, i < 2 ^ 31 ∧ x = nI i ∧ C p ≤ i ∧ lf = nI (i - C p)) : ∀ j : Nat, j < C 1681 → x = nI j → False := by
  rcases hA with ⟨hx0, hlf⟩ | ⟨i, hi, hxe, hci, hlf⟩
  · intro j hj e
    exact nI_pos (by omega) (e ▸ hx0)
  · rcases hc with hc | hc
    · intro j hj e
      have h2 := q_nI_inj hi (by omega) (hxe.symm.trans e)
      rw [show p = 1681 by omega] at hci
      omega
    · rw [hlf] at hc
      exact absurd hc (nI_pos (by omega))
end
section
theorem q_lzn1 {u : Nat → Nat} {p i : Nat} (hp : p < 1681) (h : s_V u p = 0) (h1 : s_lzc u p ≤ i) (h2 : i - s_lzc u p = 0) : s_lzn u i = p := by
  have e : i = s_lzc u p := Nat.le_antisymm (Nat.le_of_sub_eq_zero h2) h1
  exact (congrArg (s_lzn u) e).trans (s_lzn_eq hp h)
theorem q_lzn2 {u : Nat → Nat} {p i : Nat} (hp : p < 1681) (h : s_V u p = 0) (h1 : s_lzc u p ≤ i) (h2 : i - s_lzc u p = 0) : i < s_lzc u 1681 := by
  have e : i = s_lzc u p := Nat.le_antisymm (Nat.le_of_sub_eq_zero h2) h1
  exact Nat.lt_of_le_of_lt (Nat.le_of_eq e) (s_lzc_lt hp h)
theorem q_lznv {u : Nat → Nat} {p i v : Nat} {s : Bool} (hs : s = true ∧ v = p % 41 ∨ s = false ∧ v = p / 41) (h : s_lzn u i = p) : some (Value.int (nI v)) = some (Value.int (nI (if s = true then s_lzn u i % 41 else s_lzn u i / 41))) := by
  rcases hs with ⟨h1, h2⟩ | ⟨h1, h2⟩
  · exact congrArg (fun z => some (Value.int (nI z))) (h2.trans (by rw [if_pos h1, h]))
  · exact congrArg (fun z => some (Value.int (nI z))) (h2.trans (by rw [if_neg (by rw [h1]; decide), h]))
end
