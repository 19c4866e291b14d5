section
/-- moves of p that lead to the value t - 1; all if t is 0 -/
def x_lt (A : Nat → Bool) (va : Nat → Nat) (p t q : Nat) : Bool := s_mv A p q && (decide (t = 0) || (va (p - q) + 1 == t))
theorem x_lt_gap {A : Nat → Bool} {va : Nat → Nat} {p t q : Nat} (h : s_mv A p q = false) : x_lt A va p t q = false := by unfold x_lt; rw [h, Bool.false_and]
theorem x_lt_mv {A : Nat → Bool} {va : Nat → Nat} {p t q : Nat} (h : s_mv A p q = true) : x_lt A va p t q = (decide (t = 0) || (va (p - q) + 1 == t)) := by unfold x_lt; rw [h, Bool.true_and]
theorem x_cnt_skip {P : Nat → Bool} {m : Nat} : ∀ m' : Nat, m ≤ m' → (∀ q : Nat, m ≤ q → q < m' → P q = false) → s_cnt P m' = s_cnt P m
  | 0, h, _ => by rw [show m = 0 by omega]
  | m' + 1, h, hno => by
    by_cases hm : m = m' + 1
    · rw [hm]
    · rw [s_cnt_f (hno m' (by omega) (by omega))]
      exact x_cnt_skip m' (by omega) (fun q h1 h2 => hno q h1 (by omega))
/-- places above p that a move leads from to p -/
def x_up (A : Nat → Bool) (va : Nat → Nat) (p m : Nat) : Nat → Nat := fun j => if p ≤ j ∧ j - p < m ∧ s_mv A j (j - p) = true then 1 else va j
theorem x_up_0 (A : Nat → Bool) (va : Nat → Nat) (p j : Nat) : va j = x_up A va p 0 j := by unfold x_up; rw [if_neg (by omega)]
theorem x_up_skip {A : Nat → Bool} {va : Nat → Nat} {p m m' : Nat} (j : Nat) (h : m ≤ m') (hj : j < 1681) (hno : ∀ q : Nat, m ≤ q → q < m' → q + p < 1681 → s_mv A (q + p) q = false) : x_up A va p m j = x_up A va p m' j := by
  unfold x_up
  by_cases e : p ≤ j ∧ j - p < m ∧ s_mv A j (j - p) = true
  · rw [if_pos e, if_pos ⟨e.1, by omega, e.2.2⟩]
  · rw [if_neg e, if_neg]
    rintro ⟨e1, e2, e3⟩
    refine e ⟨e1, ?_, e3⟩
    by_cases z : j - p < m
    · exact z
    · have := hno (j - p) (by omega) e2 (by omega)
      rw [show j - p + p = j by omega, e3] at this
      cases this
theorem x_up_mv {A : Nat → Bool} {x y q : Nat} (hx : x ≤ 40) (hy : y ≤ 40) (hq : q < 1681) (hA : A q = true) : s_mv A (q + (x * 41 + y)) q = decide (y + q % 41 ≤ 40) := by
  unfold s_mv
  rw [hA, Bool.and_true]
  by_cases h : y + q % 41 ≤ 40
  · rw [decide_eq_true h]; exact decide_eq_true ⟨by omega, by omega⟩
  · rw [decide_eq_false h]; exact decide_eq_false (by omega)
theorem x_up_t {A : Nat → Bool} {va : Nat → Nat} {x y q : Nat} (hx : x ≤ 40) (hy : y ≤ 40) (hq : q < 1681) (hA : A q = true) (h : y + q % 41 ≤ 40) (j : Nat) : va_up (x_up A va (x * 41 + y) q) ((x + q / 41) * 41 + y + q % 41) 1 j = x_up A va (x * 41 + y) (q + 1) j := by
  have e : (x + q / 41) * 41 + y + q % 41 = q + (x * 41 + y) := by omega
  have hm := x_up_mv hx hy hq hA
  rw [decide_eq_true h] at hm
  rw [e]
  unfold va_up x_up
  by_cases z : j = q + (x * 41 + y)
  · rw [if_pos z, if_pos]
    exact ⟨by omega, by omega, by rw [z, show q + (x * 41 + y) - (x * 41 + y) = q by omega]; exact hm⟩
  · rw [if_neg z]
    by_cases w : x * 41 + y ≤ j ∧ j - (x * 41 + y) < q ∧ s_mv A j (j - (x * 41 + y)) = true
    · rw [if_pos w, if_pos ⟨w.1, by omega, w.2.2⟩]
    · rw [if_neg w, if_neg]
      rintro ⟨a, b, c⟩
      exact w ⟨a, by omega, c⟩
/-- what is marked when all losing ones below p are found -/
def x_lw (A : Nat → Bool) (p : Nat) (va : Nat → Nat) : Prop := ∀ j : Nat, j < 1681 → va j ≤ 1 ∧ (va j = 1 ↔ ∃ q : Nat, s_mv A j q = true ∧ j - q < p ∧ s_val A (j - q) = 0)
theorem x_lw_0 (A : Nat → Bool) : x_lw A 0 (fun _ => 0) := fun j _ => ⟨Nat.zero_le _, ⟨fun h => absurd h (by show ¬ (0 : Nat) = 1; decide), fun ⟨q, _, h, _⟩ => absurd h (Nat.not_lt_zero _)⟩⟩
theorem x_lw_val {A : Nat → Bool} (h0 : A 0 = false) {p : Nat} {va : Nat → Nat} (h : x_lw A p va) {j : Nat} (hj : j ≤ p) (hj2 : j < 1681) : va j = 0 ↔ s_val A j = 0 := by
  obtain ⟨h1, h2⟩ := h j hj2
  constructor
  · intro z
    by_cases e : s_val A j = 0
    · exact e
    · obtain ⟨q, q1, q2, q3, q4⟩ := s_val_reach h0 hj2 (show 0 < s_val A j by omega)
      have := h2.mpr ⟨q, q1, by omega, q4⟩
      omega
  · intro z
    by_cases e : va j = 1
    · obtain ⟨q, q1, q2, q3⟩ := h2.mp e
      have := s_val_not h0 hj2 q1
      omega
    · omega
theorem x_lw_win {A : Nat → Bool} (h0 : A 0 = false) {p : Nat} {va : Nat → Nat} (hp : p < 1681) (h : x_lw A p va) (hz : ¬ va p = 0) : x_lw A (p + 1) va := by
  have hv := mt (x_lw_val h0 h (Nat.le_refl p) hp).mpr hz
  intro j hj
  obtain ⟨h1, h2⟩ := h j hj
  refine ⟨h1, h2.trans ⟨fun ⟨q, a, b, c⟩ => ⟨q, a, by omega, c⟩, fun ⟨q, a, b, c⟩ => ⟨q, a, ?_, c⟩⟩⟩
  by_cases e : j - q = p
  · rw [e] at c; exact absurd c hv
  · omega
theorem x_lw_lose {A : Nat → Bool} (h0 : A 0 = false) {p : Nat} {va : Nat → Nat} (hp : p < 1681) (h : x_lw A p va) (hz : va p = 0) : x_lw A (p + 1) (x_up A va p 1681) := by
  have hv := (x_lw_val h0 h (Nat.le_refl p) hp).mp hz
  intro j hj
  obtain ⟨h1, h2⟩ := h j hj
  unfold x_up
  by_cases e : p ≤ j ∧ j - p < 1681 ∧ s_mv A j (j - p) = true
  · rw [if_pos e]
    exact ⟨Nat.le_refl _, ⟨fun _ => ⟨j - p, e.2.2, by omega, by rw [show j - (j - p) = p by omega]; exact hv⟩, fun _ => rfl⟩⟩
  · rw [if_neg e]
    refine ⟨h1, h2.trans ⟨fun ⟨q, a, b, c⟩ => ⟨q, a, by omega, c⟩, fun ⟨q, a, b, c⟩ => ⟨q, a, ?_, c⟩⟩⟩
    have hq := s_mv_le a
    by_cases z : j - q = p
    · exact absurd ⟨by omega, by omega, by rw [show j - p = q by omega]; exact a⟩ e
    · omega
theorem x_lw_cnt {A : Nat → Bool} (h0 : A 0 = false) {va : Nat → Nat} (h : x_lw A 1681 va) : s_cnt (fun q => va q == 0) 1681 = s_cnt (fun q => s_val A q == 0) 1681 := s_cnt_congr (fun j hj => by
  have e := x_lw_val h0 h (show j ≤ 1681 by omega) hj
  show (va j == 0) = (s_val A j == 0)
  by_cases z : va j = 0
  · rw [beq_iff_eq.mpr z, beq_iff_eq.mpr (e.mp z)]
  · rw [beq_eq_false_iff_ne.mpr z, beq_eq_false_iff_ne.mpr (mt e.mpr z)])
theorem x_nxt_ne {P : Nat → Bool} {q : Nat} {a b : Bool} (h : P q = !(a == b)) : (a = b → s_cnt P (q + 1) = s_cnt P q) ∧ (a ≠ b → s_cnt P (q + 1) = s_cnt P q + 1) := by
  refine ⟨fun e => s_cnt_f ?_, fun e => s_cnt_t ?_⟩
  · rw [h, e]; simp
  · rw [h]; simpa using e
end
section
theorem x_beq_ne {a b : Nat} (h : (a = 0 ∧ ¬ b = 0) ∨ (¬ a = 0 ∧ b = 0)) : (a == 0) ≠ (b == 0) := by
  rcases h with ⟨h1, h2⟩ | ⟨h1, h2⟩
  · rw [beq_iff_eq.mpr h1, beq_eq_false_iff_ne.mpr h2]; decide
  · rw [beq_eq_false_iff_ne.mpr h1, beq_iff_eq.mpr h2]; decide
theorem x_beq_eq {a b : Nat} (h : (a = 0 ∧ b = 0) ∨ (¬ a = 0 ∧ ¬ b = 0)) : (a == 0) = (b == 0) := by
  rcases h with ⟨h1, h2⟩ | ⟨h1, h2⟩
  · rw [beq_iff_eq.mpr h1, beq_iff_eq.mpr h2]
  · rw [beq_eq_false_iff_ne.mpr h1, beq_eq_false_iff_ne.mpr h2]
end
