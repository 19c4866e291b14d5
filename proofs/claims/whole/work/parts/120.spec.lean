/-! WHAT THE GAME IS, in naturals: g are the cells of one game (the reference's layout), u those of one rule -/
section
def q_in (v a b : Int32) : Bool := decide (a ≤ v) && decide (v ≤ b)
theorem q_nlt {a b : Int32} : ¬ a < b ↔ b ≤ a := Int32.not_lt
theorem q_in_t {v a b : Int32} (h1 : ¬ v < a) (h2 : ¬ b < v) : q_in v a b = true := by simp [q_in, q_nlt.mp h1, q_nlt.mp h2]
theorem q_in_f1 {v a b : Int32} (h1 : v < a) : q_in v a b = false := by
  have : ¬ a ≤ v := fun h => absurd h1 (q_nlt.mpr h)
  simp [q_in, this]
theorem q_in_f2 {v a b : Int32} (h1 : b < v) : q_in v a b = false := by
  have : ¬ v ≤ b := fun h => absurd h1 (q_nlt.mpr h)
  simp [q_in, this]
/-- within: a natural -/
theorem q_in_nat {v : Int32} {a b : Nat} (hb : b < 2 ^ 31) (h : q_in v (nI a) (nI b) = true) (ha : a < 2 ^ 31) : ∃ j : Nat, v = nI j ∧ a ≤ j ∧ j ≤ b := by
  simp only [q_in, Bool.and_eq_true, decide_eq_true_eq] at h
  have h0 : ¬ v < 0 := q_nlt.mpr (Int32.le_trans (nI_pos' ha) h.1)
  obtain ⟨j, hj, rfl⟩ := nI_of h0
  exact ⟨j, rfl, (nI_leI ha hj).mp h.1, (nI_leI hj hb).mp h.2⟩
theorem q_in_not {v : Int32} {a b : Nat} (hb : b < 2 ^ 31) (h : q_in v (nI a) (nI b) = false) : ¬ ∃ j : Nat, v = nI j ∧ a ≤ j ∧ j ≤ b := by
  rintro ⟨j, rfl, h1, h2⟩
  have e1 : nI a ≤ nI j := (nI_leI (by omega) (by omega)).mpr h1
  have e2 : nI j ≤ nI b := (nI_leI (by omega) hb).mpr h2
  simp [q_in, e1, e2] at h
theorem q_rt {c : Bool} (h : c = true) : some (Value.int (nI 1)) = some (Value.int (q_b c)) := by rw [h]; rfl
theorem q_rf {c : Bool} (h : c = false) : some (Value.int (nI 0)) = some (Value.int (q_b c)) := by rw [h]; rfl
def s_first (p : Nat → Bool) : Nat → Nat
  | 0 => 0
  | n + 1 => if s_first p n < n then s_first p n else if p n then n else n + 1
theorem s_first_le (p : Nat → Bool) : ∀ n, s_first p n ≤ n
  | 0 => Nat.le_refl 0
  | n + 1 => by
    have ih := s_first_le p n
    unfold s_first
    split
    · omega
    · split <;> omega
theorem s_first_no (p : Nat → Bool) : ∀ n k, k < s_first p n → p k = false
  | 0, k, h => absurd h (Nat.not_lt_zero k)
  | n + 1, k, h => by
    have ih := s_first_no p n
    have ihl := s_first_le p n
    unfold s_first at h
    split at h
    · exact ih k h
    · next hn =>
      split at h
      · next hp => exact ih k (by omega)
      · next hp =>
        by_cases hk : k = n
        · subst hk; simpa using hp
        · exact ih k (by omega)
theorem s_first_yes (p : Nat → Bool) : ∀ n, s_first p n < n → p (s_first p n) = true
  | 0, h => absurd h (Nat.not_lt_zero _)
  | n + 1, h => by
    unfold s_first at h ⊢
    split
    · next hn => exact s_first_yes p n hn
    · next hn =>
      rw [if_neg hn] at h
      split
      · next hp => exact hp
      · next hp => rw [if_neg hp] at h; omega
theorem s_first_eq {p : Nat → Bool} {n k : Nat} (hk : k < n) (hp : p k = true) (hno : ∀ j, j < k → p j = false) : s_first p n = k := by
  have h1 := s_first_le p n
  rcases Nat.lt_trichotomy (s_first p n) k with h | h | h
  · have := s_first_yes p n (by omega)
    rw [hno _ h] at this; cases this
  · exact h
  · have := s_first_no p n k h
    rw [hp] at this; cases this
theorem s_first_none {p : Nat → Bool} {n : Nat} (hno : ∀ j, j < n → p j = false) : s_first p n = n := by
  have h1 := s_first_le p n
  rcases Nat.lt_or_ge (s_first p n) n with h | h
  · have := s_first_yes p n h
    rw [hno _ h] at this; cases this
  · omega
theorem s_first_congr {p q : Nat → Bool} {n : Nat} (h : ∀ j, j < n → p j = q j) : s_first p n = s_first q n := by
  induction n with
  | zero => rfl
  | succ n ih =>
    have ih := ih (fun j hj => h j (by omega))
    unfold s_first
    rw [ih, h n (by omega)]
def s_any (p : Nat → Bool) (n : Nat) : Bool := decide (s_first p n < n)
theorem s_any_t {p : Nat → Bool} {n k : Nat} (hk : k < n) (hp : p k = true) : s_any p n = true := by
  refine decide_eq_true ?_
  rcases Nat.lt_or_ge (s_first p n) n with h | h
  · exact h
  · have := s_first_no p n k (by omega)
    rw [hp] at this; cases this
theorem s_any_f {p : Nat → Bool} {n : Nat} (hno : ∀ j, j < n → p j = false) : s_any p n = false := by
  refine decide_eq_false ?_
  rw [s_first_none hno]; omega
def s_rule (g : Nat → Nat) (r : Nat) : Nat → Nat := fun j => g (17 + 29 * r + j)
def s_only (u : Nat → Nat) (x : Nat) : Bool := s_any (fun i => u (10 + i) == x) (u 9)
def s_barp (u : Nat → Nat) (k l : Nat) : Nat → Bool := fun i => u (21 + 2 * i) == k && u (21 + 2 * i + 1) == l
def s_bar (u : Nat → Nat) (k l : Nat) : Nat := s_first (s_barp u k l) (u 20)
def s_barred (u : Nat → Nat) (k l : Nat) : Bool := decide (s_bar u k l < u 20)
def s_dist (k l : Nat) : Nat := (k - l) + (l - k)
def s_forb (u : Nat → Nat) (k l : Nat) : Nat :=
  if u 19 < max k l then 4
  else if (k = 0 ∨ l = 0) ∧ 0 < u 9 ∧ s_only u (k + l) = false then 5
  else if (0 < k ∧ 0 < l) ∧ u 18 ≤ s_dist k l then 6
  else if s_barred u k l = true then 7 else 0
def s_al (u : Nat → Nat) (k l : Nat) : Bool := decide (0 < k + l ∧ s_forb u k l = 0)
def s_free (u : Nat → Nat) : Bool := decide (u 9 = 0 ∧ u 19 = 40 ∧ 0 < u 18 ∧ u 20 = 0)
def s_rwf (u : Nat → Nat) : Prop := u 0 ≤ 8 ∧ u 9 ≤ 8 ∧ u 18 ≤ 5 ∧ u 19 ≤ 40 ∧ u 20 ≤ 4 ∧ (∀ i, i < 8 → u (10 + i) ≤ 40) ∧ ∀ i, i < 8 → u (21 + i) ≤ 40
end
