/-! TABLES, in naturals: positions are p = 41 x + y, moves q = 41 k + l; A q: the move is allowed -/
section
def s_A (u : Nat → Nat) (q : Nat) : Bool := s_al u (q / 41) (q % 41)
theorem s_A0 (u : Nat → Nat) : s_A u 0 = false := by simp [s_A, s_al]
/-- move q can be made at p -/
def s_mv (A : Nat → Bool) (p q : Nat) : Bool := decide (q / 41 ≤ p / 41 ∧ q % 41 ≤ p % 41) && A q
theorem s_mv_le {A : Nat → Bool} {p q : Nat} (h : s_mv A p q = true) : q ≤ p := by
  simp only [s_mv, Bool.and_eq_true, decide_eq_true_eq] at h
  omega
theorem s_mv_pos {A : Nat → Bool} (h0 : A 0 = false) {p q : Nat} (h : s_mv A p q = true) : 0 < q := by
  rcases Nat.eq_zero_or_pos q with rfl | hq
  · simp only [s_mv, Bool.and_eq_true] at h; rw [h0] at h; exact absurd h.2 (by decide)
  · exact hq
theorem s_mv_kl {A : Nat → Bool} {x y k l : Nat} (hy : y ≤ 40) (hl : l ≤ 40) : s_mv A (41 * x + y) (41 * k + l) = (decide (k ≤ x ∧ l ≤ y) && A (41 * k + l)) := by
  unfold s_mv
  have e1 : (41 * k + l) / 41 = k := by omega
  have e2 : (41 * k + l) % 41 = l := by omega
  have e3 : (41 * x + y) / 41 = x := by omega
  have e4 : (41 * x + y) % 41 = y := by omega
  rw [e1, e2, e3, e4]
/-- a value is reached by one of the first m moves -/
def s_rch (A : Nat → Bool) (t : Nat → Nat) (p m v : Nat) : Bool := s_any (fun q => s_mv A p q && (t (p - q) == v)) m
theorem s_any_iff {P : Nat → Bool} {n : Nat} : s_any P n = true ↔ ∃ k, k < n ∧ P k = true := by
  constructor
  · intro h
    exact ⟨s_first P n, of_decide_eq_true h, s_first_yes P n (of_decide_eq_true h)⟩
  · rintro ⟨k, h1, h2⟩; exact s_any_t h1 h2
theorem s_rch_iff {A : Nat → Bool} {t : Nat → Nat} {p m v : Nat} : s_rch A t p m v = true ↔ ∃ q, q < m ∧ s_mv A p q = true ∧ t (p - q) = v := by
  unfold s_rch
  rw [s_any_iff]
  constructor
  · rintro ⟨k, h1, h2⟩
    simp only [Bool.and_eq_true, beq_iff_eq] at h2
    exact ⟨k, h1, h2.1, h2.2⟩
  · rintro ⟨k, h1, h2, h3⟩
    exact ⟨k, h1, by simp [h2, h3]⟩
theorem s_bool_ext {a b : Bool} (h : a = true ↔ b = true) : a = b := by cases a <;> cases b <;> simp_all
theorem s_rch_0 {A : Nat → Bool} {t : Nat → Nat} {p v : Nat} : s_rch A t p 0 v = false := rfl
theorem s_rch_step {A : Nat → Bool} {t : Nat → Nat} {p m v : Nat} : s_rch A t p (m + 1) v = (s_rch A t p m v || (s_mv A p m && (t (p - m) == v))) := by
  refine s_bool_ext ?_
  rw [s_rch_iff, Bool.or_eq_true, s_rch_iff, Bool.and_eq_true, beq_iff_eq]
  constructor
  · rintro ⟨q, h1, h2, h3⟩
    rcases Nat.lt_or_ge q m with h | h
    · exact Or.inl ⟨q, h, h2, h3⟩
    · have : q = m := by omega
      subst this; exact Or.inr ⟨h2, h3⟩
  · rintro (⟨q, h1, h2, h3⟩ | ⟨h2, h3⟩)
    · exact ⟨q, by omega, h2, h3⟩
    · exact ⟨m, by omega, h2, h3⟩
theorem s_rch_skip {A : Nat → Bool} {t : Nat → Nat} {p m m' v : Nat} (hm : m ≤ m') (h : ∀ q, m ≤ q → q < m' → s_mv A p q = false) : s_rch A t p m' v = s_rch A t p m v := by
  refine s_bool_ext ?_
  rw [s_rch_iff, s_rch_iff]
  constructor
  · rintro ⟨q, h1, h2, h3⟩
    rcases Nat.lt_or_ge q m with h9 | h9
    · exact ⟨q, h9, h2, h3⟩
    · rw [h q h9 h1] at h2; cases h2
  · rintro ⟨q, h1, h2, h3⟩; exact ⟨q, by omega, h2, h3⟩
theorem s_rch_congr {A B : Nat → Bool} {t t' : Nat → Nat} {p m v : Nat} (hA : ∀ q, q ≤ p → A q = B q) (ht : ∀ q, s_mv A p q = true → t (p - q) = t' (p - q)) : s_rch A t p m v = s_rch B t' p m v := by
  have hmv : ∀ q, s_mv A p q = s_mv B p q := by
    intro q
    unfold s_mv
    by_cases h : q / 41 ≤ p / 41 ∧ q % 41 ≤ p % 41
    · rw [hA q (by omega)]
    · simp [h]
  refine s_bool_ext ?_
  rw [s_rch_iff, s_rch_iff]
  constructor
  · rintro ⟨q, h1, h2, h3⟩
    exact ⟨q, h1, by rw [← hmv]; exact h2, by rw [← ht q h2]; exact h3⟩
  · rintro ⟨q, h1, h2, h3⟩
    rw [← hmv] at h2
    exact ⟨q, h1, h2, by rw [ht q h2]; exact h3⟩
/-- the value at p, from a table that holds those ahead -/
def s_mex (A : Nat → Bool) (t : Nat → Nat) (p : Nat) : Nat := s_first (fun v => !(s_rch A t p 1681 v)) 1681
def s_tab (A : Nat → Bool) : Nat → Nat → Nat
  | 0 => fun _ => 0
  | p + 1 => va_up (s_tab A p) p (s_mex A (s_tab A p) p)
def s_val (A : Nat → Bool) (p : Nat) : Nat := s_mex A (s_tab A p) p
theorem s_tab_lt (A : Nat → Bool) : ∀ (m p : Nat), p < m → s_tab A m p = s_val A p := by
  intro m
  induction m with
  | zero => intro p h; omega
  | succ m ih =>
    intro p h
    by_cases hp : p = m
    · subst hp; simp [s_tab, va_up, s_val]
    · have : s_tab A (m + 1) p = s_tab A m p := by simp [s_tab, va_up, hp]
      rw [this]; exact ih p (by omega)
/-- the value at p, from any table that agrees ahead of p -/
theorem s_mex_eq {A : Nat → Bool} (h0 : A 0 = false) {t : Nat → Nat} {p : Nat} (ht : ∀ j, j < p → t j = s_val A j) : s_mex A t p = s_val A p := by
  unfold s_val s_mex
  refine s_first_congr fun v _ => congrArg (fun b => !b) ?_
  refine s_rch_congr (fun _ _ => rfl) fun q hq => ?_
  have h1 := s_mv_pos h0 hq
  have h2 := s_mv_le hq
  rw [ht _ (by omega), s_tab_lt _ _ _ (by omega)]
theorem s_val_le {A : Nat → Bool} (h0 : A 0 = false) : ∀ p, p < 1681 → s_val A p ≤ p := by
  intro p
  induction p using Nat.strongRecOn with
  | _ p ih =>
    intro hp
    unfold s_val s_mex
    have hn : s_rch A (s_tab A p) p 1681 p = false := by
      cases h : s_rch A (s_tab A p) p 1681 p with
      | false => rfl
      | true =>
        obtain ⟨q, h1, h2, h3⟩ := s_rch_iff.mp h
        have h4 := s_mv_pos h0 h2
        have h5 := s_mv_le h2
        rw [s_tab_lt _ _ _ (by omega)] at h3
        have := ih (p - q) (by omega) (by omega)
        omega
    rcases Nat.lt_or_ge p (s_first (fun v => !(s_rch A (s_tab A p) p 1681 v)) 1681) with h | h
    · have := s_first_no _ _ p h
      simp [hn] at this
    · exact h
/-- what a value is: not reached, all below it are -/
theorem s_val_reach {A : Nat → Bool} (h0 : A 0 = false) {p v : Nat} (hp : p < 1681) (hv : v < s_val A p) : ∃ q, s_mv A p q = true ∧ q ≤ p ∧ 0 < q ∧ s_val A (p - q) = v := by
  have h1 : s_first (fun v => !(s_rch A (s_tab A p) p 1681 v)) 1681 = s_val A p := rfl
  have h2 := s_first_no (fun v => !(s_rch A (s_tab A p) p 1681 v)) 1681 v (by omega)
  simp only [Bool.not_eq_false'] at h2
  obtain ⟨q, q1, q2, q3⟩ := s_rch_iff.mp h2
  have q4 := s_mv_pos h0 q2
  have q5 := s_mv_le q2
  rw [s_tab_lt _ _ _ (by omega)] at q3
  exact ⟨q, q2, q5, q4, q3⟩
theorem s_val_not {A : Nat → Bool} (h0 : A 0 = false) {p q : Nat} (hp : p < 1681) (hq : s_mv A p q = true) : s_val A (p - q) ≠ s_val A p := by
  intro e
  have hle := s_val_le h0 p hp
  have h1 : s_first (fun v => !(s_rch A (s_tab A p) p 1681 v)) 1681 = s_val A p := rfl
  have h2 := s_first_yes (fun v => !(s_rch A (s_tab A p) p 1681 v)) 1681 (by omega)
  rw [h1] at h2
  simp only [Bool.not_eq_true'] at h2
  have h4 := s_mv_pos h0 hq
  have h5 := s_mv_le hq
  have : s_rch A (s_tab A p) p 1681 (s_val A p) = true := s_rch_iff.mpr ⟨q, by omega, hq, by rw [s_tab_lt _ _ _ (by omega)]; exact e⟩
  rw [this] at h2; cases h2
theorem s_tab_congr {A B : Nat → Bool} : ∀ (m : Nat), m ≤ 1681 → (∀ q, q < 1681 → A q = B q) → s_tab A m = s_tab B m := by
  intro m
  induction m with
  | zero => intro _ _; rfl
  | succ m ih =>
    intro hm hAB
    have e := ih (by omega) hAB
    unfold s_tab
    rw [e]
    have : s_mex A (s_tab B m) m = s_mex B (s_tab B m) m := by
      unfold s_mex
      refine s_first_congr fun v _ => congrArg (fun b => !b) ?_
      exact s_rch_congr (fun q hq => hAB q (by omega)) (fun _ _ => rfl)
    rw [this]
theorem s_val_congr {A B : Nat → Bool} (h : ∀ q, q < 1681 → A q = B q) {p : Nat} (hp : p < 1681) : s_val A p = s_val B p := by
  unfold s_val s_mex
  rw [s_tab_congr p (by omega) h]
  refine s_first_congr fun v _ => congrArg (fun b => !b) ?_
  exact s_rch_congr (fun q hq => h q (by omega)) (fun _ _ => rfl)
/-- spans: the best of the first m moves, one more than it (0: none) -/
def s_best (A : Nat → Bool) (V S : Nat → Nat) (p : Nat) : Nat → Nat
  | 0 => 0
  | q + 1 => if s_mv A p q = true then
      (if V p = 0 then max (s_best A V S p q) (S (p - q) + 1)
       else if V (p - q) = 0 ∧ (s_best A V S p q = 0 ∨ S (p - q) + 1 < s_best A V S p q) then S (p - q) + 1 else s_best A V S p q)
    else s_best A V S p q
theorem s_best_skip {A : Nat → Bool} {V S : Nat → Nat} {p m : Nat} : ∀ m', m ≤ m' → (∀ q, m ≤ q → q < m' → s_mv A p q = false) → s_best A V S p m' = s_best A V S p m := by
  intro m'
  induction m' with
  | zero => intro h _; have : m = 0 := by omega
            subst this; rfl
  | succ m' ih =>
    intro h hno
    by_cases hm : m = m' + 1
    · subst hm; rfl
    · rw [s_best, if_neg (by rw [hno m' (by omega) (by omega)]; decide)]
      exact ih (by omega) (fun q h1 h2 => hno q h1 (by omega))
theorem s_best_le {A : Nat → Bool} (h0 : A 0 = false) {V S : Nat → Nat} {p : Nat} (hS : ∀ j, j < p → S j ≤ j) : ∀ m, s_best A V S p m ≤ p := by
  intro m
  induction m with
  | zero => exact Nat.zero_le _
  | succ m ih =>
    unfold s_best
    split
    · next hq =>
      have h4 := s_mv_pos h0 hq
      have h5 := s_mv_le hq
      have := hS (p - m) (by omega)
      split
      · omega
      · split <;> omega
    · exact ih
theorem s_best_congr {A B : Nat → Bool} (h0 : A 0 = false) {V V' S S' : Nat → Nat} {p : Nat} (hA : ∀ q, q ≤ p → A q = B q) (hV : ∀ j, j ≤ p → V j = V' j) (hS : ∀ j, j < p → S j = S' j) : ∀ m, s_best A V S p m = s_best B V' S' p m := by
  have hmv : ∀ q, s_mv A p q = s_mv B p q := by
    intro q
    unfold s_mv
    by_cases h : q / 41 ≤ p / 41 ∧ q % 41 ≤ p % 41
    · rw [hA q (by omega)]
    · simp [h]
  intro m
  induction m with
  | zero => rfl
  | succ m ih =>
    unfold s_best
    rw [← hmv, ih]
    by_cases hq : s_mv A p m = true
    · have h4 := s_mv_pos h0 hq
      have h5 := s_mv_le hq
      rw [if_pos hq, if_pos hq, hV p (Nat.le_refl _), hV (p - m) (by omega), hS (p - m) (by omega)]
    · rw [if_neg hq, if_neg hq]
def s_stab (A : Nat → Bool) (V : Nat → Nat) : Nat → Nat → Nat
  | 0 => fun _ => 0
  | p + 1 => va_up (s_stab A V p) p (s_best A V (s_stab A V p) p 1681)
def s_spn (A : Nat → Bool) (p : Nat) : Nat := s_best A (s_val A) (s_stab A (s_val A) p) p 1681
theorem s_stab_lt (A : Nat → Bool) : ∀ (m p : Nat), p < m → s_stab A (s_val A) m p = s_spn A p := by
  intro m
  induction m with
  | zero => intro p h; omega
  | succ m ih =>
    intro p h
    by_cases hp : p = m
    · subst hp; simp [s_stab, va_up, s_spn]
    · have : s_stab A (s_val A) (m + 1) p = s_stab A (s_val A) m p := by simp [s_stab, va_up, hp]
      rw [this]; exact ih p (by omega)
theorem s_spn_eq {A : Nat → Bool} (h0 : A 0 = false) {V S : Nat → Nat} {p : Nat} (hV : ∀ j, j ≤ p → V j = s_val A j) (hS : ∀ j, j < p → S j = s_spn A j) : s_best A V S p 1681 = s_spn A p :=
  s_best_congr h0 (fun _ _ => rfl) hV (fun j hj => (hS j hj).trans (s_stab_lt A p j hj).symm) 1681
theorem s_spn_le {A : Nat → Bool} (h0 : A 0 = false) : ∀ p, s_spn A p ≤ p := by
  intro p
  induction p using Nat.strongRecOn with
  | _ p ih => exact s_best_le h0 (fun j hj => by rw [s_stab_lt A p j hj]; exact ih j hj) 1681
theorem s_spn_congr {A B : Nat → Bool} (h0 : A 0 = false) (h : ∀ q, q < 1681 → A q = B q) : ∀ p, p < 1681 → s_spn A p = s_spn B p := by
  intro p
  induction p using Nat.strongRecOn with
  | _ p ih =>
    intro hp
    exact s_best_congr h0 (fun q hq => h q (by omega)) (fun j hj => s_val_congr h (by omega)) (fun j hj => by rw [s_stab_lt A p j hj, s_stab_lt B p j hj]; exact ih j hj (by omega)) 1681
/-- a rule's values and spans -/
def s_V (u : Nat → Nat) (p : Nat) : Nat := s_val (s_A u) p
def s_S (u : Nat → Nat) (p : Nat) : Nat := s_spn (s_A u) p
theorem s_al_congr {u w : Nat → Nat} (h : ∀ j, 9 ≤ j → j < 29 → u j = w j) (hw : u 9 ≤ 8 ∧ u 20 ≤ 4) (k l : Nat) : s_al u k l = s_al w k l := by
  have e9 := h 9 (by omega) (by omega)
  have e18 := h 18 (by omega) (by omega)
  have e19 := h 19 (by omega) (by omega)
  have e20 := h 20 (by omega) (by omega)
  have eo : s_only u (k + l) = s_only w (k + l) := by
    unfold s_only s_any
    rw [← e9, s_first_congr fun j hj => by rw [h (10 + j) (by omega) (by omega)]]
  have eb : s_barred u k l = s_barred w k l := by
    unfold s_barred s_bar
    rw [← e20, s_first_congr fun j hj => by unfold s_barp; rw [h (21 + 2 * j) (by omega) (by omega), h (21 + 2 * j + 1) (by omega) (by omega)]]
    rfl
  unfold s_al s_forb
  rw [e9, e18, e19, eo, eb]
theorem s_A_congr {u w : Nat → Nat} (h : ∀ j, 9 ≤ j → j < 29 → u j = w j) (hw : u 9 ≤ 8 ∧ u 20 ≤ 4) (q : Nat) : s_A u q = s_A w q := s_al_congr h hw _ _
theorem s_V_le (u : Nat → Nat) {p : Nat} (hp : p < 1681) : s_V u p ≤ p := s_val_le (s_A0 u) p hp
theorem s_S_le (u : Nat → Nat) (p : Nat) : s_S u p ≤ p := s_spn_le (s_A0 u) p
theorem s_V_congr {u w : Nat → Nat} (h : ∀ j, 9 ≤ j → j < 29 → u j = w j) (hw : u 9 ≤ 8 ∧ u 20 ≤ 4) {p : Nat} (hp : p < 1681) : s_V u p = s_V w p := s_val_congr (fun q _ => s_A_congr h hw q) hp
theorem s_S_congr {u w : Nat → Nat} (h : ∀ j, 9 ≤ j → j < 29 → u j = w j) (hw : u 9 ≤ 8 ∧ u 20 ≤ 4) {p : Nat} (hp : p < 1681) : s_S u p = s_S w p := s_spn_congr (s_A0 u) (fun q _ => s_A_congr h hw q) p hp
end
