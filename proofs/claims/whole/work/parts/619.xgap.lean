/-! GAP: counted by indices of the golden rows -/
section
theorem x_cnt_or {P Q : Nat → Bool} : ∀ {n : Nat}, (∀ j : Nat, j < n → P j = true → Q j = true → False) → s_cnt (fun j => P j || Q j) n = s_cnt P n + s_cnt Q n
  | 0, _ => rfl
  | n + 1, h => by
    have ih := x_cnt_or (P := P) (Q := Q) (n := n) (fun j hj => h j (by omega))
    have h0 := h n (by omega)
    show s_cnt (fun j => P j || Q j) n + (if (P n || Q n) = true then 1 else 0) = (s_cnt P n + (if P n = true then 1 else 0)) + (s_cnt Q n + (if Q n = true then 1 else 0))
    rw [ih]
    cases hp : P n with
    | true =>
      cases hq : Q n with
      | true => exact absurd (h0 hp hq) id
      | false => show s_cnt P n + s_cnt Q n + 1 = s_cnt P n + 1 + (s_cnt Q n + 0); omega
    | false =>
      cases hq : Q n with
      | true => show s_cnt P n + s_cnt Q n + 1 = s_cnt P n + 0 + (s_cnt Q n + 1); omega
      | false => show s_cnt P n + s_cnt Q n + 0 = s_cnt P n + 0 + (s_cnt Q n + 0); omega
theorem x_cnt_at {L : Nat → Bool} {q : Nat} : ∀ {n : Nat}, q < n → s_cnt (fun j => (j == q) && L j) n = if L q = true then 1 else 0
  | 0, h => absurd h (Nat.not_lt_zero q)
  | n + 1, h => by
    show s_cnt (fun j => (j == q) && L j) n + (if ((n == q) && L n) = true then 1 else 0) = _
    by_cases e : n = q
    · subst e
      rw [s_cnt_0 (fun j hj => by rw [beq_eq_false_iff_ne.mpr (by omega), Bool.false_and]), beq_self_eq_true, Bool.true_and, Nat.zero_add]
    · rw [x_cnt_at (show q < n by omega), beq_eq_false_iff_ne.mpr e, Bool.false_and]; exact Nat.add_zero _
theorem x_cnt_xor {P Q : Nat → Bool} : ∀ n : Nat, s_cnt (fun j => !(P j == Q j)) n + 2 * s_cnt (fun j => P j && Q j) n = s_cnt P n + s_cnt Q n
  | 0 => rfl
  | n + 1 => by
    have ih := x_cnt_xor (P := P) (Q := Q) n
    show (s_cnt (fun j => !(P j == Q j)) n + (if (!(P n == Q n)) = true then 1 else 0)) + 2 * (s_cnt (fun j => P j && Q j) n + (if (P n && Q n) = true then 1 else 0)) = (s_cnt P n + (if P n = true then 1 else 0)) + (s_cnt Q n + (if Q n = true then 1 else 0))
    cases P n <;> cases Q n <;> simp <;> omega
theorem x_cnt_and_le {P Q : Nat → Bool} : ∀ n : Nat, s_cnt (fun j => P j && Q j) n ≤ s_cnt P n ∧ s_cnt (fun j => P j && Q j) n ≤ s_cnt Q n
  | 0 => ⟨Nat.le_refl _, Nat.le_refl _⟩
  | n + 1 => by
    have ih := x_cnt_and_le (P := P) (Q := Q) n
    show s_cnt (fun j => P j && Q j) n + (if (P n && Q n) = true then 1 else 0) ≤ s_cnt P n + (if P n = true then 1 else 0) ∧ s_cnt (fun j => P j && Q j) n + (if (P n && Q n) = true then 1 else 0) ≤ s_cnt Q n + (if Q n = true then 1 else 0)
    cases P n <;> cases Q n <;> simp <;> omega
def x_gn (s n p : Nat) : Bool := s_any (s_isGP s (p / 41) (p % 41)) n
theorem x_gn_s (s n p : Nat) : x_gn s (n + 1) p = (x_gn s n p || s_isGP s (p / 41) (p % 41) n) := by
  rw [Bool.eq_iff_iff, Bool.or_eq_true]
  unfold x_gn
  rw [s_any_iff, s_any_iff]
  constructor
  · rintro ⟨k, h1, h2⟩
    by_cases e : k = n
    · subst e; exact Or.inr h2
    · exact Or.inl ⟨k, by omega, h2⟩
  · rintro (⟨k, h1, h2⟩ | h2)
    · exact ⟨k, by omega, h2⟩
    · exact ⟨n, by omega, h2⟩
theorem x_isGP_iff {s n p : Nat} (hp : p < 1681) : s_isGP s (p / 41) (p % 41) n = true ↔ s_gB s n ≤ 40 ∧ (p = 41 * s_gA s n + s_gB s n ∨ p = 41 * s_gB s n + s_gA s n) := by
  have hle : s_gA s n ≤ s_gB s n := Nat.le_add_right _ _
  unfold s_isGP
  rw [Bool.and_eq_true, beq_iff_eq, beq_iff_eq]
  constructor
  · rintro ⟨h1, h2⟩; omega
  · rintro ⟨h1, h2 | h2⟩ <;> omega
theorem x_gstep {s n : Nat} (L : Nat → Bool) {N : Nat} (hN : N = 1681) (hs : s ≤ 5) (hn : n ≤ 40) : ∃ t1 t2 : Nat, s_cnt (fun p => L p && x_gn s (n + 1) p) N = s_cnt (fun p => L p && x_gn s n p) N + t1 + t2 ∧
    (40 < s_gB s n → t1 = 0 ∧ t2 = 0) ∧ (s_gB s n ≤ 40 → t1 = (if L (41 * s_gA s n + s_gB s n) = true then 1 else 0)) ∧ (s_gB s n ≤ 40 → s_gA s n = s_gB s n → t2 = 0) ∧ (s_gB s n ≤ 40 → ¬ s_gA s n = s_gB s n → t2 = (if L (41 * s_gB s n + s_gA s n) = true then 1 else 0)) := by
  have hle : s_gA s n ≤ s_gB s n := Nat.le_add_right _ _
  have hdis : ∀ j : Nat, j < N → (L j && x_gn s n j) = true → (L j && s_isGP s (j / 41) (j % 41) n) = true → False := by
    intro j hj h1 h2
    rw [Bool.and_eq_true] at h1 h2
    have h3 := h1.2
    unfold x_gn at h3
    rw [s_any_iff] at h3
    obtain ⟨k, hk, h4⟩ := h3
    have h6 := s_gX_mono (b := false) hs (show k ≤ n by omega) (by omega)
    rw [s_gX_f, s_gX_f] at h6
    have h5 := h2.2
    unfold s_isGP at h4 h5
    rw [Bool.and_eq_true, beq_iff_eq, beq_iff_eq] at h4 h5
    have h7 := h4.1.trans h5.1.symm
    clear h4 h5 h1 h2
    omega
  have hsp : s_cnt (fun p => L p && x_gn s (n + 1) p) N = s_cnt (fun p => (L p && x_gn s n p) || (L p && s_isGP s (p / 41) (p % 41) n)) N := s_cnt_congr (fun j _ => by
    show (L j && x_gn s (n + 1) j) = ((L j && x_gn s n j) || (L j && s_isGP s (j / 41) (j % 41) n))
    rw [x_gn_s, Bool.and_or_distrib_left])
  have hor : s_cnt (fun p => L p && x_gn s (n + 1) p) N = s_cnt (fun p => L p && x_gn s n p) N + s_cnt (fun p => L p && s_isGP s (p / 41) (p % 41) n) N := hsp.trans (x_cnt_or (P := fun p => L p && x_gn s n p) (Q := fun p => L p && s_isGP s (p / 41) (p % 41) n) hdis)
  have key : ∀ R : Nat → Bool, (∀ j : Nat, j < N → ((L j && s_isGP s (j / 41) (j % 41) n) = true ↔ R j = true)) → s_cnt (fun p => L p && s_isGP s (p / 41) (p % 41) n) N = s_cnt R N := fun R h => s_cnt_congr (fun j hj => by rw [Bool.eq_iff_iff]; exact h j hj)
  by_cases hb : s_gB s n ≤ 40
  · by_cases hab : s_gA s n = s_gB s n
    · refine ⟨if L (41 * s_gA s n + s_gB s n) = true then 1 else 0, 0, ?_, fun h => absurd h (by omega), fun _ => rfl, fun _ _ => rfl, fun _ h => absurd hab h⟩
      rw [hor, Nat.add_zero, key (fun j => (j == 41 * s_gA s n + s_gB s n) && L j) (fun j hj => ?_), x_cnt_at (show 41 * s_gA s n + s_gB s n < N by omega)]
      show (L j && s_isGP s (j / 41) (j % 41) n) = true ↔ ((j == 41 * s_gA s n + s_gB s n) && L j) = true
      rw [Bool.and_eq_true, Bool.and_eq_true, x_isGP_iff (show j < 1681 by omega), beq_iff_eq]
      constructor
      · rintro ⟨h1, -, h2⟩; exact ⟨by omega, h1⟩
      · rintro ⟨h1, h2⟩; exact ⟨h2, hb, Or.inl h1⟩
    · refine ⟨if L (41 * s_gA s n + s_gB s n) = true then 1 else 0, if L (41 * s_gB s n + s_gA s n) = true then 1 else 0, ?_, fun h => absurd h (by omega), fun _ => rfl, fun _ h => absurd h hab, fun _ _ => rfl⟩
      have hc := x_cnt_or (n := N) (P := fun j => (j == 41 * s_gA s n + s_gB s n) && L j) (Q := fun j => (j == 41 * s_gB s n + s_gA s n) && L j) (fun j hj h1 h2 => by
        rw [Bool.and_eq_true, beq_iff_eq] at h1 h2; omega)
      rw [x_cnt_at (show 41 * s_gA s n + s_gB s n < N by omega), x_cnt_at (show 41 * s_gB s n + s_gA s n < N by omega)] at hc
      rw [hor, Nat.add_assoc, ← hc, key (fun j => ((j == 41 * s_gA s n + s_gB s n) && L j) || ((j == 41 * s_gB s n + s_gA s n) && L j)) (fun j hj => ?_)]
      show (L j && s_isGP s (j / 41) (j % 41) n) = true ↔ (((j == 41 * s_gA s n + s_gB s n) && L j) || ((j == 41 * s_gB s n + s_gA s n) && L j)) = true
      rw [Bool.and_eq_true, Bool.or_eq_true, Bool.and_eq_true, Bool.and_eq_true, x_isGP_iff (show j < 1681 by omega), beq_iff_eq, beq_iff_eq]
      constructor
      · rintro ⟨h1, -, h2 | h2⟩
        · exact Or.inl ⟨h2, h1⟩
        · exact Or.inr ⟨h2, h1⟩
      · rintro (⟨h1, h2⟩ | ⟨h1, h2⟩)
        · exact ⟨h2, hb, Or.inl h1⟩
        · exact ⟨h2, hb, Or.inr h1⟩
  · refine ⟨0, 0, ?_, fun _ => ⟨rfl, rfl⟩, fun h => absurd h hb, fun h => absurd h hb, fun h => absurd h hb⟩
    rw [hor, s_cnt_0 (P := fun p => L p && s_isGP s (p / 41) (p % 41) n) (fun j hj => ?_)]
    show (L j && s_isGP s (j / 41) (j % 41) n) = false
    cases hh : s_isGP s (j / 41) (j % 41) n with
    | false => rw [Bool.and_false]
    | true => exact absurd ((x_isGP_iff (show j < 1681 by omega)).mp hh).1 hb
def x_gg (s n : Nat) : Nat := s_cnt (x_gn s n) 1681
def x_gb (u : Nat → Nat) (n : Nat) : Nat := s_cnt (fun p => (s_V u p == 0) && x_gn (u 18) n p) 1681
theorem x_gg_0 (s : Nat) : x_gg s 0 = 0 := s_cnt_0 (fun _ _ => rfl)
theorem x_gb_0 (u : Nat → Nat) : x_gb u 0 = 0 := s_cnt_0 (fun j _ => by show ((s_V u j == 0) && false) = false; rw [Bool.and_false])
theorem x_gg_s {s n : Nat} (hs : s ≤ 5) (hn : n ≤ 40) : (40 < s_gB s n → x_gg s (n + 1) = x_gg s n) ∧ (s_gB s n ≤ 40 → s_gA s n = s_gB s n → x_gg s (n + 1) = x_gg s n + 1) ∧ (s_gB s n ≤ 40 → ¬ s_gA s n = s_gB s n → x_gg s (n + 1) = x_gg s n + 2) := by
  obtain ⟨t1, t2, h0, h1, h2, h3, h4⟩ := x_gstep (fun _ => true) (N := 1681) rfl hs hn
  have e : ∀ k : Nat, s_cnt (fun p => true && x_gn s k p) 1681 = x_gg s k := fun k => s_cnt_congr (fun j _ => Bool.true_and _)
  have h0' : x_gg s (n + 1) = x_gg s n + t1 + t2 := (e (n + 1)).symm.trans (h0.trans (by rw [e n]))
  refine ⟨fun h => ?_, fun h k => ?_, fun h k => ?_⟩
  · have := h1 h; omega
  · have a := h2 h
    have b := h3 h k
    rw [if_pos rfl] at a
    omega
  · have a := h2 h
    have b := h4 h k
    rw [if_pos rfl] at a b
    omega
theorem x_gb_s {u : Nat → Nat} {n : Nat} (hs : u 18 ≤ 5) (hn : n ≤ 40) : ∃ t1 t2 : Nat, x_gb u (n + 1) = x_gb u n + t1 + t2 ∧ (40 < s_gB (u 18) n → t1 = 0 ∧ t2 = 0) ∧
    (s_gB (u 18) n ≤ 40 → s_V u (41 * s_gA (u 18) n + s_gB (u 18) n) = 0 → t1 = 1) ∧ (s_gB (u 18) n ≤ 40 → ¬ s_V u (41 * s_gA (u 18) n + s_gB (u 18) n) = 0 → t1 = 0) ∧
    (s_gB (u 18) n ≤ 40 → s_gA (u 18) n = s_gB (u 18) n → t2 = 0) ∧
    (s_gB (u 18) n ≤ 40 → ¬ s_gA (u 18) n = s_gB (u 18) n → s_V u (41 * s_gB (u 18) n + s_gA (u 18) n) = 0 → t2 = 1) ∧ (s_gB (u 18) n ≤ 40 → ¬ s_gA (u 18) n = s_gB (u 18) n → ¬ s_V u (41 * s_gB (u 18) n + s_gA (u 18) n) = 0 → t2 = 0) := by
  obtain ⟨t1, t2, h0, h1, h2, h3, h4⟩ := x_gstep (fun p => s_V u p == 0) (N := 1681) rfl hs hn
  refine ⟨t1, t2, h0, h1, fun a b => ?_, fun a b => ?_, h3, fun a b c => ?_, fun a b c => ?_⟩
  · rw [h2 a, if_pos (beq_iff_eq.mpr b)]
  · rw [h2 a, if_neg (fun z => b (beq_iff_eq.mp z))]
  · rw [h4 a b, if_pos (beq_iff_eq.mpr c)]
  · rw [h4 a b, if_neg (fun z => c (beq_iff_eq.mp z))]
theorem x_gp_end (u : Nat → Nat) : s_gpc u 1681 + 2 * x_gb u 41 = s_lzc u 1681 + x_gg (u 18) 41 ∧ x_gb u 41 ≤ s_lzc u 1681 ∧ x_gb u 41 ≤ x_gg (u 18) 41 := by
  have h := x_cnt_xor (P := fun q => s_V u q == 0) (Q := fun q => x_gn (u 18) 41 q) 1681
  have h2 := x_cnt_and_le (P := fun q => s_V u q == 0) (Q := fun q => x_gn (u 18) 41 q) 1681
  exact ⟨h, h2⟩
theorem x_gX_small {s n : Nat} (b : Bool) (hs : s ≤ 5) (hn : n ≤ 40) : s_gX s b n ≤ 30000 := by
  have h1 := (s_rt_ok (Nat.lt_of_lt_of_le (s_gd_lt hs (show n ≤ 500000000 by omega)) (by decide : 2 ^ 63 ≤ 2 ^ 64))).1
  have h2 : s_gd s n ≤ 40 * 40 * (5 * 5 + 4) := by
    unfold s_gd
    exact Nat.mul_le_mul (Nat.mul_le_mul hn hn) (by have := Nat.mul_le_mul hs hs; omega)
  have h3 : s_rt (s_gd s n) ≤ s_rt (s_gd s n) * s_rt (s_gd s n) := by
    rcases Nat.eq_zero_or_pos (s_rt (s_gd s n)) with e | e
    · rw [e]; exact Nat.zero_le _
    · exact Nat.le_mul_of_pos_left _ e
  have h4 : s * n ≤ 5 * 40 := Nat.mul_le_mul hs hn
  have hA : s_gA s n ≤ 23300 := by unfold s_gA; omega
  cases b
  · rw [s_gX_f]; omega
  · rw [s_gX_t]; unfold s_gB; omega
end
