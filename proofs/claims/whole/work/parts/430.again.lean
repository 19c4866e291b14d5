section
def s_agB (g : Nat → Nat) (n : Nat) : Nat → Nat := fun j => if 133 ≤ j ∧ j < 133 + 5 * n ∧ ((j - 133) % 5 = 1 ∨ (j - 133) % 5 = 2) then g (j + 2) else g j
def s_agS (g : Nat → Nat) (n : Nat) : Nat → Nat := fun j => if 153 ≤ j ∧ j < 153 + 3 * n ∧ (j - 153) % 3 = 0 then g (j + 2) else g j
theorem s_agB_i (g : Nat → Nat) (n j : Nat) : s_agB g n j = if 133 ≤ j ∧ j < 133 + 5 * n ∧ ((j - 133) % 5 = 1 ∨ (j - 133) % 5 = 2) then g (j + 2) else g j := rfl
theorem s_agS_i (g : Nat → Nat) (n j : Nat) : s_agS g n j = if 153 ≤ j ∧ j < 153 + 3 * n ∧ (j - 153) % 3 = 0 then g (j + 2) else g j := rfl
theorem s_agB_lo {g : Nat → Nat} {n j : Nat} (h : j < 133 ∨ 133 + 5 * n ≤ j) : s_agB g n j = g j := by rw [s_agB_i, if_neg (by omega)]
theorem s_agS_lo {g : Nat → Nat} {n j : Nat} (h : j < 153 ∨ 153 + 3 * n ≤ j) : s_agS g n j = g j := by rw [s_agS_i, if_neg (by omega)]
theorem s_agB_s (g : Nat → Nat) (b i : Nat) : va_up (va_up (s_agB g b) (133 + 5 * b + 1) (s_agB g b (133 + 5 * b + 3))) (133 + 5 * b + 2) (va_up (s_agB g b) (133 + 5 * b + 1) (s_agB g b (133 + 5 * b + 3)) (133 + 5 * b + 4)) i = s_agB g (b + 1) i := by
  have e3 : s_agB g b (133 + 5 * b + 3) = g (133 + 5 * b + 3) := s_agB_lo (by omega)
  have e4 : va_up (s_agB g b) (133 + 5 * b + 1) (s_agB g b (133 + 5 * b + 3)) (133 + 5 * b + 4) = g (133 + 5 * b + 4) := by
    unfold va_up; rw [if_neg (by omega)]; exact s_agB_lo (by omega)
  rw [e4, e3, s_agB_i g (b + 1)]
  unfold va_up
  by_cases h1 : i = 133 + 5 * b + 2
  · rw [if_pos h1, if_pos (by omega), h1]
  · rw [if_neg h1]
    by_cases h2 : i = 133 + 5 * b + 1
    · rw [if_pos h2, if_pos (by omega), h2]
    · rw [if_neg h2, s_agB_i]
      by_cases h3 : 133 ≤ i ∧ i < 133 + 5 * b ∧ ((i - 133) % 5 = 1 ∨ (i - 133) % 5 = 2)
      · rw [if_pos h3, if_pos (by omega)]
      · rw [if_neg h3, if_neg (by omega)]
theorem s_agS_s (g : Nat → Nat) (b i : Nat) : va_up (s_agS g b) (153 + 3 * b + 0) (s_agS g b (153 + 3 * b + 2)) i = s_agS g (b + 1) i := by
  have e3 : s_agS g b (153 + 3 * b + 2) = g (153 + 3 * b + 2) := s_agS_lo (by omega)
  rw [e3, s_agS_i g (b + 1)]
  unfold va_up
  by_cases h1 : i = 153 + 3 * b + 0
  · rw [if_pos h1, if_pos (by omega), h1]
  · rw [if_neg h1, s_agS_i]
    by_cases h3 : 153 ≤ i ∧ i < 153 + 3 * b ∧ (i - 153) % 3 = 0
    · rw [if_pos h3, if_pos (by omega)]
    · rw [if_neg h3, if_neg (by omega)]
def s_ag0 (g : Nat → Nat) : Nat → Nat := s_agS (s_agB g (g 1)) (g 2)
def s_again (g : Nat → Nat) (pl : Nat) : Nat → Nat := va_up (va_up (va_up (s_ag0 g) 3 pl) 4 0) 5 (va_up (va_up (s_ag0 g) 3 pl) 4 0 5 + 1)
theorem s_ag0_lo {g : Nat → Nat} {j : Nat} (h : j < 133) : s_ag0 g j = g j := by
  unfold s_ag0; rw [s_agS_lo (by omega), s_agB_lo (by omega)]
theorem s_again_hi {g : Nat → Nat} {pl j : Nat} (h : j ≠ 3) (h2 : j ≠ 4) (h3 : j ≠ 5) : s_again g pl j = s_ag0 g j := by
  unfold s_again va_up; rw [if_neg h3, if_neg h2, if_neg h]
theorem s_gwf_again {g : Nat → Nat} {pl : Nat} (hp : pl ≤ 1) (h : s_gwf g) : s_gwf (s_again g pl) := by
  obtain ⟨a0, a1, a2, a3, a6, ar, ab, as⟩ := h
  have lo : ∀ j : Nat, j < 133 → j ≠ 3 → j ≠ 4 → j ≠ 5 → s_again g pl j = g j := fun j q1 q2 q3 q4 => (s_again_hi q2 q3 q4).trans (s_ag0_lo q1)
  refine ⟨?_, ?_, ?_, ?_, ?_, ?_, ?_, ?_⟩
  · rw [lo 0 (by decide) (by decide) (by decide) (by decide)]; exact a0
  · rw [lo 1 (by decide) (by decide) (by decide) (by decide)]; exact a1
  · rw [lo 2 (by decide) (by decide) (by decide) (by decide)]; exact a2
  · unfold s_again va_up; rw [if_neg (by decide), if_neg (by decide), if_pos rfl]; exact hp
  · rw [lo 6 (by decide) (by decide) (by decide) (by decide)]; exact a6
  · intro r hr
    rw [lo 0 (by decide) (by decide) (by decide) (by decide)] at hr
    exact s_rwf_congr (fun j hj => lo _ (by omega) (by omega) (by omega) (by omega)) (ar r hr)
  · intro b hb
    rw [lo 1 (by decide) (by decide) (by decide) (by decide)] at hb
    have hq := ab b hb
    have e : ∀ j : Nat, j < 5 → s_again g pl (133 + 5 * b + j) = if j = 1 ∨ j = 2 then g (133 + 5 * b + j + 2) else g (133 + 5 * b + j) := fun j hj => by
      rw [s_again_hi (by omega) (by omega) (by omega)]
      unfold s_ag0
      rw [s_agS_lo (by omega), s_agB_i]
      by_cases e : j = 1 ∨ j = 2
      · rw [if_pos e, if_pos (by omega)]
      · rw [if_neg e, if_neg (by omega)]
    rw [lo 0 (by decide) (by decide) (by decide) (by decide), e 0 (by decide), e 1 (by decide), e 2 (by decide), e 3 (by decide), e 4 (by decide)]
    rw [if_neg (by decide), if_pos (by decide), if_pos (by decide), if_neg (by decide), if_neg (by decide)]
    obtain ⟨q0, q1, q2, q3, q4⟩ := hq
    exact ⟨q0, q3, q4, q3, q4⟩
  · intro s hs
    rw [lo 2 (by decide) (by decide) (by decide) (by decide)] at hs
    have hq := as s hs
    have e : ∀ j : Nat, j < 3 → s_again g pl (153 + 3 * s + j) = if j = 0 then g (153 + 3 * s + j + 2) else g (153 + 3 * s + j) := fun j hj => by
      rw [s_again_hi (by omega) (by omega) (by omega)]
      unfold s_ag0
      rw [s_agS_i]
      by_cases e : j = 0
      · rw [if_pos e, if_pos (by omega), s_agB_lo (by omega)]
      · rw [if_neg e, if_neg (by omega), s_agB_lo (by omega)]
    rw [e 0 (by decide), e 1 (by decide), e 2 (by decide)]
    rw [if_pos (by decide), if_neg (by decide), if_neg (by decide)]
    obtain ⟨q0, q1, q2⟩ := hq
    exact ⟨q2, q1, q2⟩
theorem s_again_CV {g va : Nat → Nat} {pl : Nat} (h : s_gwf g) (hCV : ∀ r, r < g 0 → ∀ q, q < 1681 → va (1681 * r + q) = s_V (s_rule g r) q) : ∀ r, r < s_again g pl 0 → ∀ q, q < 1681 → va (1681 * r + q) = s_V (s_rule (s_again g pl) r) q :=
  s_CV_ag ((s_again_hi (by decide) (by decide) (by decide)).trans (s_ag0_lo (by decide))) (fun j h1 h2 => (s_again_hi (by omega) (by omega) (by omega)).trans (s_ag0_lo (by omega))) h hCV
/-- the bars of a rule without one -/
def s_dsh (g : Nat → Nat) (r a q : Nat) : Nat → Nat := fun j => if 17 + 29 * r + (21 + a) ≤ j ∧ j < 17 + 29 * r + (21 + q) then g (j + 2) else g j
theorem s_dsh_i (g : Nat → Nat) (r a q j : Nat) : s_dsh g r a q j = if 17 + 29 * r + (21 + a) ≤ j ∧ j < 17 + 29 * r + (21 + q) then g (j + 2) else g j := rfl
theorem s_dsh_0 (g : Nat → Nat) (r a j : Nat) : g j = s_dsh g r a a j := by rw [s_dsh_i, if_neg (by omega)]
theorem s_dsh_s (g : Nat → Nat) (r a q j : Nat) (h : a ≤ q) : va_up (s_dsh g r a q) (17 + 29 * r + (21 + q)) (s_rule (s_dsh g r a q) r (21 + q + 2)) j = s_dsh g r a (q + 1) j := by
  have e : s_rule (s_dsh g r a q) r (21 + q + 2) = g (17 + 29 * r + (21 + q + 2)) := by
    show s_dsh g r a q (17 + 29 * r + (21 + q + 2)) = _
    rw [s_dsh_i, if_neg (by omega)]
  rw [e, s_dsh_i g r a (q + 1)]
  unfold va_up
  by_cases h1 : j = 17 + 29 * r + (21 + q)
  · rw [if_pos h1, if_pos (by omega), h1]; congr 1
  · rw [if_neg h1, s_dsh_i]
    by_cases h2 : 17 + 29 * r + (21 + a) ≤ j ∧ j < 17 + 29 * r + (21 + q)
    · rw [if_pos h2, if_pos (by omega)]
    · rw [if_neg h2, if_neg (by omega)]
def s_dropB (g : Nat → Nat) (r i : Nat) : Nat → Nat := va_up (va_up (va_up (s_dsh g r (2 * i) (2 * (s_rule g r 20 - 1))) (17 + 29 * r + (21 + 2 * (s_rule g r 20 - 1))) 0) (17 + 29 * r + (21 + 2 * (s_rule g r 20 - 1) + 1)) 0) (17 + 29 * r + 20) (s_rule g r 20 - 1)
def s_barG (g : Nat → Nat) (r : Nat) (s : Bool) (k l : Nat) : Nat → Nat := if s = true then (if s_barred (s_rule g r) k l = true then g else s_addBr g r k l) else (if s_barred (s_rule g r) k l = true then s_dropB g r (s_bar (s_rule g r) k l) else g)
end
