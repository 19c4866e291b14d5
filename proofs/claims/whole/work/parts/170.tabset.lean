section
theorem s_lr_at {lo u : Nat → Nat} {r : Nat} (hlo : ∀ k, k < 20 → lo (20 * r + k) = u (9 + k)) : ∀ j, 9 ≤ j → j < 29 → s_lr lo r j = u j := fun j h1 h2 => by
  unfold s_lr; rw [hlo (j - 9) (by omega)]; congr 1; omega
theorem s_TI_set {z : Nat} {lo va sp lo' va' sp' u : Nat → Nat} {r : Nat} (h : s_TI z lo va sp) (hr : r < 4) (hu : s_rwf u)
    (hlo : ∀ k, k < 20 → lo' (20 * r + k) = u (9 + k)) (hlo2 : ∀ j, ¬ (20 * r ≤ j ∧ j < 20 * r + 20) → lo' j = lo j) (hcu : s_CU u r va' sp')
    (hk : ∀ j, (j < 1681 * r ∨ 1681 * r + 1681 ≤ j) → va' j = va j ∧ sp' j = sp j) : s_TI (z ||| 2 ^ r) lo' va' sp' := by
  obtain ⟨hz, h⟩ := h
  have hb := q_bitset z hz r hr
  refine ⟨hb.2.1, fun r' hr' hbit => ?_⟩
  have e := s_lr_at hlo
  by_cases hrr : r' = r
  · subst hrr
    have e9 := e 9 (by omega) (by omega)
    have e20 := e 20 (by omega) (by omega)
    have hbd : s_lr lo' r' 9 ≤ 8 ∧ s_lr lo' r' 20 ≤ 4 := ⟨by rw [e9]; exact hu.2.1, by rw [e20]; exact hu.2.2.2.2.1⟩
    refine ⟨hbd, fun p hp => ?_⟩
    rw [s_V_congr e hbd hp, s_S_congr e hbd hp]
    exact hcu p hp
  · rw [hb.2.2 r' hr'] at hbit
    have hbit2 : z.testBit r' = true := by simpa [hrr] using hbit
    obtain ⟨hbd, hv⟩ := h r' hr' hbit2
    have e2 : ∀ j, 9 ≤ j → j < 29 → s_lr lo' r' j = s_lr lo r' j := fun j h1 h2 => hlo2 _ (by rintro ⟨q1, q2⟩; omega)
    have hbd' : s_lr lo' r' 9 ≤ 8 ∧ s_lr lo' r' 20 ≤ 4 := by rw [e2 9 (by omega) (by omega), e2 20 (by omega) (by omega)]; exact hbd
    refine ⟨hbd', fun p hp => ?_⟩
    have hkk := hk (1681 * r' + p) (by omega)
    rw [s_V_congr e2 hbd' hp, s_S_congr e2 hbd' hp, hkk.1, hkk.2]
    exact hv p hp
theorem q_fillA {f h f0 : Nat → Nat} {a p x : Nat} (hf : ∀ j, j < p → f (a + j) = h j) (hx : x = h p) : ∀ j, j < p + 1 → va_up f (a + p) x (a + j) = h j := by
  intro j hj
  by_cases e : j = p
  · subst e; simp [va_up, hx]
  · simp only [va_up, if_neg (show a + j ≠ a + p by omega)]; exact hf j (by omega)
theorem q_outA {f f0 : Nat → Nat} {P : Nat → Prop} {i x : Nat} (hf : ∀ j, P j → f j = f0 j) (hi : ¬ P i) : ∀ j, P j → va_up f i x j = f0 j := by
  intro j hj
  simp only [va_up, if_neg (show j ≠ i from fun e => hi (e ▸ hj))]
  exact hf j hj
end
