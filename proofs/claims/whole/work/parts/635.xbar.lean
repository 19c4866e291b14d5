/-! ONE BAR MORE OR LESS in a game -/
section
theorem x_addBr_isA {g : Nat → Nat} {r k l : Nat} (hb : s_rule g r 20 < 4) : x_isA (s_rule g r) (s_rule (s_addBr g r k l) r) k l ∧ ∀ j : Nat, j < 9 → s_rule (s_addBr g r k l) r j = s_rule g r j := by
  have e := fun j hj => s_addBr_at g r k l j hb hj
  refine ⟨⟨?_, fun j h1 h2 => ?_, fun j hj => ?_, ?_, ?_⟩, fun j hj => ?_⟩
  · rw [e _ (by omega), if_pos rfl]
  · rw [e _ (by omega), if_neg (by omega), if_neg (by omega), if_neg (by omega)]
  · rw [e _ (by omega), if_neg (by omega), if_neg (by omega), if_neg (by omega)]
  · rw [e _ (by omega), if_neg (by omega), if_neg (by omega), if_pos rfl]
  · rw [e _ (by omega), if_neg (by omega), if_pos rfl]
  · rw [e _ (by omega), if_neg (by omega), if_neg (by omega), if_neg (by omega)]
theorem x_addBr_sm {g : Nat → Nat} {r k l : Nat} (hb : s_rule g r 20 < 4) (j : Nat) (hj : j < 17 + 29 * r ∨ 17 + 29 * r + 29 ≤ j) : s_addBr g r k l j = g j := by
  unfold s_addBr s_rset
  rw [va_up_off (by omega), va_up_off (by omega), va_up_off (by omega)]
theorem x_addBr_wf {g : Nat → Nat} {r k l : Nat} (hb : s_rule g r 20 < 4) (hk : k ≤ 40) (hl : l ≤ 40) (h : s_rwf (s_rule g r)) : s_rwf (s_rule (s_addBr g r k l) r) := by
  have e := fun j hj => s_addBr_at g r k l j hb hj
  obtain ⟨h0, h9, h18, h19, h20, ho, hbb⟩ := h
  refine ⟨?_, ?_, ?_, ?_, ?_, fun i hi => ?_, fun i hi => ?_⟩
  · rw [e _ (by omega), if_neg (by omega), if_neg (by omega), if_neg (by omega)]; exact h0
  · rw [e _ (by omega), if_neg (by omega), if_neg (by omega), if_neg (by omega)]; exact h9
  · rw [e _ (by omega), if_neg (by omega), if_neg (by omega), if_neg (by omega)]; exact h18
  · rw [e _ (by omega), if_neg (by omega), if_neg (by omega), if_neg (by omega)]; exact h19
  · rw [e _ (by omega), if_pos rfl]; omega
  · rw [e _ (by omega), if_neg (by omega), if_neg (by omega), if_neg (by omega)]; exact ho i hi
  · rw [e _ (by omega), if_neg (by omega)]
    split
    · exact hl
    · split
      · exact hk
      · exact hbb i hi
theorem x_dropB_at {g : Nat → Nat} {r i j : Nat} (hj : j < 29) : s_rule (s_dropB g r i) r j = if j = 20 then s_rule g r 20 - 1 else if j = 21 + 2 * (s_rule g r 20 - 1) + 1 then 0 else if j = 21 + 2 * (s_rule g r 20 - 1) then 0 else if 21 + 2 * i ≤ j ∧ j < 21 + 2 * (s_rule g r 20 - 1) then s_rule g r (j + 2) else s_rule g r j := by
  show s_dropB g r i (17 + 29 * r + j) = _
  unfold s_dropB
  by_cases c1 : j = 20
  · rw [if_pos c1, c1, va_up_at]
  · rw [if_neg c1, va_up_off (by omega)]
    by_cases c2 : j = 21 + 2 * (s_rule g r 20 - 1) + 1
    · rw [if_pos c2, ← c2, va_up_at]
    · rw [if_neg c2, va_up_off (by omega)]
      by_cases c3 : j = 21 + 2 * (s_rule g r 20 - 1)
      · rw [if_pos c3, ← c3, va_up_at]
      · rw [if_neg c3, va_up_off (by omega), s_dsh_i]
        by_cases c4 : 21 + 2 * i ≤ j ∧ j < 21 + 2 * (s_rule g r 20 - 1)
        · rw [if_pos c4, if_pos (by omega)]; rfl
        · rw [if_neg c4, if_neg (by omega)]; rfl
theorem x_dropB_isD {g : Nat → Nat} {r i : Nat} (h4 : s_rule g r 20 ≤ 4) (hi : i < s_rule g r 20) : x_isD (s_rule g r) (s_rule (s_dropB g r i) r) i ∧ ∀ j : Nat, j < 9 → s_rule (s_dropB g r i) r j = s_rule g r j := by
  have e := fun j hj => x_dropB_at (g := g) (r := r) (i := i) (j := j) hj
  have e20 : s_rule (s_dropB g r i) r 20 = s_rule g r 20 - 1 := by rw [e _ (by omega), if_pos rfl]
  refine ⟨⟨by omega, fun j h1 h2 => ?_, fun j hj => ?_⟩, fun j hj => ?_⟩
  · rw [e _ (by omega), if_neg (by omega), if_neg (by omega), if_neg (by omega), if_neg (by omega)]
  · rw [e _ (by omega), if_neg (by omega), if_neg (by omega), if_neg (by omega)]
    by_cases c : j < 2 * i
    · rw [if_neg (by omega), if_pos c]
    · rw [if_pos (by omega), if_neg c]; rfl
  · rw [e _ (by omega), if_neg (by omega), if_neg (by omega), if_neg (by omega), if_neg (by omega)]
theorem x_dropB_sm {g : Nat → Nat} {r i : Nat} (h4 : s_rule g r 20 ≤ 4) (h1 : 1 ≤ s_rule g r 20) (j : Nat) (hj : j < 17 + 29 * r ∨ 17 + 29 * r + 29 ≤ j) : s_dropB g r i j = g j := by
  unfold s_dropB
  rw [va_up_off (by omega), va_up_off (by omega), va_up_off (by omega), s_dsh_i, if_neg (by omega)]
theorem x_dropB_wf {g : Nat → Nat} {r i : Nat} (h : s_rwf (s_rule g r)) (hi : i < s_rule g r 20) : s_rwf (s_rule (s_dropB g r i) r) := by
  have e := fun j hj => x_dropB_at (g := g) (r := r) (i := i) (j := j) hj
  obtain ⟨h0, h9, h18, h19, h20, ho, hbb⟩ := h
  refine ⟨?_, ?_, ?_, ?_, ?_, fun q hq => ?_, fun q hq => ?_⟩
  · rw [e _ (by omega), if_neg (by omega), if_neg (by omega), if_neg (by omega), if_neg (by omega)]; exact h0
  · rw [e _ (by omega), if_neg (by omega), if_neg (by omega), if_neg (by omega), if_neg (by omega)]; exact h9
  · rw [e _ (by omega), if_neg (by omega), if_neg (by omega), if_neg (by omega), if_neg (by omega)]; exact h18
  · rw [e _ (by omega), if_neg (by omega), if_neg (by omega), if_neg (by omega), if_neg (by omega)]; exact h19
  · rw [e _ (by omega), if_pos rfl]; omega
  · rw [e _ (by omega), if_neg (by omega), if_neg (by omega), if_neg (by omega), if_neg (by omega)]; exact ho q hq
  · rw [e _ (by omega), if_neg (by omega)]
    by_cases c2 : 21 + q = 21 + 2 * (s_rule g r 20 - 1) + 1
    · rw [if_pos c2]; exact Nat.zero_le _
    · rw [if_neg c2]
      by_cases c3 : 21 + q = 21 + 2 * (s_rule g r 20 - 1)
      · rw [if_pos c3]; exact Nat.zero_le _
      · rw [if_neg c3]
        by_cases c4 : 21 + 2 * i ≤ 21 + q ∧ 21 + q < 21 + 2 * (s_rule g r 20 - 1)
        · rw [if_pos c4]; exact hbb (q + 2) (by omega)
        · rw [if_neg c4]; exact hbb q hq
/-- what a row's letters, only and limits tell stays -/
theorem x_rr_bar {u w : Nat → Nat} {nm on sl mo nb : Nat} {bm bm' : Nat → Nat} (e0 : ∀ j : Nat, j < 9 → w j = u j) (e9 : ∀ j : Nat, 9 ≤ j → j < 20 → w j = u j) (hu : s_rwf u) (hb : x_bm w bm') (h : x_rr u nm on sl mo nb bm) : x_rr w nm on sl mo (w 20) bm' := by
  obtain ⟨⟨⟨n1, n2⟩, n3⟩, ho, ⟨s1, s2⟩, rfl, rfl, rfl, -⟩ := h
  have w0 := hu.1
  have w9 := hu.2.1
  have z0 := e0 0 (by decide)
  have z9 := e9 9 (by decide) (by decide)
  refine ⟨⟨⟨by omega, fun k hk => ?_⟩, ?_⟩, x_on_congr (fun j h1 h2 => e9 j h1 (by omega)) w9 ho, ⟨fun i hi => ?_, fun i j h1 h2 => ?_⟩, (e9 18 (by decide) (by decide)).symm, (e9 19 (by decide) (by decide)).symm, rfl, hb⟩
  · rw [e0 (1 + k) (by omega)]; exact n2 k (by omega)
  · rw [n3, z0]; exact x_pk_congr _ (fun j hj => (e0 (1 + j) (by omega)).symm)
  · rw [e9 (10 + i) (by omega) (by omega)]; exact s1 i (by omega)
  · rw [e9 (10 + i) (by omega) (by omega), e9 (10 + j) (by omega) (by omega)]; exact s2 i j h1 (by omega)
end
