section
theorem x_oP_iff {u : Nat → Nat} {on q : Nat} (ho : x_on u on) (hs : x_os u) (hq : q ≤ 40) : x_oP on q = true ↔ ∃ i : Nat, i < u 9 ∧ u (10 + i) = q := by
  unfold x_oP
  rw [Bool.and_eq_true, decide_eq_true_eq, ho.2.1 q hq, x_only_iff]
  constructor
  · rintro ⟨-, h⟩; exact h
  · rintro ⟨i, h1, h2⟩; exact ⟨by have := (hs.1 i h1).1; omega, i, h1, h2⟩
theorem x_oc_at {u : Nat → Nat} {on : Nat} (ho : x_on u on) (hs : x_os u) : ∀ i : Nat, i < u 9 → x_oc on (u (10 + i)) = i
  | 0, h => by
    unfold x_oc
    rw [x_cnt_skip (m := 0) (u (10 + 0)) (Nat.zero_le _) (fun q _ h2 => ?_)]
    · rfl
    · refine Bool.eq_false_iff.mpr (fun z => ?_)
      have h40 := (hs.1 0 h).2
      obtain ⟨j, h3, h4⟩ := (x_oP_iff ho hs (by omega)).mp z
      by_cases e : j = 0
      · rw [e] at h4; omega
      · have := hs.2 0 j (by omega) h3; omega
  | i + 1, h => by
    have ih := x_oc_at ho hs i (by omega)
    have h1 := hs.2 i (i + 1) (by omega) h
    have h40 := (hs.1 (i + 1) h).2
    have hp : x_oP on (u (10 + i)) = true := (x_oP_iff ho hs (by omega)).mpr ⟨i, by omega, rfl⟩
    unfold x_oc at ih ⊢
    rw [x_cnt_skip (m := u (10 + i) + 1) (u (10 + (i + 1))) (by omega) (fun q h2 h3 => ?_), s_cnt_t hp, ih]
    refine Bool.eq_false_iff.mpr (fun z => ?_)
    obtain ⟨j, h4, h5⟩ := (x_oP_iff ho hs (by omega)).mp z
    rcases Nat.lt_trichotomy j (i + 1) with hj | hj | hj
    · by_cases e : j = i
      · rw [e] at h5; omega
      · have := hs.2 j i (by omega) (by omega); omega
    · rw [hj] at h5; omega
    · have := hs.2 (i + 1) j hj h4; omega
theorem x_oc_all {u : Nat → Nat} {on : Nat} (ho : x_on u on) (hs : x_os u) : x_oc on 41 = u 9 := by
  by_cases h0 : u 9 = 0
  · unfold x_oc
    rw [x_cnt_skip (m := 0) 41 (Nat.zero_le _) (fun q _ h2 => ?_), h0]
    · rfl
    · refine Bool.eq_false_iff.mpr (fun z => ?_)
      obtain ⟨j, h3, -⟩ := (x_oP_iff ho hs (by omega)).mp z
      omega
  · have ih := x_oc_at ho hs (u 9 - 1) (by omega)
    have h40 := (hs.1 (u 9 - 1) (by omega)).2
    have hp : x_oP on (u (10 + (u 9 - 1))) = true := (x_oP_iff ho hs (by omega)).mpr ⟨u 9 - 1, by omega, rfl⟩
    unfold x_oc at ih ⊢
    rw [x_cnt_skip (m := u (10 + (u 9 - 1)) + 1) 41 (by omega) (fun q h2 h3 => ?_), s_cnt_t hp, ih]
    · omega
    · refine Bool.eq_false_iff.mpr (fun z => ?_)
      obtain ⟨j, h4, h5⟩ := (x_oP_iff ho hs (by omega)).mp z
      by_cases e : j = u 9 - 1
      · rw [e] at h5; omega
      · have := hs.2 j (u 9 - 1) (by omega) (by omega); omega
/-- the one that stands at a place -/
theorem x_on_i {u : Nat → Nat} {on q : Nat} (ho : x_on u on) (hs : x_os u) (h1 : 1 ≤ q) (h2 : q ≤ 40) (hb : on.testBit q = true) : x_oc on q < u 9 ∧ u (10 + x_oc on q) = q := by
  have hp : x_oP on q = true := by unfold x_oP; rw [decide_eq_true h1, hb]; rfl
  obtain ⟨i, h3, h4⟩ := (x_oP_iff ho hs h2).mp hp
  have h5 := x_oc_at ho hs i h3
  rw [h4] at h5
  rw [h5]; exact ⟨h3, h4⟩
end
