/-! BARRED MOVES: one more, one less, and what is allowed then -/
section
def x_bdd (u : Nat → Nat) : Prop := ∀ i j : Nat, i < j → j < u 20 → ¬ (u (21 + 2 * i) = u (21 + 2 * j) ∧ u (21 + 2 * i + 1) = u (21 + 2 * j + 1))
theorem x_barred_iff {u : Nat → Nat} {k l : Nat} : s_barred u k l = true ↔ ∃ i : Nat, i < u 20 ∧ u (21 + 2 * i) = k ∧ u (21 + 2 * i + 1) = l := by
  unfold s_barred s_bar
  show s_any (s_barp u k l) (u 20) = true ↔ _
  rw [s_any_iff]
  constructor
  · rintro ⟨i, h1, h2⟩
    unfold s_barp at h2
    rw [Bool.and_eq_true, beq_iff_eq, beq_iff_eq] at h2
    exact ⟨i, h1, h2.1, h2.2⟩
  · rintro ⟨i, h1, h2, h3⟩
    refine ⟨i, h1, ?_⟩
    unfold s_barp
    rw [Bool.and_eq_true, beq_iff_eq, beq_iff_eq]
    exact ⟨h2, h3⟩
theorem x_bar_at {u : Nat → Nat} {k l : Nat} (h : s_barred u k l = true) : s_bar u k l < u 20 ∧ u (21 + 2 * s_bar u k l) = k ∧ u (21 + 2 * s_bar u k l + 1) = l := by
  have h1 : s_bar u k l < u 20 := of_decide_eq_true h
  have h2 := s_first_yes (s_barp u k l) (u 20) h1
  unfold s_barp at h2
  rw [Bool.and_eq_true, beq_iff_eq, beq_iff_eq] at h2
  exact ⟨h1, h2.1, h2.2⟩
def x_fb (u : Nat → Nat) (k l : Nat) : Prop := ¬ u 19 < max k l ∧ ¬ ((k = 0 ∨ l = 0) ∧ 0 < u 9 ∧ s_only u (k + l) = false) ∧ ¬ ((0 < k ∧ 0 < l) ∧ u 18 ≤ s_dist k l)
theorem x_forb_iff {u : Nat → Nat} {k l : Nat} : (s_forb u k l = 0 ↔ x_fb u k l ∧ s_barred u k l = false) ∧ (s_forb u k l = 7 ↔ x_fb u k l ∧ s_barred u k l = true) := by
  unfold s_forb x_fb
  by_cases h1 : u 19 < max k l
  · rw [if_pos h1]; exact ⟨⟨fun h => absurd h (by decide), fun h => absurd h1 h.1.1⟩, ⟨fun h => absurd h (by decide), fun h => absurd h1 h.1.1⟩⟩
  · rw [if_neg h1]
    by_cases h2 : (k = 0 ∨ l = 0) ∧ 0 < u 9 ∧ s_only u (k + l) = false
    · rw [if_pos h2]; exact ⟨⟨fun h => absurd h (by decide), fun h => absurd h2 h.1.2.1⟩, ⟨fun h => absurd h (by decide), fun h => absurd h2 h.1.2.1⟩⟩
    · rw [if_neg h2]
      by_cases h3 : (0 < k ∧ 0 < l) ∧ u 18 ≤ s_dist k l
      · rw [if_pos h3]; exact ⟨⟨fun h => absurd h (by decide), fun h => absurd h3 h.1.2.2⟩, ⟨fun h => absurd h (by decide), fun h => absurd h3 h.1.2.2⟩⟩
      · rw [if_neg h3]
        by_cases h4 : s_barred u k l = true
        · rw [if_pos h4, h4]; exact ⟨⟨fun h => absurd h (by decide), fun h => absurd h.2 (by decide)⟩, ⟨fun _ => ⟨⟨h1, h2, h3⟩, rfl⟩, fun _ => rfl⟩⟩
        · rw [if_neg h4]
          have h5 : s_barred u k l = false := by cases hh : s_barred u k l with
            | true => exact absurd hh h4
            | false => rfl
          rw [h5]; exact ⟨⟨fun _ => ⟨⟨h1, h2, h3⟩, rfl⟩, fun _ => rfl⟩, ⟨fun h => absurd h (by decide), fun h => absurd h.2 (by decide)⟩⟩
theorem x_al_iff {u : Nat → Nat} {k l : Nat} : s_al u k l = true ↔ 0 < k + l ∧ x_fb u k l ∧ s_barred u k l = false := by
  unfold s_al
  rw [decide_eq_true_eq, x_forb_iff.1]
theorem x_alB_iff {u : Nat → Nat} {k l : Nat} : s_alB u k l = true ↔ x_fb u k l := by
  unfold s_alB
  rw [Bool.or_eq_true, beq_iff_eq, beq_iff_eq, x_forb_iff.1, x_forb_iff.2]
  constructor
  · rintro (h | h)
    · exact h.1
    · exact h.1
  · intro h
    cases hb : s_barred u k l with
    | true => exact Or.inr ⟨h, rfl⟩
    | false => exact Or.inl ⟨h, rfl⟩
theorem x_fb_congr {u w : Nat → Nat} {k l : Nat} (h9 : u 9 ≤ 8) (e : ∀ j : Nat, 9 ≤ j → j < 20 → w j = u j) : x_fb w k l ↔ x_fb u k l := by
  have ho : s_only w (k + l) = s_only u (k + l) := by
    rw [Bool.eq_iff_iff, x_only_iff, x_only_iff, e 9 (by decide) (by decide)]
    constructor
    · rintro ⟨i, h1, h2⟩; exact ⟨i, h1, by rw [← e (10 + i) (by omega) (by omega)]; exact h2⟩
    · rintro ⟨i, h1, h2⟩; exact ⟨i, h1, by rw [e (10 + i) (by omega) (by omega)]; exact h2⟩
  unfold x_fb
  rw [ho, e 9 (by decide) (by decide), e 18 (by decide) (by decide), e 19 (by decide) (by decide)]
/-- w is u with one more barred move -/
def x_isA (u w : Nat → Nat) (a b : Nat) : Prop := w 20 = u 20 + 1 ∧ (∀ j : Nat, 9 ≤ j → j < 20 → w j = u j) ∧ (∀ j : Nat, j < 2 * u 20 → w (21 + j) = u (21 + j)) ∧ w (21 + 2 * u 20) = a ∧ w (21 + 2 * u 20 + 1) = b
/-- w is u without its barred move i0 -/
def x_isD (u w : Nat → Nat) (i0 : Nat) : Prop := w 20 + 1 = u 20 ∧ (∀ j : Nat, 9 ≤ j → j < 20 → w j = u j) ∧ (∀ j : Nat, j < 2 * w 20 → w (21 + j) = if j < 2 * i0 then u (21 + j) else u (21 + (j + 2)))
section
variable {u w : Nat → Nat} {a b i0 : Nat}
theorem x_isA_barred (h : x_isA u w a b) (k l : Nat) : s_barred w k l = true ↔ s_barred u k l = true ∨ (k = a ∧ l = b) := by
  obtain ⟨h20, h9, h21, ha, hb⟩ := h
  rw [x_barred_iff, x_barred_iff]
  constructor
  · rintro ⟨i, h1, h2, h3⟩
    by_cases hi : i < u 20
    · refine Or.inl ⟨i, hi, ?_, ?_⟩
      · rw [← h21 (2 * i) (by omega)]; exact h2
      · rw [show 21 + 2 * i + 1 = 21 + (2 * i + 1) by omega, ← h21 (2 * i + 1) (by omega)]; exact h3
    · have e : i = u 20 := by omega
      subst e
      exact Or.inr ⟨h2.symm.trans ha, h3.symm.trans hb⟩
  · rintro (⟨i, h1, h2, h3⟩ | ⟨h2, h3⟩)
    · exact ⟨i, by omega, by rw [h21 (2 * i) (by omega)]; exact h2, by rw [show 21 + 2 * i + 1 = 21 + (2 * i + 1) by omega, h21 (2 * i + 1) (by omega)]; exact h3⟩
    · exact ⟨u 20, by omega, ha.trans h2.symm, hb.trans h3.symm⟩
theorem x_isD_barred (h : x_isD u w i0) (hi0 : i0 < u 20) (hd : x_bdd u) (ha : u (21 + 2 * i0) = a) (hb : u (21 + 2 * i0 + 1) = b) (k l : Nat) : s_barred w k l = true ↔ s_barred u k l = true ∧ ¬ (k = a ∧ l = b) := by
  obtain ⟨h20, h9, h21⟩ := h
  rw [x_barred_iff, x_barred_iff]
  have hw : ∀ i : Nat, i < w 20 → ∃ q : Nat, q < u 20 ∧ q ≠ i0 ∧ w (21 + 2 * i) = u (21 + 2 * q) ∧ w (21 + 2 * i + 1) = u (21 + 2 * q + 1) := by
    intro i hi
    have e1 := h21 (2 * i) (by omega)
    have e2 := h21 (2 * i + 1) (by omega)
    rw [← Nat.add_assoc] at e2
    by_cases hlt : i < i0
    · rw [if_pos (by omega)] at e1 e2
      exact ⟨i, by omega, by omega, e1, e2⟩
    · rw [if_neg (by omega)] at e1 e2
      exact ⟨i + 1, by omega, by omega, by rw [e1]; rfl, by rw [e2]; rfl⟩
  constructor
  · rintro ⟨i, h1, h2, h3⟩
    obtain ⟨q, hq1, hq2, hq3, hq4⟩ := hw i h1
    refine ⟨⟨q, hq1, hq3.symm.trans h2, hq4.symm.trans h3⟩, ?_⟩
    rintro ⟨rfl, rfl⟩
    rcases Nat.lt_or_gt_of_ne hq2 with hlt | hlt
    · exact hd q i0 hlt hi0 ⟨hq3.symm.trans (h2.trans ha.symm), hq4.symm.trans (h3.trans hb.symm)⟩
    · exact hd i0 q hlt hq1 ⟨ha.trans (h2.symm.trans hq3), hb.trans (h3.symm.trans hq4)⟩
  · rintro ⟨⟨q, h1, h2, h3⟩, hne⟩
    have hq0 : q ≠ i0 := by
      rintro rfl
      exact hne ⟨h2.symm.trans ha, h3.symm.trans hb⟩
    by_cases hlt : q < i0
    · have e1 := h21 (2 * q) (by omega)
      have e2 := h21 (2 * q + 1) (by omega)
      rw [if_pos (by omega)] at e1 e2
      rw [← Nat.add_assoc] at e2
      exact ⟨q, by omega, e1.trans h2, e2.trans h3⟩
    · have e1 := h21 (2 * (q - 1)) (by omega)
      have e2 := h21 (2 * (q - 1) + 1) (by omega)
      rw [if_neg (by omega), show 2 * (q - 1) + 2 = 2 * q by omega] at e1
      rw [if_neg (by omega), show 21 + (2 * (q - 1) + 1 + 2) = 21 + 2 * q + 1 by omega, ← Nat.add_assoc] at e2
      exact ⟨q - 1, by omega, e1.trans h2, e2.trans h3⟩
theorem x_isA_A (h : x_isA u w a b) (h9 : u 9 ≤ 8) (hb : b ≤ 40) (hn : s_barred u a b = false) : s_A w = s_A2 u a b := by
  funext q
  have hbr := x_isA_barred h
  rw [Bool.eq_iff_iff]
  unfold s_A2 s_A
  by_cases hq : q = 41 * a + b
  · rw [if_pos hq, hn, Bool.false_and, show q / 41 = a by omega, show q % 41 = b by omega, x_al_iff]
    constructor
    · rintro ⟨-, -, h3⟩
      rw [(hbr a b).mpr (Or.inr ⟨rfl, rfl⟩)] at h3; cases h3
    · intro h; cases h
  · rw [if_neg hq, x_al_iff, x_al_iff, x_fb_congr h9 h.2.1]
    have e : s_barred w (q / 41) (q % 41) = s_barred u (q / 41) (q % 41) := by
      rw [Bool.eq_iff_iff, hbr]
      constructor
      · rintro (h | ⟨h1, h2⟩)
        · exact h
        · exact absurd (show q = 41 * a + b by omega) hq
      · exact Or.inl
    rw [e]
theorem x_isD_A (h : x_isD u w i0) (h9 : u 9 ≤ 8) (hb : b ≤ 40) (hab : 0 < a + b) (hi0 : i0 < u 20) (hd : x_bdd u) (ha0 : u (21 + 2 * i0) = a) (hb0 : u (21 + 2 * i0 + 1) = b) : s_A w = s_A2 u a b := by
  funext q
  have hbr := x_isD_barred h hi0 hd ha0 hb0
  have hn : s_barred u a b = true := x_barred_iff.mpr ⟨i0, hi0, ha0, hb0⟩
  rw [Bool.eq_iff_iff]
  unfold s_A2 s_A
  by_cases hq : q = 41 * a + b
  · rw [if_pos hq, hn, Bool.true_and, show q / 41 = a by omega, show q % 41 = b by omega, x_al_iff, x_alB_iff, x_fb_congr h9 h.2.1]
    constructor
    · exact fun h => h.2.1
    · intro hf
      refine ⟨hab, hf, ?_⟩
      cases hh : s_barred w a b with
      | false => rfl
      | true => exact absurd ⟨rfl, rfl⟩ ((hbr a b).mp hh).2
  · rw [if_neg hq, x_al_iff, x_al_iff, x_fb_congr h9 h.2.1]
    have e : s_barred w (q / 41) (q % 41) = s_barred u (q / 41) (q % 41) := by
      rw [Bool.eq_iff_iff, hbr]
      constructor
      · exact fun h => h.1
      · exact fun h => ⟨h, fun ⟨h1, h2⟩ => hq (by omega)⟩
    rw [e]
theorem x_isA_bdd (h : x_isA u w a b) (hn : s_barred u a b = false) (hd : x_bdd u) : x_bdd w := by
  obtain ⟨h20, h9, h21, ha, hb⟩ := h
  intro i j hij hj
  have e : ∀ q : Nat, q < u 20 → w (21 + 2 * q) = u (21 + 2 * q) ∧ w (21 + 2 * q + 1) = u (21 + 2 * q + 1) := fun q hq => ⟨h21 (2 * q) (by omega), h21 (2 * q + 1) (by omega)⟩
  rw [(e i (by omega)).1, (e i (by omega)).2]
  by_cases hj2 : j < u 20
  · rw [(e j hj2).1, (e j hj2).2]; exact hd i j hij hj2
  · rw [show j = u 20 by omega, ha, hb]
    rintro ⟨h1, h2⟩
    rw [x_barred_iff.mpr ⟨i, by omega, h1, h2⟩] at hn; cases hn
theorem x_isD_bdd (h : x_isD u w i0) (hi0 : i0 < u 20) (hd : x_bdd u) : x_bdd w := by
  obtain ⟨h20, h9, h21⟩ := h
  intro i j hij hj
  have e : ∀ q : Nat, q < w 20 → w (21 + 2 * q) = u (21 + 2 * (if q < i0 then q else q + 1)) ∧ w (21 + 2 * q + 1) = u (21 + 2 * (if q < i0 then q else q + 1) + 1) := fun q hq => by
    have e1 := h21 (2 * q) (by omega)
    have e2 := h21 (2 * q + 1) (by omega)
    by_cases hlt : q < i0
    · rw [if_pos (by omega)] at e1 e2; rw [if_pos hlt]; exact ⟨e1, e2⟩
    · rw [if_neg (by omega)] at e1 e2; rw [if_neg hlt]; exact ⟨e1, e2⟩
  rw [(e i (by omega)).1, (e i (by omega)).2, (e j hj).1, (e j hj).2]
  refine hd _ _ ?_ ?_
  · split <;> split <;> omega
  · split <;> omega
theorem x_isA_on {on : Nat} (h : x_isA u w a b) (h9 : u 9 ≤ 8) (ho : x_on u on) : x_on w on := x_on_congr (fun j h1 h2 => h.2.1 j h1 (by omega)) h9 ho
theorem x_isD_on {on : Nat} (h : x_isD u w i0) (h9 : u 9 ≤ 8) (ho : x_on u on) : x_on w on := x_on_congr (fun j h1 h2 => h.2.1 j h1 (by omega)) h9 ho
theorem x_isA_bm {bm : Nat → Nat} (h : x_isA u w a b) (hm : x_bm u bm) : x_bm w (va_up bm (u 20) (a * 41 + b)) := by
  obtain ⟨h20, h9, h21, ha, hb⟩ := h
  intro i hi
  by_cases hlt : i < u 20
  · rw [va_up_off (by omega), h21 (2 * i) (by omega), show 21 + 2 * i + 1 = 21 + (2 * i + 1) by omega, h21 (2 * i + 1) (by omega)]
    exact hm i hlt
  · rw [show i = u 20 by omega, va_up_at, ha, hb]; omega
theorem x_isD_bm {bm : Nat → Nat} (h : x_isD u w i0) (hm : x_bm u bm) : x_bm w (x_shl bm i0 (u 20 - 1)) := by
  obtain ⟨h20, h9, h21⟩ := h
  intro i hi
  have e1 := h21 (2 * i) (by omega)
  have e2 := h21 (2 * i + 1) (by omega)
  rw [← Nat.add_assoc] at e2
  rw [x_shl_i]
  by_cases hlt : i < i0
  · rw [if_pos (by omega)] at e1 e2
    rw [if_neg (by omega), e1, e2]; exact hm i (by omega)
  · rw [if_neg (by omega)] at e1 e2
    rw [if_pos (by omega), e1, e2]
    have := hm (i + 1) (by omega)
    rw [show 2 * (i + 1) = 2 * i + 2 by omega] at this
    rw [this]; rfl
theorem x_isA_w (h : x_isA u w a b) (h20 : u 20 < 5) (ha : a ≤ 40) (hb : b ≤ 40) (hw : x_w u) : x_w w := by
  obtain ⟨w9, w18, w19, w20, wo, wb⟩ := hw
  obtain ⟨h20', h9, h21, ha', hb'⟩ := h
  refine ⟨by rw [h9 9 (by decide) (by decide)]; exact w9, by rw [h9 18 (by decide) (by decide)]; exact w18, by rw [h9 19 (by decide) (by decide)]; exact w19, by omega, fun i hi => ?_, fun i hi => ?_⟩
  · rw [h9 (10 + i) (by omega) (by omega)]; exact wo i hi
  · by_cases h1 : i < 2 * u 20
    · rw [h21 i h1]; exact wb i h1
    · by_cases h2 : i = 2 * u 20
      · rw [h2, ha']; exact ha
      · rw [show 21 + i = 21 + 2 * u 20 + 1 by omega, hb']; exact hb
theorem x_isD_w (h : x_isD u w i0) (hw : x_w u) : x_w w := by
  obtain ⟨w9, w18, w19, w20, wo, wb⟩ := hw
  obtain ⟨h20', h9, h21⟩ := h
  refine ⟨by rw [h9 9 (by decide) (by decide)]; exact w9, by rw [h9 18 (by decide) (by decide)]; exact w18, by rw [h9 19 (by decide) (by decide)]; exact w19, by omega, fun i hi => ?_, fun i hi => ?_⟩
  · rw [h9 (10 + i) (by omega) (by omega)]; exact wo i hi
  · rw [h21 i hi]
    split
    · exact wb i (by omega)
    · exact wb (i + 2) (by omega)
end
/-- such rows are there -/
def x_uA (u : Nat → Nat) (a b : Nat) : Nat → Nat := fun j => if j = 20 then u 20 + 1 else if j = 21 + 2 * u 20 then a else if j = 21 + 2 * u 20 + 1 then b else u j
def x_uD (u : Nat → Nat) (i0 : Nat) : Nat → Nat := fun j => if j = 20 then u 20 - 1 else if 21 + 2 * i0 ≤ j then u (j + 2) else u j
theorem x_uA_is (u : Nat → Nat) (a b : Nat) : x_isA u (x_uA u a b) a b := by
  refine ⟨rfl, fun j h1 h2 => ?_, fun j hj => ?_, ?_, ?_⟩ <;> unfold x_uA
  · rw [if_neg (by omega), if_neg (by omega), if_neg (by omega)]
  · rw [if_neg (by omega), if_neg (by omega), if_neg (by omega)]
  · rw [if_neg (by omega), if_pos rfl]
  · rw [if_neg (by omega), if_neg (by omega), if_pos rfl]
theorem x_uD_is {u : Nat → Nat} {i0 : Nat} (h : i0 < u 20) : x_isD u (x_uD u i0) i0 := by
  have e20 : x_uD u i0 20 = u 20 - 1 := rfl
  refine ⟨by omega, fun j h1 h2 => ?_, fun j hj => ?_⟩
  · unfold x_uD; rw [if_neg (by omega), if_neg (by omega)]
  · unfold x_uD; rw [if_neg (by omega)]
    by_cases hlt : j < 2 * i0
    · rw [if_neg (by omega), if_pos hlt]
    · rw [if_pos (by omega), if_neg hlt]; rfl
end
