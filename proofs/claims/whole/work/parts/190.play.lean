section
theorem s_ok_t {g : Nat → Nat} {p k l : Nat} {w : Bool} (h : s_ref g p k l = 0) (h2 : w = false ∨ s_pv g p k l = (s_tot g ^^^ s_pv g p 0 0)) : s_ok g p w k l = true := by
  unfold s_ok
  rw [h]
  rcases h2 with h2 | h2 <;> simp [h2]
theorem s_ok_f1 {g : Nat → Nat} {p k l : Nat} {w : Bool} (h : ¬ s_ref g p k l = 0) : s_ok g p w k l = false := by unfold s_ok; simp [h]
theorem s_ok_f2 {g : Nat → Nat} {p k l : Nat} {w : Bool} (hw : w = true) (h : ¬ s_pv g p k l = (s_tot g ^^^ s_pv g p 0 0)) : s_ok g p w k l = false := by unfold s_ok; simp [h, hw]
theorem s_ok_ref {g : Nat → Nat} {p k l : Nat} {w : Bool} (h : s_ok g p w k l = true) : s_ref g p k l = 0 := by unfold s_ok at h; simp only [Bool.and_eq_true, beq_iff_eq] at h; exact h.1
theorem s_rest_lt {g : Nat → Nat} (h : s_gwf g) {p : Nat} (hp : p < s_np g) : s_tot g ^^^ s_pv g p 0 0 < 2048 := Nat.xor_lt_two_pow (n := 11) (s_tot_lt h) (s_pv_lt h hp 0 0)
theorem s_fk_eq {P : Nat → Nat → Bool} {K L k l : Nat} (hk : k < K) (hl : l < L) (hp : P k l = true) (h1 : ∀ k', k' < k → s_any (P k') L = false) (h2 : ∀ l', l' < l → P k l' = false) : s_fk P K L = k ∧ s_fl P K L = l := by
  have e : s_fk P K L = k := s_first_eq hk (s_any_t hl hp) h1
  exact ⟨e, by unfold s_fl; rw [e]; exact s_first_eq hl hp h2⟩
theorem s_any_f_iff {P : Nat → Bool} {n : Nat} (h : s_any P n = false) : ∀ k, k < n → P k = false := by
  intro k hk
  cases hp : P k with
  | false => rfl
  | true => rw [s_any_t hk hp] at h; cases h
theorem s_fk_ok {P : Nat → Nat → Bool} {K L : Nat} (h : s_any (fun k => s_any (P k) L) K = true) : s_fk P K L < K ∧ s_fl P K L < L ∧ P (s_fk P K L) (s_fl P K L) = true := by
  have h1 : s_fk P K L < K := of_decide_eq_true h
  have h2 : s_any (P (s_fk P K L)) L = true := s_first_yes (fun k => s_any (P k) L) K h1
  have h3 : s_fl P K L < L := of_decide_eq_true h2
  exact ⟨h1, h3, s_first_yes (P (s_fk P K L)) L h3⟩
theorem s_has_ok {g : Nat → Nat} {w : Bool} {p : Nat} (h : s_has g w p = true) : s_k1 g w p ≤ s_x g p ∧ s_l1 g w p ≤ s_y g p ∧ s_ok g p w (s_k1 g w p) (s_l1 g w p) = true := by
  obtain ⟨h1, h2, h3⟩ := s_fk_ok (P := s_ok g p w) h
  exact ⟨by unfold s_k1; omega, by unfold s_l1; omega, h3⟩
theorem s_hasAny_ok {g : Nat → Nat} {w : Bool} (h : s_hasAny g w = true) : s_p1 g w < s_np g ∧ s_has g w (s_p1 g w) = true := by
  have h1 : s_p1 g w < s_np g := of_decide_eq_true h
  exact ⟨h1, s_first_yes (s_has g w) (s_np g) h1⟩
/-- the advice is a move that can be made -/
theorem s_adv_ok {g : Nat → Nat} (h : s_adv g = true) : s_ap g < s_np g ∧ s_ak g ≤ s_x g (s_ap g) ∧ s_al2 g ≤ s_y g (s_ap g) ∧ s_ref g (s_ap g) (s_ak g) (s_al2 g) = 0 := by
  obtain ⟨h1, h2⟩ := s_hasAny_ok h
  obtain ⟨h3, h4, h5⟩ := s_has_ok h2
  exact ⟨h1, h3, h4, s_ok_ref h5⟩
/-- two games agree where rules, parts and what is checked lie -/
def s_ag (g h : Nat → Nat) : Prop := h 0 = g 0 ∧ h 1 = g 1 ∧ h 2 = g 2 ∧ ∀ j, 17 ≤ j → j < 165 → h j = g j
theorem s_ag_rule {g h : Nat → Nat} (e : s_ag g h) {r j : Nat} (hr : r < 4) (hj : j < 29) : s_rule h r j = s_rule g r j := e.2.2.2 _ (by omega) (by omega)
theorem s_rwf_congr {u w : Nat → Nat} (e : ∀ j, j < 29 → w j = u j) (h : s_rwf u) : s_rwf w := by
  obtain ⟨h0, h9, h18, h19, h20, ho, hb⟩ := h
  refine ⟨by rw [e 0 (by omega)]; exact h0, by rw [e 9 (by omega)]; exact h9, by rw [e 18 (by omega)]; exact h18, by rw [e 19 (by omega)]; exact h19, by rw [e 20 (by omega)]; exact h20, fun i hi => by rw [e _ (by omega)]; exact ho i hi, fun i hi => by rw [e _ (by omega)]; exact hb i hi⟩
theorem s_gwf_ag {g h : Nat → Nat} (e : s_ag g h) (h3 : h 3 ≤ 1) (h6 : h 6 ≤ 20) (w : s_gwf g) : s_gwf h := by
  obtain ⟨w0, w1, w2, -, -, wr, wb, ws⟩ := w
  refine ⟨by rw [e.1]; exact w0, by rw [e.2.1]; exact w1, by rw [e.2.2.1]; exact w2, h3, h6, fun r hr => ?_, fun b hb => ?_, fun s hs => ?_⟩
  · rw [e.1] at hr
    exact s_rwf_congr (fun j hj => s_ag_rule e (by omega) hj) (wr r hr)
  · rw [e.2.1] at hb
    rw [e.1, e.2.2.2 _ (by omega) (by omega), e.2.2.2 _ (by omega) (by omega), e.2.2.2 _ (by omega) (by omega), e.2.2.2 _ (by omega) (by omega), e.2.2.2 _ (by omega) (by omega)]
    exact wb b hb
  · rw [e.2.2.1] at hs
    rw [e.2.2.2 _ (by omega) (by omega), e.2.2.2 _ (by omega) (by omega), e.2.2.2 _ (by omega) (by omega)]
    exact ws s hs
/-- rules' values stay where rules stay -/
theorem s_CV_ag {g h va : Nat → Nat} (h0 : h 0 = g 0) (hr : ∀ j, 17 ≤ j → j < 133 → h j = g j) (w : s_gwf g) (hCV : ∀ r, r < g 0 → ∀ q, q < 1681 → va (1681 * r + q) = s_V (s_rule g r) q) : ∀ r, r < h 0 → ∀ q, q < 1681 → va (1681 * r + q) = s_V (s_rule h r) q := by
  intro r hr2 q hq
  rw [h0] at hr2
  have wr := w.2.2.2.2.2.1 r hr2
  have w0 := w.1
  rw [hCV r hr2 q hq]
  exact s_V_congr (fun j h1 h2 => (hr _ (by omega) (by omega)).symm) ⟨wr.2.1, wr.2.2.2.2.1⟩ hq
theorem s_grow_ag {g : Nat → Nat} {pl w x : Nat} (hp : pl ≤ 1) (hw : w ≤ 4) : s_ag g (s_grow g pl w x) := by
  have h : ∀ j, j < 7 ∨ 17 ≤ j → s_grow g pl w x j = g j := fun j hj => by unfold s_grow va_up; rw [if_neg (by omega)]
  exact ⟨h 0 (by omega), h 1 (by omega), h 2 (by omega), fun j h1 _ => h j (by omega)⟩
theorem s_grow_lo {g : Nat → Nat} {pl w x j : Nat} (hj : j < 7 ∨ 17 ≤ j) (hp : pl ≤ 1) (hw : w ≤ 4) : s_grow g pl w x j = g j := by unfold s_grow va_up; rw [if_neg (by omega)]
theorem s_gwf_grow {g : Nat → Nat} {pl w x : Nat} (hp : pl ≤ 1) (hw : w ≤ 4) (h : s_gwf g) : s_gwf (s_grow g pl w x) :=
  s_gwf_ag (s_grow_ag hp hw) (by rw [s_grow_lo (by omega) hp hw]; exact h.2.2.2.1) (by rw [s_grow_lo (by omega) hp hw]; exact h.2.2.2.2.1) h
theorem s_take_at {g : Nat → Nat} {p k l j : Nat} (hj : j < 133) : s_take g p k l j = g j := by
  unfold s_take
  split
  · unfold va_up; rw [if_neg (by omega), if_neg (by omega)]
  · unfold va_up; rw [if_neg (by omega)]
theorem s_take_hi {g : Nat → Nat} {p k l j : Nat} (h : s_gwf g) (hp : p < s_np g) (hj : 165 ≤ j) : s_take g p k l j = g j := by
  have h1 := h.2.1
  have h2 := h.2.2.1
  unfold s_np at hp
  unfold s_take
  split
  · unfold va_up; rw [if_neg (by omega), if_neg (by omega)]
  · unfold va_up; rw [if_neg (by omega)]
theorem va_up_le {g : Nat → Nat} {a x j : Nat} (h : x ≤ g a) : va_up g a x j ≤ g j := by
  unfold va_up
  by_cases e : j = a
  · rw [if_pos e, e]; exact h
  · rw [if_neg e]; exact Nat.le_refl _
theorem s_take_le {g : Nat → Nat} (p k l j : Nat) : s_take g p k l j ≤ g j := by
  unfold s_take
  by_cases h : p < g 1
  · rw [if_pos h]
    have e : va_up g (133 + 5 * p + 1) (g (133 + 5 * p + 1) - k) (133 + 5 * p + 2) = g (133 + 5 * p + 2) := by unfold va_up; rw [if_neg (by omega)]
    exact Nat.le_trans (va_up_le (by rw [e]; exact Nat.sub_le _ _)) (va_up_le (Nat.sub_le _ _))
  · rw [if_neg h]; exact va_up_le (Nat.sub_le _ _)
/-- kinds and what the text told stay -/
theorem s_take_kd {g : Nat → Nat} {p k l : Nat} (h : s_gwf g) (hp : p < s_np g) : (∀ b, b < 4 → s_take g p k l (133 + 5 * b + 0) = g (133 + 5 * b + 0) ∧ s_take g p k l (133 + 5 * b + 3) = g (133 + 5 * b + 3) ∧ s_take g p k l (133 + 5 * b + 4) = g (133 + 5 * b + 4)) ∧ ∀ s, s < 4 → s_take g p k l (153 + 3 * s + 1) = g (153 + 3 * s + 1) ∧ s_take g p k l (153 + 3 * s + 2) = g (153 + 3 * s + 2) := by
  have h1 := h.2.1
  have h2 := h.2.2.1
  unfold s_np at hp
  refine ⟨fun b hb => ?_, fun s hs => ?_⟩ <;> unfold s_take va_up <;> by_cases hpb : p < g 1
  · simp only [if_pos hpb]
    exact ⟨by rw [if_neg (by omega), if_neg (by omega)], by rw [if_neg (by omega), if_neg (by omega)], by rw [if_neg (by omega), if_neg (by omega)]⟩
  · simp only [if_neg hpb]
    exact ⟨by rw [if_neg (by omega)], by rw [if_neg (by omega)], by rw [if_neg (by omega)]⟩
  · simp only [if_pos hpb]
    exact ⟨by rw [if_neg (by omega), if_neg (by omega)], by rw [if_neg (by omega), if_neg (by omega)]⟩
  · simp only [if_neg hpb]
    exact ⟨by rw [if_neg (by omega)], by rw [if_neg (by omega)]⟩
theorem s_gwf_take {g : Nat → Nat} {p k l : Nat} (h : s_gwf g) (hp : p < s_np g) : s_gwf (s_take g p k l) := by
  obtain ⟨kb, ks⟩ := s_take_kd (k := k) (l := l) h hp
  have hle := s_take_le (g := g) p k l
  obtain ⟨w0, w1, w2, w3, w6, wr, wb, ws⟩ := h
  have e0 : s_take g p k l 0 = g 0 := s_take_at (by omega)
  have e1 : s_take g p k l 1 = g 1 := s_take_at (by omega)
  have e2 : s_take g p k l 2 = g 2 := s_take_at (by omega)
  refine ⟨by rw [e0]; exact w0, by rw [e1]; exact w1, by rw [e2]; exact w2, by rw [s_take_at (by omega)]; exact w3, by rw [s_take_at (by omega)]; exact w6, fun r hr => ?_, fun b hb => ?_, fun s hs => ?_⟩
  · rw [e0] at hr
    exact s_rwf_congr (fun j hj => s_take_at (by omega)) (wr r hr)
  · rw [e1] at hb
    obtain ⟨q0, q3, q4⟩ := kb b (by omega)
    obtain ⟨v0, v1, v2, v3, v4⟩ := wb b hb
    rw [e0, q0, q3, q4]
    exact ⟨v0, Nat.le_trans (hle _) v1, Nat.le_trans (hle _) v2, v3, v4⟩
  · rw [e2] at hs
    obtain ⟨q1, q2⟩ := ks s (by omega)
    obtain ⟨v0, v1, v2⟩ := ws s hs
    rw [q1, q2]
    exact ⟨Nat.le_trans (hle _) v0, v1, v2⟩
theorem s_shift_6 {g : Nat → Nat} (h : g 6 ≤ 20) : s_shift g 6 ≤ 19 := by
  unfold s_shift
  split
  · simp
  · omega
theorem s_shift_lo {g : Nat → Nat} {j : Nat} (hj : j < 165) (h6 : j ≠ 6) : s_shift g j = g j := by
  unfold s_shift
  split
  · simp only [if_neg h6]; rw [if_neg (by omega)]
  · rfl
theorem s_note_lo {g : Nat → Nat} {p k l t j : Nat} (h : g 6 ≤ 20) (hj : j < 165) (h6 : j ≠ 6) : s_note g p k l t j = g j := by
  have := s_shift_6 h
  unfold s_note va_up
  rw [if_neg h6, if_neg (by omega), if_neg (by omega), if_neg (by omega), if_neg (by omega), if_neg (by omega)]
  exact s_shift_lo hj h6
theorem s_note_6 {g : Nat → Nat} {p k l t : Nat} (h : g 6 ≤ 20) : s_note g p k l t 6 ≤ 20 := by
  have := s_shift_6 h
  unfold s_note va_up
  rw [if_pos rfl]; omega
theorem s_gwf_note {g : Nat → Nat} {p k l t : Nat} (h : s_gwf g) : s_gwf (s_note g p k l t) := by
  have h6 := h.2.2.2.2.1
  refine s_gwf_ag ⟨s_note_lo h6 (by omega) (by omega), s_note_lo h6 (by omega) (by omega), s_note_lo h6 (by omega) (by omega), fun j h1 h2 => s_note_lo h6 h2 (by omega)⟩ (by rw [s_note_lo h6 (by omega) (by omega)]; exact h.2.2.2.1) (s_note_6 h6) h
theorem s_gwf_turn {g : Nat → Nat} {pl : Nat} (h : s_gwf g) : s_gwf (s_turn g pl) := by
  have e : ∀ j, j ≠ 3 → j ≠ 4 → s_turn g pl j = g j := fun j h3 h4 => by unfold s_turn va_up; rw [if_neg h3, if_neg h4]
  refine s_gwf_ag ⟨e _ (by omega) (by omega), e _ (by omega) (by omega), e _ (by omega) (by omega), fun j h1 h2 => e j (by omega) (by omega)⟩ (by unfold s_turn va_up; rw [if_pos rfl]; omega) (by rw [e _ (by omega) (by omega)]; exact h.2.2.2.2.1) h
theorem s_gwf_acc {g : Nat → Nat} {pl ah be : Nat} (hp : pl ≤ 1) (h : s_gwf g) : s_gwf (s_acc g pl ah be) := by
  unfold s_acc
  split
  · exact s_gwf_grow hp (by omega) h
  · split
    · exact h
    · exact s_gwf_grow hp (by omega) h
theorem s_gwf_ovr {g : Nat → Nat} {pl : Nat} (hp : pl ≤ 1) (h : s_gwf g) : s_gwf (s_ovr g pl) := by
  unfold s_ovr
  split
  · exact s_gwf_grow hp (by omega) h
  · exact h
theorem s_gwf_play {g : Nat → Nat} {p k l : Nat} (h : s_gwf g) (hp : p < s_np g) : s_gwf (s_play g p k l) := by
  have h3 := h.2.2.2.1
  exact s_gwf_turn (s_gwf_note (s_gwf_ovr h3 (s_gwf_acc h3 (s_gwf_grow h3 (by omega) (s_gwf_grow h3 (by omega) (s_gwf_take h hp))))))
/-- both follow the advice -/
def s_it (g : Nat → Nat) : Nat → Nat → Nat
  | 0 => g
  | n + 1 => if s_adv (s_it g n) = true then s_play (s_it g n) (s_ap (s_it g n)) (s_ak (s_it g n)) (s_al2 (s_it g n)) else s_it g n
def s_fn (g : Nat → Nat) (m : Nat) : Nat := s_first (fun n => !(s_adv (s_it g n))) m
theorem s_gwf_it {g : Nat → Nat} (h : s_gwf g) : ∀ n, s_gwf (s_it g n) := by
  intro n
  induction n with
  | zero => exact h
  | succ n ih =>
    unfold s_it
    split
    · next ha => exact s_gwf_play ih (s_adv_ok ha).1
    · exact ih
/-- rules don't change by turns -/
theorem s_turn_rules {g : Nat → Nat} {p k l : Nat} (h : s_gwf g) (hp : p < s_np g) : s_play g p k l 0 = g 0 ∧ ∀ j, 17 ≤ j → j < 133 → s_play g p k l j = g j := by
  have h3 := h.2.2.2.1
  have key : ∀ j, (j = 0 ∨ (17 ≤ j ∧ j < 133)) → s_play g p k l j = g j := by
    intro j hj
    unfold s_play
    have e1 : ∀ f : Nat → Nat, ∀ pl, s_turn f pl j = f j := fun f pl => by unfold s_turn va_up; rw [if_neg (by omega), if_neg (by omega)]
    have w1 := s_gwf_take (k := k) (l := l) h hp
    have w2 := s_gwf_grow (x := 1) h3 (show 0 ≤ 4 by omega) w1
    have w3 := s_gwf_grow (x := k + l) h3 (show 1 ≤ 4 by omega) w2
    have w4 := s_gwf_acc (ah := s_tot g) (be := s_tot (s_take g p k l)) h3 w3
    have w5 := s_gwf_ovr h3 w4
    rw [e1, s_note_lo w5.2.2.2.2.1 (by omega) (by omega)]
    have e2 : ∀ f : Nat → Nat, s_ovr f (g 3) j = f j := fun f => by
      unfold s_ovr
      split
      · exact s_grow_lo (by omega) h3 (by omega)
      · rfl
    have e3 : ∀ f : Nat → Nat, ∀ a b, s_acc f (g 3) a b j = f j := fun f a b => by
      unfold s_acc
      split
      · exact s_grow_lo (by omega) h3 (by omega)
      · split
        · rfl
        · exact s_grow_lo (by omega) h3 (by omega)
    rw [e2, e3, s_grow_lo (by omega) h3 (by omega), s_grow_lo (by omega) h3 (by omega), s_take_at (by omega)]
  exact ⟨key 0 (Or.inl rfl), fun j h1 h2 => key j (Or.inr ⟨h1, h2⟩)⟩
theorem s_it_rules {g : Nat → Nat} (h : s_gwf g) : ∀ n, s_it g n 0 = g 0 ∧ ∀ j, 17 ≤ j → j < 133 → s_it g n j = g j := by
  intro n
  induction n with
  | zero => exact ⟨rfl, fun _ _ _ => rfl⟩
  | succ n ih =>
    unfold s_it
    split
    · next ha =>
      have := s_turn_rules (k := s_ak (s_it g n)) (l := s_al2 (s_it g n)) (s_gwf_it h n) (s_adv_ok ha).1
      exact ⟨this.1.trans ih.1, fun j h1 h2 => (this.2 j h1 h2).trans (ih.2 j h1 h2)⟩
    · exact ih
end
section
def s_m1 (g : Nat → Nat) (p k l : Nat) : Nat → Nat := s_acc (s_grow (s_grow (s_take g p k l) (g 3) 0 1) (g 3) 1 (k + l)) (g 3) (s_tot g) (s_tot (s_take g p k l))
theorem s_acc_lo {g : Nat → Nat} {pl a b j : Nat} (hj : j < 7 ∨ 17 ≤ j) (hp : pl ≤ 1) : s_acc g pl a b j = g j := by
  unfold s_acc
  split
  · exact s_grow_lo hj hp (by omega)
  · split
    · rfl
    · exact s_grow_lo hj hp (by omega)
theorem s_ovr_lo {g : Nat → Nat} {pl j : Nat} (hj : j < 7 ∨ 17 ≤ j) (hp : pl ≤ 1) : s_ovr g pl j = g j := by
  unfold s_ovr
  split
  · exact s_grow_lo hj hp (by omega)
  · rfl
theorem s_gwf_m1 {g : Nat → Nat} {p k l : Nat} (h : s_gwf g) (hp : p < s_np g) : s_gwf (s_m1 g p k l) :=
  s_gwf_acc h.2.2.2.1 (s_gwf_grow h.2.2.2.1 (by omega) (s_gwf_grow h.2.2.2.1 (by omega) (s_gwf_take h hp)))
theorem s_m1_lo {g : Nat → Nat} {p k l j : Nat} (h : s_gwf g) (hj : j < 7 ∨ (17 ≤ j ∧ j < 133)) : s_m1 g p k l j = g j := by
  have h3 := h.2.2.2.1
  unfold s_m1
  rw [s_acc_lo (by omega) h3, s_grow_lo (by omega) h3 (by omega), s_grow_lo (by omega) h3 (by omega), s_take_at (by omega)]
theorem s_m1_CV {g va : Nat → Nat} {p k l : Nat} (h : s_gwf g) (hCV : ∀ r, r < g 0 → ∀ q, q < 1681 → va (1681 * r + q) = s_V (s_rule g r) q) : ∀ r, r < s_m1 g p k l 0 → ∀ q, q < 1681 → va (1681 * r + q) = s_V (s_rule (s_m1 g p k l) r) q :=
  s_CV_ag (s_m1_lo h (by omega)) (fun j h1 h2 => s_m1_lo h (by omega)) h hCV
theorem s_take_CV {g va : Nat → Nat} {p k l : Nat} (h : s_gwf g) (hCV : ∀ r, r < g 0 → ∀ q, q < 1681 → va (1681 * r + q) = s_V (s_rule g r) q) : ∀ r, r < s_take g p k l 0 → ∀ q, q < 1681 → va (1681 * r + q) = s_V (s_rule (s_take g p k l) r) q :=
  s_CV_ag (s_take_at (by omega)) (fun j h1 h2 => s_take_at (by omega)) h hCV
theorem s_it_CV {g va : Nat → Nat} (h : s_gwf g) (n : Nat) (hCV : ∀ r, r < g 0 → ∀ q, q < 1681 → va (1681 * r + q) = s_V (s_rule g r) q) : ∀ r, r < s_it g n 0 → ∀ q, q < 1681 → va (1681 * r + q) = s_V (s_rule (s_it g n) r) q :=
  s_CV_ag (s_it_rules h n).1 (s_it_rules h n).2 h hCV
theorem s_note_eq {g : Nat → Nat} {p k l t : Nat} (h6 : g 6 ≤ 20) (j : Nat) : va_up (va_up (va_up (va_up (va_up (va_up (s_shift g) (165 + 5 * s_shift g 6) (s_shift g 3)) (165 + 5 * s_shift g 6 + 1) p) (165 + 5 * s_shift g 6 + 2) k) (165 + 5 * s_shift g 6 + 3) l) (165 + 5 * s_shift g 6 + 4) t) 6 (va_up (va_up (va_up (va_up (va_up (s_shift g) (165 + 5 * s_shift g 6) (s_shift g 3)) (165 + 5 * s_shift g 6 + 1) p) (165 + 5 * s_shift g 6 + 2) k) (165 + 5 * s_shift g 6 + 3) l) (165 + 5 * s_shift g 6 + 4) t 6 + 1) j = s_note g p k l t j := by
  have h1 : s_shift g 3 = g 3 := s_shift_lo (by omega) (by omega)
  have h2 : ∀ f : Nat → Nat, ∀ a x : Nat, 165 ≤ a → va_up f a x 6 = f 6 := fun f a x ha => by unfold va_up; rw [if_neg (by omega)]
  unfold s_note
  rw [h1, h2 _ _ _ (by omega), h2 _ _ _ (by omega), h2 _ _ _ (by omega), h2 _ _ _ (by omega), h2 _ _ _ (by omega)]
theorem s_shift_eq {g f : Nat → Nat} (h6 : g 6 = 20) (hf : ∀ i, f i = if 165 ≤ i ∧ i < 260 then g (i + 5) else g i) (j : Nat) : va_up f 6 (f 6 - 1) j = s_shift g j := by
  have e : f 6 = 20 := by rw [hf, if_neg (by omega), h6]
  unfold s_shift va_up
  rw [if_pos h6, e]
  by_cases c : j = 6
  · simp only [if_pos c]
  · simp only [if_neg c]; exact hf j
end
section
theorem s_cc_s (P : Nat → Nat → Bool) (k L : Nat) : s_cc P (k + 1) L = s_cc P k L + s_cnt (P k) L := rfl
theorem s_cnt_t {P : Nat → Bool} {n : Nat} (h : P n = true) : s_cnt P (n + 1) = s_cnt P n + 1 := by show s_cnt P n + (if P n = true then 1 else 0) = _; rw [if_pos h]
theorem s_cnt_f {P : Nat → Bool} {n : Nat} (h : P n = false) : s_cnt P (n + 1) = s_cnt P n := by show s_cnt P n + (if P n = true then 1 else 0) = _; rw [if_neg (by rw [h]; decide)]; omega
end
section
theorem s_sh_step {g f : Nat → Nat} {j : Nat} (h : 165 ≤ j) (hf : ∀ i, f i = if 165 ≤ i ∧ i < j then g (i + 5) else g i) : ∀ i, va_up f j (f (j + 5)) i = if 165 ≤ i ∧ i < j + 1 then g (i + 5) else g i := by
  intro i
  unfold va_up
  by_cases e : i = j
  · rw [if_pos e, if_pos (by omega), hf, if_neg (by omega), e]
  · rw [if_neg e, hf]
    by_cases e2 : 165 ≤ i ∧ i < j
    · rw [if_pos e2, if_pos (by omega)]
    · rw [if_neg e2, if_neg (by omega)]
end
section
theorem s_it_s {g : Nat → Nat} {n : Nat} (h : s_adv (s_it g n) = true) : s_it g (n + 1) = s_play (s_it g n) (s_ap (s_it g n)) (s_ak (s_it g n)) (s_al2 (s_it g n)) := by
  show (if s_adv (s_it g n) = true then _ else _) = _
  rw [if_pos h]
end
