/-! rows for the reference's loops over tables -/
section
theorem s_rwf_le {u : Nat → Nat} (h : s_rwf u) : ∀ j : Nat, j < 20 → u (9 + j) ≤ 40 := by
  intro j hj
  obtain ⟨h0, h9, h18, h19, h20, ho, hb⟩ := h
  rcases (by omega : j = 0 ∨ (1 ≤ j ∧ j < 9) ∨ j = 9 ∨ j = 10 ∨ j = 11 ∨ 12 ≤ j) with rfl | ⟨h1, h2⟩ | rfl | rfl | rfl | h1
  · exact Nat.le_trans h9 (by decide)
  · have := ho (j - 1) (by omega); rw [show 10 + (j - 1) = 9 + j by omega] at this; exact this
  · exact Nat.le_trans h18 (by decide)
  · exact h19
  · exact Nat.le_trans h20 (by decide)
  · have := hb (j - 12) (by omega); rw [show 21 + (j - 12) = 9 + j by omega] at this; exact this
theorem q_updF {F : Nat → Int32} {k : Nat} {v : Int32} (h : F k = v) : upd F k v = F := by
  funext j
  unfold upd
  split
  · next e => rw [e, h]
  · rfl
theorem q_fill {f h : Nat → Nat} {p x : Nat} (hf : ∀ j, j < p → f j = h j) (hx : x = h p) : ∀ j, j < p + 1 → va_up f p x j = h j := by
  intro j hj
  by_cases e : j = p
  · subst e; simp [va_up, hx]
  · simp only [va_up, if_neg e]; exact hf j (by omega)
def s_mkd (A : Nat → Bool) (t : Nat → Nat) (p m mc : Nat) (mk : Nat → Nat) : Prop := ∀ v, v < 2000 → mk v ≤ mc ∧ (mk v = mc ↔ s_rch A t p m v = true)
theorem q_mk_0 {A : Nat → Bool} {t mk : Nat → Nat} {p mc : Nat} (h : ∀ v, v < 2000 → mk v ≤ mc) : s_mkd A t p 0 (mc + 1) mk := by
  intro v hv
  have := h v hv
  rw [s_rch_0]
  exact ⟨by omega, ⟨fun e => by omega, fun e => by cases e⟩⟩
theorem q_mk_step {A : Nat → Bool} {t mk : Nat → Nat} {p m mc w : Nat} (h : s_mkd A t p m mc mk) (hq : s_mv A p m = true) (hw : w = t (p - m)) : s_mkd A t p (m + 1) mc (va_up mk w mc) := by
  intro v hv
  rw [s_rch_step, hq, Bool.true_and, Bool.or_eq_true, beq_iff_eq]
  by_cases e : v = w
  · subst e
    simp [va_up, hw]
  · simp only [va_up, if_neg e]
    have := h v hv
    refine ⟨this.1, this.2.trans ⟨Or.inl, fun z => z.resolve_right (fun z => e (by rw [hw]; exact z.symm))⟩⟩
theorem q_mk_skip {A : Nat → Bool} {t mk : Nat → Nat} {p m m' mc : Nat} (h : s_mkd A t p m mc mk) (hm : m ≤ m') (hq : ∀ q, m ≤ q → q < m' → s_mv A p q = false) : s_mkd A t p m' mc mk := by
  intro v hv
  rw [s_rch_skip hm hq]
  exact h v hv
theorem q_mv_t {A : Nat → Bool} {x y k l : Nat} (hy : y ≤ 40) (hk : k ≤ x) (hl : l ≤ y) (hA : A (41 * k + l) = true) : s_mv A (41 * x + y) (41 * k + l) = true := by
  rw [s_mv_kl hy (by omega), hA, Bool.and_true]; exact decide_eq_true ⟨hk, hl⟩
theorem q_mv_f {A : Nat → Bool} {x y k l : Nat} (hy : y ≤ 40) (hl : l ≤ 40) (hA : A (41 * k + l) = false) : s_mv A (41 * x + y) (41 * k + l) = false := by
  rw [s_mv_kl hy hl, hA, Bool.and_false]
/-- behind a row's last move there is none until the next row -/
theorem q_row_gap {A : Nat → Bool} {x y k q : Nat} (hy : y ≤ 40) (h1 : 41 * k + (y + 1) ≤ q) (h2 : q < 41 * (k + 1)) : s_mv A (41 * x + y) q = false := by
  have e : q = 41 * k + (q - 41 * k) := by omega
  rw [e, s_mv_kl hy (by omega), Bool.and_eq_false_iff]
  exact Or.inl (decide_eq_false (by omega))
theorem q_end_gap {A : Nat → Bool} {x y q : Nat} (hy : y ≤ 40) (h1 : 41 * (x + 1) ≤ q) : s_mv A (41 * x + y) q = false := by
  have e : q = 41 * (q / 41) + q % 41 := by omega
  rw [e, s_mv_kl hy (by omega), Bool.and_eq_false_iff]
  exact Or.inl (decide_eq_false (by omega))
def s_bo (b : Bool) : Nat := if b = true then 1 else 0
theorem s_bo_0 {b : Bool} : s_bo b = 0 ↔ b = false := by cases b <;> simp [s_bo]
theorem s_bo_n {b : Bool} (h : ¬ s_bo b = 0) : b = true := by cases b <;> simp_all [s_bo]
theorem q_best_f {A : Nat → Bool} {V S : Nat → Nat} {p m : Nat} (hq : s_mv A p m = false) : s_best A V S p (m + 1) = s_best A V S p m := by
  rw [s_best, if_neg (by rw [hq]; decide)]
theorem q_best_l {A : Nat → Bool} {V S : Nat → Nat} {p m to : Nat} (hq : s_mv A p m = true) (hV : V p = 0) (ht : to = p - m) : s_best A V S p (m + 1) = max (s_best A V S p m) (S to + 1) := by
  rw [s_best, if_pos hq, if_pos hV, ht]
theorem q_best_w {A : Nat → Bool} {V S : Nat → Nat} {p m to : Nat} (hq : s_mv A p m = true) (hV : ¬ V p = 0) (ht : to = p - m) (h : V to = 0 ∧ (s_best A V S p m = 0 ∨ S to + 1 < s_best A V S p m)) : s_best A V S p (m + 1) = S to + 1 := by
  rw [s_best, if_pos hq, if_neg hV, ← ht, if_pos h]
theorem q_best_n {A : Nat → Bool} {V S : Nat → Nat} {p m to : Nat} (hq : s_mv A p m = true) (hV : ¬ V p = 0) (ht : to = p - m) (h : ¬ (V to = 0 ∧ (s_best A V S p m = 0 ∨ S to + 1 < s_best A V S p m))) : s_best A V S p (m + 1) = s_best A V S p m := by
  rw [s_best, if_pos hq, if_neg hV, ← ht, if_neg h]
def s_cnt (P : Nat → Bool) : Nat → Nat
  | 0 => 0
  | n + 1 => s_cnt P n + (if P n = true then 1 else 0)
theorem s_cnt_le (P : Nat → Bool) : ∀ n, s_cnt P n ≤ n
  | 0 => Nat.le_refl 0
  | n + 1 => by have := s_cnt_le P n; unfold s_cnt; split <;> omega
theorem s_cnt_congr {P Q : Nat → Bool} : ∀ {n : Nat}, (∀ j, j < n → P j = Q j) → s_cnt P n = s_cnt Q n
  | 0, _ => rfl
  | n + 1, h => by unfold s_cnt; rw [s_cnt_congr (fun j hj => h j (by omega)), h n (by omega)]
theorem q_bit : ∀ z : Nat, z < 16 → ∀ r : Nat, r < 4 → (nI z >>> (nI r &&& 31)) &&& nI 1 = nI (s_bo (z.testBit r)) := by decide
theorem q_bitset : ∀ z : Nat, z < 16 → ∀ r : Nat, r < 4 → nI z ||| (nI 1 <<< (nI r &&& 31)) = nI (z ||| 2 ^ r) ∧ z ||| 2 ^ r < 16 ∧ ∀ r' : Nat, r' < 4 → (z ||| 2 ^ r).testBit r' = (decide (r' = r) || z.testBit r') := by decide
/-- the tables that are laid are those of the rules that they were laid of -/
def s_lr (lo : Nat → Nat) (r : Nat) : Nat → Nat := fun j => lo (20 * r + (j - 9))
def s_TI (z : Nat) (lo va sp : Nat → Nat) : Prop := z < 16 ∧ ∀ r, r < 4 → z.testBit r = true → (s_lr lo r 9 ≤ 8 ∧ s_lr lo r 20 ≤ 4) ∧ ∀ p, p < 1681 → va (1681 * r + p) = s_V (s_lr lo r) p ∧ sp (1681 * r + p) = s_S (s_lr lo r) p
def s_CU (u : Nat → Nat) (r : Nat) (va sp : Nat → Nat) : Prop := ∀ p, p < 1681 → va (1681 * r + p) = s_V u p ∧ sp (1681 * r + p) = s_S u p
theorem s_TI_cur {z : Nat} {lo va sp u : Nat → Nat} {r : Nat} (h : s_TI z lo va sp) (hr : r < 4) (hz : z.testBit r = true) (he : ∀ k, k < 20 → lo (20 * r + k) = u (9 + k)) : s_CU u r va sp := by
  obtain ⟨hb, h⟩ := h.2 r hr hz
  intro p hp
  have e : ∀ j, 9 ≤ j → j < 29 → s_lr lo r j = u j := fun j h1 h2 => by
    unfold s_lr; rw [he (j - 9) (by omega)]; congr 1; omega
  rw [← s_V_congr e hb hp, ← s_S_congr e hb hp]
  exact h p hp
end
