/-! what is asked with: a whole number within its range, or none -/
section
theorem q_below_t {v : Int32} {n : Nat} (hn : n < 2 ^ 31) (h : q_in v (nI 0) (nI n - nI 1) = true) : ∃ j : Nat, v = nI j ∧ j < n := by
  cases n with
  | zero =>
    simp only [q_in, Bool.and_eq_true, decide_eq_true_eq] at h
    have h1 := Int32.le_trans h.1 h.2
    exact absurd h1 (by decide)
  | succ m =>
    rw [pk_sub (show 1 ≤ m + 1 by omega)] at h
    obtain ⟨j, e, _, h2⟩ := q_in_nat (by omega) h (by decide)
    exact ⟨j, e, by omega⟩
theorem q_below_f {v : Int32} {n : Nat} (hn : n < 2 ^ 31) (h : q_in v (nI 0) (nI n - nI 1) = false) : ∀ j : Nat, j < n → v = nI j → False := by
  intro j hj e
  cases n with
  | zero => exact absurd hj (Nat.not_lt_zero j)
  | succ m =>
    rw [pk_sub (show 1 ≤ m + 1 by omega)] at h
    exact q_in_not (by omega) h ⟨j, e, Nat.zero_le j, by omega⟩
theorem q_range_f {v : Int32} {a b : Nat} (hb : b < 2 ^ 31) (h : q_in v (nI a) (nI b) = false) : ∀ j : Nat, a ≤ j → j ≤ b → v = nI j → False := fun j h1 h2 e => q_in_not hb h ⟨j, e, h1, h2⟩
theorem q_pair_f {k l : Int32} {m : Nat} (hm : m < 2 ^ 31) (h : q_in k (nI 0) (nI m) = false ∨ q_in l (nI 0) (nI m) = false) : ∀ a b : Nat, a ≤ m → b ≤ m → k = nI a → l = nI b → False := by
  intro a b ha hb e1 e2
  rcases h with h | h
  · exact q_range_f hm h a (Nat.zero_le a) ha e1
  · exact q_range_f hm h b (Nat.zero_le b) hb e2
theorem q_nI_inj {a b : Nat} (ha : a < 2 ^ 31) (hb : b < 2 ^ 31) (h : nI a = nI b) : a = b := (nI_eq ha hb).mp h
def s_nat (v : Int32) : Nat := v.toInt.toNat
theorem s_nat_n {k : Nat} (h : k < 2 ^ 31) : s_nat (nI k) = k := by unfold s_nat; rw [nI_toInt h]; rfl
/-- why a move is refused, whatever is asked with -/
def s_refI (g : Nat → Nat) (p : Nat) (k l : Int32) : Nat := if k < 0 ∨ l < 0 then 1 else s_ref g p (s_nat k) (s_nat l)
theorem s_refI_n {g : Nat → Nat} {p k l : Nat} (hk : k < 2 ^ 31) (hl : l < 2 ^ 31) : s_refI g p (nI k) (nI l) = s_ref g p k l := by
  unfold s_refI
  rw [if_neg (by rintro (h | h); exact nI_pos hk h; exact nI_pos hl h), s_nat_n hk, s_nat_n hl]
theorem s_refI_1 {g : Nat → Nat} {p : Nat} {k l : Int32} (h : k < 0 ∨ l < 0) : s_refI g p k l = 1 := by unfold s_refI; rw [if_pos h]
/-- a move that isn't refused takes naturals -/
theorem s_refI_0 {g : Nat → Nat} {p : Nat} {k l : Int32} (h : s_refI g p k l = 0) : ∃ a b : Nat, k = nI a ∧ l = nI b ∧ a < 2 ^ 31 ∧ b < 2 ^ 31 ∧ a ≤ s_x g p ∧ b ≤ s_y g p ∧ s_ref g p a b = 0 := by
  by_cases c : k < 0 ∨ l < 0
  · rw [s_refI_1 c] at h; cases h
  · obtain ⟨a, ha, rfl⟩ := nI_of (x := k) (fun z => c (Or.inl z))
    obtain ⟨b, hb, rfl⟩ := nI_of (x := l) (fun z => c (Or.inr z))
    rw [s_refI_n ha hb] at h
    refine ⟨a, b, rfl, rfl, ha, hb, ?_, ?_, h⟩
    · unfold s_ref at h; by_cases e : a ≤ s_x g p
      · exact e
      · split at h
        · cases h
        · rw [if_pos (Or.inl (by omega))] at h; cases h
    · unfold s_ref at h; by_cases e : b ≤ s_y g p
      · exact e
      · split at h
        · cases h
        · rw [if_pos (Or.inr (by omega))] at h; cases h
/-- the greatest of a row -/
def s_mx (f : Nat → Nat) : Nat → Nat
  | 0 => 0
  | n + 1 => max (s_mx f n) (f n)
theorem s_mx_le {f : Nat → Nat} {m : Nat} : ∀ {n : Nat}, (∀ j, j < n → f j ≤ m) → s_mx f n ≤ m
  | 0, _ => Nat.zero_le m
  | n + 1, h => Nat.max_le.mpr ⟨s_mx_le (fun j hj => h j (by omega)), h n (by omega)⟩
theorem s_mx_congr {f h : Nat → Nat} : ∀ {n : Nat}, (∀ j, j < n → f j = h j) → s_mx f n = s_mx h n
  | 0, _ => rfl
  | n + 1, e => by show max (s_mx f n) (f n) = max (s_mx h n) (h n); rw [s_mx_congr (fun j hj => e j (by omega)), e n (by omega)]
def s_addB (g : Nat → Nat) (r x y : Nat) : Nat → Nat := va_up (va_up (va_up (va_up (va_up (va_up g (133 + 5 * g 1 + 0) r) (133 + 5 * g 1 + 1) x) (133 + 5 * g 1 + 2) y) (133 + 5 * g 1 + 3) x) (133 + 5 * g 1 + 4) y) 1 (g 1 + 1)
def s_addS (g : Nat → Nat) (x y : Nat) : Nat → Nat := va_up (va_up (va_up (va_up g (153 + 3 * g 2 + 0) x) (153 + 3 * g 2 + 1) y) (153 + 3 * g 2 + 2) x) 2 (g 2 + 1)
/-- games remembered: the oldest of eight goes -/
def s_pshift (a : Nat → Nat) (m : Nat) : Nat → Nat := if m = 8 then (fun j => if j < 1855 then a (j + 265) else a j) else a
def s_pmany (m : Nat) : Nat := if m = 8 then 7 else m
end
section
def s_ruleA (g : Nat → Nat) (r : Nat) : Nat → Nat
  | 0 => s_rule g r 18
  | 1 => s_rule g r 19
  | 2 => s_rule g r 9
  | 3 => s_rule g r 20
  | 4 => if s_free (s_rule g r) = true then 1 else 0
  | 5 => s_mx (s_V (s_rule g r)) 1681
  | 6 => s_cnt (fun p => s_V (s_rule g r) p == 0) 1681
  | 7 => s_cnt (fun b => g (133 + 5 * b + 0) == r) (g 1)
  | _ => s_mx (s_S (s_rule g r)) 1681
def s_tx (g : Nat → Nat) (p : Nat) : Nat := if p < g 1 then g (133 + 5 * p + 3) else g (153 + 3 * (p - g 1) + 2)
def s_partA (g : Nat → Nat) (p : Nat) : Nat → Int32
  | 0 => nI (if p < g 1 then 0 else 1)
  | 1 => nI (s_kind g p)
  | 2 => nI (s_x g p)
  | 3 => if p < g 1 then nI (g (133 + 5 * p + 2)) else q_d 0
  | 4 => nI (s_pv g p 0 0)
  | 5 => nI (s_mvs g p false)
  | 6 => nI (s_mvs g p true)
  | 7 => nI (s_tx g p)
  | _ => if p < g 1 then nI (g (133 + 5 * p + 4)) else q_d 0
theorem q_swN {w k : Nat} (hw : w < 2 ^ 31) (h : (nI w).toInt = (k : Int)) : w = k := by rw [nI_toInt hw] at h; omega
theorem q_swD {w lo hi m : Nat} (hw : w ≤ m) (hm : m = hi + 1) (hb : m < 2 ^ 31) (hl : lo = 0) (h : (nI w).toInt < (lo : Int) ∨ (hi : Int) < (nI w).toInt) : w = m := by rw [nI_toInt (by omega)] at h; omega
end
section
theorem q_sh265 {a f : Nat → Nat} {j : Nat} (hf : ∀ i, f i = if i < j then a (i + 265) else a i) : ∀ i, va_up f j (f (j + 265)) i = if i < j + 1 then a (i + 265) else a i := by
  intro i
  unfold va_up
  by_cases e : i = j
  · rw [if_pos e, if_pos (by omega), hf, if_neg (by omega), e]
  · rw [if_neg e, hf]
    by_cases e2 : i < j
    · rw [if_pos e2, if_pos (by omega)]
    · rw [if_neg e2, if_neg (by omega)]
end
section
def s_nth (P : Nat → Bool) (n i : Nat) : Nat := s_first (fun p => P p && (s_cnt P p == i)) n
theorem s_cnt_mono {P : Nat → Bool} {a b : Nat} (h : a ≤ b) : s_cnt P a ≤ s_cnt P b := by
  induction b with
  | zero => rw [show a = 0 by omega]; exact Nat.le_refl _
  | succ b ih =>
    by_cases e : a = b + 1
    · rw [e]; exact Nat.le_refl _
    · exact Nat.le_trans (ih (by omega)) (Nat.le_add_right _ _)
theorem s_cnt_lt {P : Nat → Bool} {p n : Nat} (h : p < n) (hp : P p = true) : s_cnt P p < s_cnt P n := by
  have h1 := s_cnt_t hp
  have h2 := s_cnt_mono (P := P) (show p + 1 ≤ n from h)
  omega
theorem s_nth_eq {P : Nat → Bool} {p n i : Nat} (h : p < n) (hp : P p = true) (hi : s_cnt P p = i) : s_nth P n i = p := by
  refine s_first_eq h (by rw [hp, hi]; simp) (fun j hj => ?_)
  cases e : P j with
  | false => rfl
  | true =>
    have := s_cnt_lt hj e
    simp; omega
/-- how many are left of those asked past -/
theorem s_left_t {P : Nat → Bool} {p i : Nat} (hp : P p = true) (h : s_cnt P p ≤ i) (h2 : ¬ i - s_cnt P p = 0) : s_cnt P (p + 1) ≤ i ∧ i - s_cnt P p - 1 = i - s_cnt P (p + 1) := by
  rw [s_cnt_t hp]; omega
def s_un (g : Nat → Nat) : Nat → Nat
  | 0 => 0
  | n + 1 => s_un g n + (s_x g n + s_y g n)
def s_countA (g : Nat → Nat) (m : Nat) : Nat → Nat
  | 0 => g 0
  | 1 => g 1
  | 2 => g 2
  | 3 => g 3
  | 4 => g 4
  | 5 => s_tot g
  | 6 => s_ms g false (s_np g)
  | 7 => s_ms g true (s_np g)
  | 8 => if s_over g = true then 1 else 0
  | 9 => g 5
  | 10 => m
  | 11 => s_un g (s_np g)
  | _ => g 6
def s_advA (g : Nat → Nat) (x : Nat) : Nat := if x = 0 then s_ap g else if x = 1 then s_ak g else if x = 2 then s_al2 g else if s_tot g = 0 then 0 else 1
def s_alB (u : Nat → Nat) (k l : Nat) : Bool := (s_forb u k l == 0) || (s_forb u k l == 7)
def s_A2 (u : Nat → Nat) (k l q : Nat) : Bool := if q = 41 * k + l then s_barred u k l && s_alB u k l else s_A u q
theorem s_A2_0 {u : Nat → Nat} {k l : Nat} (h : 0 < k + l) : s_A2 u k l 0 = false := by
  unfold s_A2; rw [if_neg (by omega)]; exact s_A0 u
def s_rset (g : Nat → Nat) (r j v : Nat) : Nat → Nat := va_up g (17 + 29 * r + j) v
theorem s_rset_at {g : Nat → Nat} {r j v i : Nat} : s_rule (s_rset g r j v) r i = if i = j then v else s_rule g r i := by
  unfold s_rset s_rule va_up
  by_cases e : i = j
  · rw [if_pos e, if_pos (by omega)]
  · rw [if_neg e, if_neg (by omega)]
theorem s_rset_ne {g : Nat → Nat} {r j v q i : Nat} (h : q ≠ r) (hj : j < 29) (hi : i < 29) : s_rule (s_rset g r j v) q i = s_rule g q i := by
  unfold s_rset s_rule va_up
  rw [if_neg (by omega)]
end
section
theorem s_bar_yes {b : Bool} {x : Nat} (h : ¬ (if b = true then x + 1 else 0) = 0) : b = true := by
  cases b with
  | true => rfl
  | false => exact absurd (if_neg (by decide)) h
theorem s_bar_no {b : Bool} {x : Nat} (h : (if b = true then x + 1 else 0) = 0) : b = false := by
  cases b with
  | false => rfl
  | true => rw [if_pos rfl] at h; cases h
theorem s_A2_up {u f : Nat → Nat} {k l v : Nat} {c : Bool} (hc : (s_barred u k l && s_alB u k l) = c) (hv : v = s_bo c) (h : ∀ q : Nat, q < 1681 → f q = s_bo (s_A u q)) : ∀ q : Nat, q < 1681 → va_up f (41 * k + l) v q = s_bo (s_A2 u k l q) := by
  intro q hq
  unfold va_up s_A2
  by_cases e : q = 41 * k + l
  · rw [if_pos e, if_pos e, hc, hv]
  · rw [if_neg e, if_neg e]; exact h q hq
theorem s_rset_back {g : Nat → Nat} (i x j : Nat) : va_up (va_up g i x) i (g i) j = g j := by
  unfold va_up
  by_cases e : j = i
  · rw [if_pos e, e]
  · rw [if_neg e, if_neg e]
theorem s_rwf_18 {g : Nat → Nat} {r v : Nat} (h : s_rwf (s_rule g r)) (hv : v ≤ 5) : s_rwf (s_rule (s_rset g r 18 v) r) := by
  obtain ⟨h0, h9, h18, h19, h20, ho, hb⟩ := h
  refine ⟨?_, ?_, ?_, ?_, ?_, fun i hi => ?_, fun i hi => ?_⟩
  · rw [s_rset_at, if_neg (by omega)]; exact h0
  · rw [s_rset_at, if_neg (by omega)]; exact h9
  · rw [s_rset_at, if_pos rfl]; exact hv
  · rw [s_rset_at, if_neg (by omega)]; exact h19
  · rw [s_rset_at, if_neg (by omega)]; exact h20
  · rw [s_rset_at, if_neg (by omega)]; exact ho i hi
  · rw [s_rset_at, if_neg (by omega)]; exact hb i hi
theorem s_rwf_19 {g : Nat → Nat} {r v : Nat} (h : s_rwf (s_rule g r)) (hv : v ≤ 40) : s_rwf (s_rule (s_rset g r 19 v) r) := by
  obtain ⟨h0, h9, h18, h19, h20, ho, hb⟩ := h
  refine ⟨?_, ?_, ?_, ?_, ?_, fun i hi => ?_, fun i hi => ?_⟩
  · rw [s_rset_at, if_neg (by omega)]; exact h0
  · rw [s_rset_at, if_neg (by omega)]; exact h9
  · rw [s_rset_at, if_neg (by omega)]; exact h18
  · rw [s_rset_at, if_pos rfl]; exact hv
  · rw [s_rset_at, if_neg (by omega)]; exact h20
  · rw [s_rset_at, if_neg (by omega)]; exact ho i hi
  · rw [s_rset_at, if_neg (by omega)]; exact hb i hi
end
section
/-- the byte at a place, one more than it; 0 behind the end -/
def s_byte (f : Nat → Nat) (n k : Nat) : Nat := if k < n then f k + 1 else 0
end
