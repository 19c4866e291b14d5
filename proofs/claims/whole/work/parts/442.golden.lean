section
/-! GOLDEN ROWS: whole roots by bits; A and B rising -/
def s_rtb (v : Nat) : Nat → Nat → Nat
  | r, 0 => r
  | r, k + 1 => s_rtb v (if (r + 2 ^ k) * (r + 2 ^ k) ≤ v then r + 2 ^ k else r) k
def s_rt (v : Nat) : Nat := s_rtb v 0 32
theorem s_rtb_ok {v : Nat} : ∀ (k r : Nat), r * r ≤ v → v < (r + 2 ^ k) * (r + 2 ^ k) → s_rtb v r k * s_rtb v r k ≤ v ∧ v < (s_rtb v r k + 1) * (s_rtb v r k + 1)
  | 0, r, h1, h2 => ⟨h1, h2⟩
  | k + 1, r, h1, h2 => by
    have e : s_rtb v r (k + 1) = s_rtb v (if (r + 2 ^ k) * (r + 2 ^ k) ≤ v then r + 2 ^ k else r) k := rfl
    rw [e]
    by_cases h : (r + 2 ^ k) * (r + 2 ^ k) ≤ v
    · rw [if_pos h]
      refine s_rtb_ok k _ h ?_
      rw [show r + 2 ^ k + 2 ^ k = r + 2 ^ (k + 1) by rw [Nat.pow_succ]; omega]
      exact h2
    · rw [if_neg h]
      exact s_rtb_ok k r h1 (by omega)
theorem s_rt_ok {v : Nat} (h : v < 2 ^ 64) : s_rt v * s_rt v ≤ v ∧ v < (s_rt v + 1) * (s_rt v + 1) := s_rtb_ok 32 0 (Nat.zero_le _) (by rw [Nat.zero_add]; exact h)
theorem s_sq_lt {a b : Nat} (h : a * a < b * b) : a < b := by
  rcases Nat.lt_or_ge a b with e | e
  · exact e
  · exact absurd (Nat.mul_le_mul e e) (by omega)
theorem s_sq_le {a b : Nat} (h : a * a < (b + 1) * (b + 1)) : a ≤ b := by have := s_sq_lt h; omega
theorem s_rt_ge {v r : Nat} (h : v < 2 ^ 64) (hr : r * r ≤ v) : r ≤ s_rt v := s_sq_le (Nat.lt_of_le_of_lt hr (s_rt_ok h).2)
theorem s_rt_lt {v : Nat} (h : v < 2 ^ 64) : s_rt v < 2 ^ 32 := s_sq_lt (Nat.lt_of_le_of_lt (s_rt_ok h).1 h)
/-- the square of n times the root -/
def s_gd (s n : Nat) : Nat := n * n * (s * s + 4)
def s_gA (s n : Nat) : Nat := (2 * n + s_rt (s_gd s n) - s * n) / 2
def s_gB (s n : Nat) : Nat := s_gA s n + s * n
theorem s_gd_lt {s n : Nat} (hs : s ≤ 5) (hn : n ≤ 500000000) : s_gd s n < 2 ^ 63 := by
  unfold s_gd
  have h1 : n * n ≤ 500000000 * 500000000 := Nat.mul_le_mul hn hn
  have h2 : s * s + 4 ≤ 29 := by have := Nat.mul_le_mul hs hs; omega
  exact Nat.lt_of_le_of_lt (Nat.mul_le_mul h1 h2) (by decide)
theorem s_gr_ge {s n : Nat} (hs : s ≤ 5) (hn : n ≤ 500000000) : s * n ≤ s_rt (s_gd s n) := by
  refine s_rt_ge (Nat.lt_of_lt_of_le (s_gd_lt hs hn) (by decide)) ?_
  unfold s_gd
  rw [Nat.mul_mul_mul_comm, Nat.mul_comm (s * s)]
  exact Nat.mul_le_mul_left _ (Nat.le_add_right _ _)
theorem s_gr_up {s n : Nat} (hs : s ≤ 5) (hn : n + 1 ≤ 500000000) : s_rt (s_gd s n) + s ≤ s_rt (s_gd s (n + 1)) := by
  have h0 := s_gd_lt hs hn
  refine s_rt_ge (Nat.lt_of_lt_of_le h0 (by decide)) ?_
  have hr := (s_rt_ok (v := s_gd s n) (Nat.lt_of_lt_of_le (s_gd_lt hs (show n ≤ 500000000 by omega)) (by decide))).1
  generalize s_rt (s_gd s n) = r at hr
  have hrs : r * s ≤ n * (s * s + 4) := by
    refine s_sq_le ?_
    have e1 : r * s * (r * s) = (r * r) * (s * s) := Nat.mul_mul_mul_comm r s r s
    have e2 : n * (s * s + 4) * (n * (s * s + 4)) = (n * n) * (s * s + 4) * (s * s + 4) := by rw [Nat.mul_mul_mul_comm]; exact (Nat.mul_assoc _ _ _).symm
    have e3 : r * r * (s * s) ≤ n * n * (s * s + 4) * (s * s + 4) := Nat.mul_le_mul hr (Nat.le_add_right _ _)
    have e4 : ∀ z : Nat, z * z < (z + 1) * (z + 1) := fun z => Nat.mul_lt_mul_of_lt_of_le (Nat.lt_succ_self z) (Nat.le_succ z) (Nat.succ_pos z)
    have e5 := e4 (n * (s * s + 4))
    omega
  unfold s_gd at hr ⊢
  have f1 : (r + s) * (r + s) = r * r + 2 * (r * s) + s * s := by
    rw [Nat.add_mul, Nat.mul_add, Nat.mul_add, Nat.mul_comm s r]; omega
  have f2 : (n + 1) * (n + 1) * (s * s + 4) = n * n * (s * s + 4) + 2 * (n * (s * s + 4)) + (s * s + 4) := by
    have : (n + 1) * (n + 1) = n * n + 2 * n + 1 := by rw [Nat.add_mul, Nat.mul_add]; omega
    rw [this, Nat.add_mul, Nat.add_mul, Nat.one_mul, Nat.mul_assoc 2]
  omega
theorem s_gA_up {s n : Nat} (hs : s ≤ 5) (hn : n + 1 ≤ 500000000) : s_gA s n + 1 ≤ s_gA s (n + 1) := by
  have h1 := s_gr_up hs hn
  have h2 := s_gr_ge hs (show n ≤ 500000000 by omega)
  unfold s_gA
  have e : s * (n + 1) = s * n + s := Nat.mul_succ s n
  rw [e]
  omega
theorem s_gB_up {s n : Nat} (hs : s ≤ 5) (hn : n + 1 ≤ 500000000) : s_gB s n + 1 ≤ s_gB s (n + 1) := by
  have h1 := s_gA_up hs hn
  have e : s * (n + 1) = s * n + s := Nat.mul_succ s n
  unfold s_gB
  rw [e]; omega
def s_gX (s : Nat) (b : Bool) (n : Nat) : Nat := if b = true then s_gB s n else s_gA s n
theorem s_gX_t (s n : Nat) : s_gX s true n = s_gB s n := by unfold s_gX; rw [if_pos rfl]
theorem s_gX_f (s n : Nat) : s_gX s false n = s_gA s n := by unfold s_gX; rw [if_neg Bool.false_ne_true]
theorem s_gX_up {s n : Nat} {b : Bool} (hs : s ≤ 5) (hn : n + 1 ≤ 500000000) : s_gX s b n + 1 ≤ s_gX s b (n + 1) := by
  cases b
  · rw [s_gX_f, s_gX_f]; exact s_gA_up hs hn
  · rw [s_gX_t, s_gX_t]; exact s_gB_up hs hn
theorem s_z0 {r : Nat} (h : r * r ≤ 0) : r = 0 := by
  rcases Nat.mul_eq_zero.mp (Nat.le_zero.mp h) with h3 | h3
  · exact h3
  · exact h3
theorem s_rt_0 : s_rt 0 = 0 := s_z0 (s_rt_ok (v := 0) (by decide)).1
theorem s_gd_0 (s : Nat) : s_gd s 0 = 0 := by unfold s_gd; simp
theorem s_gk {s r : Nat} (h : r = 0) : (2 * 0 + r - s * 0) / 2 = 0 := by
  subst h; omega
theorem s_gA_0 (s : Nat) : s_gA s 0 = 0 := s_gk (s := s) ((congrArg s_rt (s_gd_0 s)).trans s_rt_0)
theorem s_gX_0 (s : Nat) (b : Bool) : s_gX s b 0 = 0 := by
  cases b
  · rw [s_gX_f]; exact s_gA_0 s
  · rw [s_gX_t]; unfold s_gB; rw [s_gA_0]; omega
theorem s_gX_mono {s : Nat} {b : Bool} (hs : s ≤ 5) {i j : Nat} (h : i ≤ j) (hj : j ≤ 500000000) : s_gX s b i + (j - i) ≤ s_gX s b j := by
  induction j with
  | zero => rw [show i = 0 by omega]; exact Nat.le_refl _
  | succ j ih =>
    by_cases e : i = j + 1
    · rw [e, Nat.sub_self]; exact Nat.le_refl _
    · have h1 := ih (by omega) (by omega)
      have h2 := s_gX_up (b := b) hs hj
      omega
theorem s_gX_ge {s : Nat} {b : Bool} (hs : s ≤ 5) {n : Nat} (hn : n ≤ 500000000) : n ≤ s_gX s b n := by
  have := s_gX_mono (b := b) hs (Nat.zero_le n) hn
  rw [s_gX_0] at this
  omega
theorem s_gX_lt {s : Nat} {b : Bool} (hs : s ≤ 5) {n : Nat} (hn : n ≤ 500000000) : s_gX s b n < 2 ^ 34 := by
  have h1 := s_rt_lt (Nat.lt_of_lt_of_le (s_gd_lt hs hn) (by decide : 2 ^ 63 ≤ 2 ^ 64))
  have h2 : s_gA s n < 2 ^ 32 := by unfold s_gA; omega
  have h3 : s * n ≤ 5 * 500000000 := Nat.mul_le_mul hs hn
  cases b
  · rw [s_gX_f]; omega
  · rw [s_gX_t]; unfold s_gB; omega
/-- the greatest index whose number is at most v -/
def s_li (s : Nat) (b : Bool) (v : Nat) : Nat := s_first (fun n => decide (v < s_gX s b (n + 1))) v
theorem s_li_eq {s v lo : Nat} {b : Bool} (hs : s ≤ 5) (hv : v ≤ 500000000) (hlv : lo ≤ v) (h1 : s_gX s b lo ≤ v) (h2 : ∀ n : Nat, lo < n → n ≤ v → v < s_gX s b n) : s_li s b v = lo := by
  unfold s_li
  have hno : ∀ j : Nat, j < lo → decide (v < s_gX s b (j + 1)) = false := fun j hj => decide_eq_false (fun z => by
    have := s_gX_mono (b := b) hs (show j + 1 ≤ lo by omega) (by omega)
    omega)
  by_cases e : lo < v
  · exact s_first_eq e (decide_eq_true (h2 _ (by omega) (by omega))) hno
  · rw [show lo = v by omega] at hno ⊢
    exact s_first_none hno
end
section
/-- the sum under the half -/
theorem s_gA_sum {s n : Nat} (h : s * n ≤ 2 * n + s_rt (s_gd s n)) (hs : s ≤ 5) : (lN n * ((nI 2 - nI s).toInt64)) + lN (s_rt (s_gd s n)) = lN (2 * n + s_rt (s_gd s n) - s * n) := by
  have e : (nI 2 - nI s).toInt64 = lN 2 - lN s := by
    rcases (show s = 0 ∨ s = 1 ∨ s = 2 ∨ s = 3 ∨ s = 4 ∨ s = 5 by omega) with rfl | rfl | rfl | rfl | rfl | rfl <;> decide +kernel
  rw [e, Int64.mul_sub, lN_mul, lN_mul, Int64.sub_eq_add_neg, Int64.add_assoc, Int64.add_comm (-_), ← Int64.add_assoc, ← Int64.sub_eq_add_neg, lN_add, Nat.mul_comm n 2, Nat.mul_comm n s, lN_sub h]
theorem s_gn_le {s n : Nat} (hs : s ≤ 5) (hn : n ≤ 500000000) : s * n ≤ 2 * n + s_rt (s_gd s n) := Nat.le_trans (s_gr_ge hs hn) (Nat.le_add_left _ _)
end
section
def s_fb : Nat → Nat
  | 0 => 1
  | 1 => 2
  | k + 2 => s_fb k + s_fb (k + 1)
theorem s_fb_s (k : Nat) : s_fb (k + 2) = s_fb k + s_fb (k + 1) := rfl
theorem s_fb_up : ∀ k : Nat, 1 ≤ s_fb k ∧ s_fb k < s_fb (k + 1)
  | 0 => by decide
  | k + 1 => by
    have h := s_fb_up k
    rw [s_fb_s]
    omega
theorem s_fb_ge : ∀ k : Nat, k + 1 ≤ s_fb k
  | 0 => by decide
  | k + 1 => by
    have h := s_fb_ge k
    have h2 := s_fb_up k
    omega
/-- the place of the greatest that is at most v -/
def s_gi (v : Nat) : Nat := s_first (fun k => decide (v < s_fb (k + 1))) v
theorem s_gi_eq {v k : Nat} (hk : s_fb k ≤ v) (h : v < s_fb (k + 1)) : s_gi v = k := by
  have hkv := s_fb_ge k
  unfold s_gi
  refine s_first_eq (by omega) (decide_eq_true h) (fun j hj => decide_eq_false (fun z => ?_))
  have hm : ∀ d : Nat, s_fb (j + 1) ≤ s_fb (j + 1 + d) := fun d => by
    induction d with
    | zero => exact Nat.le_refl _
    | succ d ih => have := (s_fb_up (j + 1 + d)).2; rw [show j + 1 + (d + 1) = j + 1 + d + 1 by omega]; omega
  have := hm (k - (j + 1))
  rw [show j + 1 + (k - (j + 1)) = k by omega] at this
  omega
def s_gf (v : Nat) : Nat := s_fb (s_gi v)
/-- what is left behind i summands -/
def s_rs (v : Nat) : Nat → Nat
  | 0 => v
  | i + 1 => s_rs v i - s_gf (s_rs v i)
theorem s_gi_ok {v : Nat} (h : 1 ≤ v) : s_gf v ≤ v ∧ v < s_fb (s_gi v + 1) := by
  have h1 : s_gi v < v ∨ s_gi v = v := by have := s_first_le (fun k => decide (v < s_fb (k + 1))) v; unfold s_gi; omega
  have hu : v < s_fb (s_gi v + 1) := by
    rcases h1 with h1 | h1
    · exact of_decide_eq_true (s_first_yes (fun k => decide (v < s_fb (k + 1))) v h1)
    · rw [h1]; have := s_fb_ge (v + 1); omega
  refine ⟨?_, hu⟩
  unfold s_gf
  cases e : s_gi v with
  | zero => exact h
  | succ k =>
    have h2 := s_first_no (fun k => decide (v < s_fb (k + 1))) v k (by show k < s_gi v; omega)
    have h3 := of_decide_eq_false h2
    omega
theorem s_gf_pos (v : Nat) : 1 ≤ s_gf v := (s_fb_up _).1
end
