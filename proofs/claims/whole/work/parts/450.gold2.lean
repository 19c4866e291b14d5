section
def s_isGP (s x y m : Nat) : Bool := (s_gA s m == min x y) && (s_gB s m == max x y)
theorem s_isGP_t {s x y m : Nat} (h1 : s_gA s m = min x y) (h2 : s_gB s m = max x y) : s_isGP s x y m = true := by
  unfold s_isGP; rw [beq_iff_eq.mpr h1, beq_iff_eq.mpr h2]; rfl
theorem s_isGP_f1 {s x y m : Nat} (h : ¬ s_gA s m = min x y) : s_isGP s x y m = false := by
  unfold s_isGP; rw [beq_eq_false_iff_ne.mpr h, Bool.false_and]
theorem s_isGP_f2 {s x y m : Nat} (h : ¬ s_gB s m = max x y) : s_isGP s x y m = false := by
  unfold s_isGP; rw [beq_eq_false_iff_ne.mpr h, Bool.and_false]
def s_isG (s x y : Nat) : Bool := s_any (s_isGP s x y) 41
theorem s_isG_t {s x y m : Nat} (hm : m < 41) (h : s_isGP s x y m = true) : s_isG s x y = true := by
  unfold s_isG; exact s_any_t hm h
theorem s_isG_f {s x y : Nat} (h : ∀ m : Nat, m < 41 → s_isGP s x y m = false) : s_isG s x y = false := by
  unfold s_isG; exact s_any_f h
def s_gOf (s v : Nat) : Nat := if s_gX s false (s_li s false v) = v then 2 * s_li s false v + 0 else 2 * s_li s true v + 1
def s_gPt (s v : Nat) : Nat := if s_gX s false (s_li s false v) = v then s_gB s (s_li s false v) else s_gA s (s_li s true v)
def s_gpP (u : Nat → Nat) (q : Nat) : Bool := !((s_V u q == 0) == s_isG (u 18) (q / 41) (q % 41))
def s_gpc (u : Nat → Nat) (p : Nat) : Nat := s_cnt (s_gpP u) p
theorem s_gpc_0 (u : Nat → Nat) : s_gpc u 0 = 0 := by unfold s_gpc; rfl
theorem s_gpc_le (u : Nat → Nat) (p : Nat) : s_gpc u p ≤ p := by
  unfold s_gpc; exact s_cnt_le _ _
theorem s_gpc_t1 {u : Nat → Nat} {p : Nat} (h : s_V u p = 0) (h2 : s_isG (u 18) (p / 41) (p % 41) = false) : s_gpc u (p + 1) = s_gpc u p + 1 := by
  unfold s_gpc; exact s_cnt_t (by unfold s_gpP; rw [beq_iff_eq.mpr h, h2]; rfl)
theorem s_gpc_t2 {u : Nat → Nat} {p : Nat} (h : ¬ s_V u p = 0) (h2 : s_isG (u 18) (p / 41) (p % 41) = true) : s_gpc u (p + 1) = s_gpc u p + 1 := by
  unfold s_gpc; exact s_cnt_t (by unfold s_gpP; rw [beq_eq_false_iff_ne.mpr h, h2]; rfl)
theorem s_gpc_f1 {u : Nat → Nat} {p : Nat} (h : s_V u p = 0) (h2 : s_isG (u 18) (p / 41) (p % 41) = true) : s_gpc u (p + 1) = s_gpc u p := by
  unfold s_gpc; exact s_cnt_f (by unfold s_gpP; rw [beq_iff_eq.mpr h, h2]; rfl)
theorem s_gpc_f2 {u : Nat → Nat} {p : Nat} (h : ¬ s_V u p = 0) (h2 : s_isG (u 18) (p / 41) (p % 41) = false) : s_gpc u (p + 1) = s_gpc u p := by
  unfold s_gpc; exact s_cnt_f (by unfold s_gpP; rw [beq_eq_false_iff_ne.mpr h, h2]; rfl)
theorem q_1t {b : Bool} (h : 1 = if b = true then 1 else 0) : b = true := by
  cases b with
  | true => rfl
  | false => rw [if_neg (by decide)] at h; cases h
theorem q_1f {b : Bool} (h : ¬ 1 = if b = true then 1 else 0) : b = false := by
  cases b with
  | true => rw [if_pos rfl] at h; exact absurd rfl h
  | false => rfl
theorem q_0t {b : Bool} (h : 0 = if b = true then 1 else 0) : b = false := by
  cases b with
  | true => rw [if_pos rfl] at h; cases h
  | false => rfl
theorem q_0f {b : Bool} (h : ¬ 0 = if b = true then 1 else 0) : b = true := by
  cases b with
  | true => rfl
  | false => rw [if_neg (by decide)] at h; exact absurd rfl h
end
section
theorem s_fb_dbl : ∀ k : Nat, s_fb (k + 1) ≤ 2 * s_fb k
  | 0 => by decide
  | k + 1 => by
    have h := s_fb_up k
    rw [s_fb_s]
    omega
theorem s_fb_mono {a b : Nat} (h : a < b) : s_fb a < s_fb b := by
  induction b with
  | zero => omega
  | succ b ih =>
    have h2 := (s_fb_up b).2
    by_cases e : a = b
    · rw [e]; exact h2
    · have := ih (by omega); omega
theorem s_rs_s (v i : Nat) : s_rs v (i + 1) = s_rs v i - s_gf (s_rs v i) := rfl
theorem s_rs_dn (v : Nat) : ∀ i : Nat, s_rs v i = 0 ∨ s_rs v i + i ≤ v
  | 0 => Or.inr (Nat.le_refl _)
  | i + 1 => by
    have h := s_rs_dn v i
    have hp := s_gf_pos (s_rs v i)
    rw [s_rs_s]
    omega
def s_sn (v : Nat) : Nat := s_first (fun i => s_rs v i == 0) v
theorem s_rs_z (v : Nat) : s_rs v v = 0 := by have := s_rs_dn v v; omega
theorem s_sn_eq {v i : Nat} (hz : s_rs v i = 0) (hno : ∀ j : Nat, j < i → ¬ s_rs v j = 0) : s_sn v = i := by
  unfold s_sn
  have h1 : i ≤ v := by
    rcases Nat.lt_or_ge v i with e | e
    · exact absurd (s_rs_z v) (hno v e)
    · exact e
  by_cases e : i < v
  · exact s_first_eq e (beq_iff_eq.mpr hz) (fun j hj => beq_eq_false_iff_ne.mpr (hno j hj))
  · rw [show i = v by omega] at hno ⊢
    exact s_first_none (fun j hj => beq_eq_false_iff_ne.mpr (hno j hj))
theorem s_sn_z (v : Nat) : s_rs v (s_sn v) = 0 := by
  have h := s_first_le (fun i => s_rs v i == 0) v
  by_cases e : s_first (fun i => s_rs v i == 0) v < v
  · exact beq_iff_eq.mp (s_first_yes (fun i => s_rs v i == 0) v e)
  · have : s_sn v = v := by unfold s_sn; omega
    rw [this]; exact s_rs_z v
theorem s_sn_nz {v j : Nat} (h : j < s_sn v) : ¬ s_rs v j = 0 := beq_eq_false_iff_ne.mp (s_first_no (fun i => s_rs v i == 0) v j h)
theorem s_sn_gt {v i : Nat} (hno : ∀ j : Nat, j < i → ¬ s_rs v j = 0) : i ≤ s_sn v := by
  rcases Nat.lt_or_ge (s_sn v) i with e | e
  · exact absurd (s_sn_z v) (hno _ e)
  · exact e
theorem s_sn_pos {v : Nat} (h : 1 ≤ v) : 0 < s_sn v := s_sn_gt (i := 1) (fun j hj => by rw [show j = 0 by omega]; show ¬ v = 0; omega)
theorem s_rs_le (v i : Nat) : s_rs v i ≤ v := by have := s_rs_dn v i; omega
theorem s_gf_le {v : Nat} (h : ¬ v = 0) : s_gf v ≤ v := (s_gi_ok (by omega)).1
end
