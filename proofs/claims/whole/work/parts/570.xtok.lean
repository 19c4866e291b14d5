/-! THE CLASS'S TOKENS -/
section
/-- the kind as the class tells it: a number that is too long is none -/
def x_kd (f : Nat → Nat) (m t : Nat) : Nat := if tk_kd f m t = 2 ∧ 3 < tk_be f m t - t then 4 else tk_kd f m t
theorem x_kd_0 {f : Nat → Nat} {m t : Nat} : x_kd f m t = 0 ↔ tk_kd f m t = 0 := by unfold x_kd; split <;> omega
theorem x_kd_1 {f : Nat → Nat} {m t : Nat} : x_kd f m t = 1 ↔ tk_kd f m t = 1 := by unfold x_kd; split <;> omega
theorem x_kd_2 {f : Nat → Nat} {m t : Nat} : x_kd f m t = 2 ↔ (tk_kd f m t = 2 ∧ tk_be f m t - t ≤ 3) := by unfold x_kd; split <;> omega
theorem x_kd_3 {f : Nat → Nat} {m t : Nat} : x_kd f m t = 3 ↔ tk_kd f m t = 3 := by unfold x_kd; split <;> omega
theorem x_kd_lt (f : Nat → Nat) (m t : Nat) : x_kd f m t < 5 := by have := tk_kd_lt f m t; unfold x_kd; split <;> omega
theorem q_dLt2 {x y : Nat} (hx : x < 2 ^ 31) (hy : y < 2 ^ 31) : q_d x < nI y ↔ x < y + 1 := by
  rw [Int32.lt_iff_toInt_lt, q_dInt hx, nI_toInt hy]; omega
theorem x_st_stop {f : Nat → Nat} {m b k : Nat} (hk : b ≤ k ∧ k ≤ m) (hall : ∀ j : Nat, b ≤ j → j < k → tk_ws f m j = true) (he : m ≤ k ∨ (¬ s_byte f m k = 33 ∧ ¬ s_byte f m k = 11)) : k = tk_st f m b := by
  refine (tk_run_eq hk.2 hk.1 hall ?_).symm
  rcases he with h | ⟨h1, h2⟩
  · unfold tk_ws; rw [tk_b2 h]; rfl
  · exact tk_ws_f h1 h2
theorem x_let_end {f : Nat → Nat} {m k : Nat} (he : m ≤ k ∨ tk_let f m k = false) : tk_let f m k = false := by
  rcases he with h | h
  · unfold tk_let; rw [tk_b2 h]; rfl
  · exact h
theorem x_dig_end {f : Nat → Nat} {m k : Nat} (he : m ≤ k ∨ tk_dig f m k = false) : tk_dig f m k = false := by
  rcases he with h | h
  · unfold tk_dig; rw [tk_b2 h]; rfl
  · exact h
theorem x_kd_k0 {f : Nat → Nat} {m t : Nat} (h : m ≤ t) : x_kd f m t = 0 ∧ tk_be f m t = t := by
  have := tk_k0 (tk_b2 (f := f) h)
  exact ⟨x_kd_0.mpr this.1, this.2.1⟩
theorem x_kd_k1 {f : Nat → Nat} {m t e : Nat} (h : tk_let f m t = true) (hk : t ≤ e ∧ e ≤ m) (hall : ∀ j : Nat, t ≤ j → j < e → tk_let f m j = true) (he : m ≤ e ∨ tk_let f m e = false) : x_kd f m t = 1 ∧ tk_be f m t = e ∧ tk_kd f m t = 1 := by
  have := tk_k1 h hk.2 hk.1 hall (x_let_end he)
  exact ⟨x_kd_1.mpr this.1, this.2.1, this.1⟩
theorem x_kd_k2 {f : Nat → Nat} {m t e : Nat} (h : tk_dig f m t = true) (hk : t ≤ e ∧ e ≤ m) (hall : ∀ j : Nat, t ≤ j → j < e → tk_dig f m j = true) (he : m ≤ e ∨ tk_dig f m e = false) : x_kd f m t = (if 3 < e - t then 4 else 2) ∧ tk_be f m t = e ∧ tk_vl f m t = tk_dv f t (e - t) := by
  have := tk_k2 h hk.2 hk.1 hall (x_dig_end he)
  refine ⟨?_, this.2.1, this.2.2⟩
  unfold x_kd
  rw [this.1, this.2.1]
  by_cases z : 3 < e - t
  · rw [if_pos ⟨rfl, z⟩, if_pos z]
  · rw [if_neg (fun q => z q.2), if_neg z]
theorem x_kd_k3 {f : Nat → Nat} {m t : Nat} (h0 : t < m) (h1 : tk_let f m t = false) (h2 : tk_dig f m t = false) : x_kd f m t = (if s_byte f m t = 60 then 3 else 4) ∧ tk_be f m t = t + 1 ∧ ¬ tk_kd f m t = 2 := by
  have hn : ¬ s_byte f m t = 0 := fun z => by have := tk_b0 z; omega
  have := tk_k34 hn h1 h2
  have h3 : ¬ tk_kd f m t = 2 := by rw [this.1]; split <;> decide
  refine ⟨?_, this.2.1, h3⟩
  unfold x_kd
  rw [if_neg (fun q => h3 q.1)]
  exact this.1
theorem x_byte_in {f : Nat → Nat} {m k : Nat} (h : k < m) : s_byte f m k = f k + 1 := by unfold s_byte; rw [if_pos h]
theorem x_byte_out {f : Nat → Nat} {m k : Nat} (h : m ≤ k) : s_byte f m k = 0 := tk_b2 h
theorem x_nc {f : Nat → Nat} {m t lo hi : Nat} : tk_nc f m t lo hi = if x_kd f m t = 2 then (if lo ≤ tk_vl f m t ∧ tk_vl f m t ≤ hi then 0 else 2) else 1 := by
  unfold tk_nc
  by_cases h : tk_kd f m t = 2 ∧ tk_be f m t - t ≤ 3
  · rw [if_pos h, if_pos (x_kd_2.mpr h)]
  · rw [if_neg h, if_neg (fun q => h (x_kd_2.mp q))]
/-- the row of a name that is looked at -/
def x_nu (f : Nat → Nat) (m t : Nat) : Nat → Nat := fun j => if j = 0 then tk_be f m t - t else f (t + (j - 1)) - 97 + 1
theorem x_nu_s (f : Nat → Nat) (m t j : Nat) : x_nu f m t (1 + j) = f (t + j) - 97 + 1 := by
  unfold x_nu; rw [if_neg (by omega), show 1 + j - 1 = j by omega]
theorem x_nu_w {f : Nat → Nat} {m t : Nat} (h : tk_nm f m t = true) : x_nw (x_nu f m t) := by
  have h1 := of_decide_eq_true h
  refine ⟨h1.2, fun k hk => ?_⟩
  rw [x_nu_s]
  have := tk_let_k2 h1.1 k hk
  omega
def x_tn (f : Nat → Nat) (m t : Nat) : Nat := x_pk (x_nu f m t) (tk_be f m t - t)
theorem x_tn_r {f : Nat → Nat} {m t : Nat} (h : tk_nm f m t = true) : x_nmr (x_nu f m t) (x_tn f m t) := ⟨x_nu_w h, rfl⟩
/-- the row of a word -/
def x_wu (bs : List Nat) : Nat → Nat := fun j => if j = 0 then bs.length else bs.getD (j - 1) 0 - 97 + 1
theorem x_wu_s (bs : List Nat) (j : Nat) : x_wu bs (1 + j) = bs.getD j 0 - 97 + 1 := by
  unfold x_wu; rw [if_neg (by omega), show 1 + j - 1 = j by omega]
end
