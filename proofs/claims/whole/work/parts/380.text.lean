section
/-! THE TEXT, read by tokens; f: its bytes, m: how many -/
theorem q_st_O {G : GL} {a : Nat} {bs : List Nat} (h : q_st G a bs) : q_oO G "java/lang/String" a := by
  obtain ⟨⟨v, h1, -⟩, -⟩ := h
  exact h1
theorem q_upn {F : Nat → Int32} {k j : Nat} {v : Int32} (h : j ≠ k) : upd F k v j = F j := by
  unfold upd; rw [if_neg h]
def tk_run (P : Nat → Bool) (m k : Nat) : Nat := k + s_first (fun j => !(P (k + j))) (m - k)
theorem tk_run_eq {P : Nat → Bool} {m k e : Nat} (hm : e ≤ m) (hk : k ≤ e) (hall : ∀ j : Nat, k ≤ j → j < e → P j = true) (hend : P e = false) : tk_run P m k = e := by
  unfold tk_run
  have h1 : ∀ j : Nat, j < e - k → (!(P (k + j))) = false := fun j hj => by rw [hall (k + j) (by omega) (by omega)]; rfl
  by_cases h : e < m
  · rw [s_first_eq (k := e - k) (by omega) (by show (!(P (k + (e - k)))) = true; rw [show k + (e - k) = e by omega, hend]; rfl) h1]; omega
  · rw [show m - k = e - k by omega, s_first_none h1]; omega
theorem tk_run_ge (P : Nat → Bool) (m k : Nat) : k ≤ tk_run P m k := Nat.le_add_right _ _
theorem tk_run_le (P : Nat → Bool) {m k : Nat} (h : k ≤ m) : tk_run P m k ≤ m := by
  unfold tk_run
  have := s_first_le (fun j => !(P (k + j))) (m - k)
  omega
def tk_ws (f : Nat → Nat) (m k : Nat) : Bool := (s_byte f m k == 33) || (s_byte f m k == 11)
def tk_let (f : Nat → Nat) (m k : Nat) : Bool := decide (98 ≤ s_byte f m k ∧ s_byte f m k ≤ 123)
def tk_dig (f : Nat → Nat) (m k : Nat) : Bool := decide (49 ≤ s_byte f m k ∧ s_byte f m k ≤ 58)
def tk_st (f : Nat → Nat) (m k : Nat) : Nat := tk_run (tk_ws f m) m k
def tk_kd (f : Nat → Nat) (m t : Nat) : Nat := if s_byte f m t = 0 then 0 else if tk_let f m t = true then 1 else if tk_dig f m t = true then 2 else if s_byte f m t = 60 then 3 else 4
def tk_be (f : Nat → Nat) (m t : Nat) : Nat := if tk_kd f m t = 0 then t else if tk_kd f m t = 1 then tk_run (tk_let f m) m t else if tk_kd f m t = 2 then tk_run (tk_dig f m) m t else t + 1
def tk_dv (f : Nat → Nat) (t : Nat) : Nat → Nat
  | 0 => 0
  | n + 1 => if n < 3 then 10 * tk_dv f t n + f (t + n) - 48 else tk_dv f t n
def tk_vl (f : Nat → Nat) (m t : Nat) : Nat := if tk_kd f m t = 2 then tk_dv f t (tk_be f m t - t) else 0
def tk_nx (f : Nat → Nat) (m t : Nat) : Nat := tk_st f m (tk_be f m t)
theorem tk_b0 {f : Nat → Nat} {m k : Nat} (h : s_byte f m k = 0) : m ≤ k := by
  unfold s_byte at h
  by_cases e : k < m
  · rw [if_pos e] at h; omega
  · omega
theorem tk_b1 {f : Nat → Nat} {m k : Nat} (h : ¬ s_byte f m k = 0) : k < m ∧ s_byte f m k = f k + 1 := by
  unfold s_byte at h ⊢
  by_cases e : k < m
  · rw [if_pos e]; exact ⟨e, rfl⟩
  · rw [if_neg e] at h; exact absurd rfl h
theorem tk_b2 {f : Nat → Nat} {m k : Nat} (h : m ≤ k) : s_byte f m k = 0 := by
  unfold s_byte; rw [if_neg (by omega)]
theorem tk_be_ge {f : Nat → Nat} {m t : Nat} : t ≤ tk_be f m t := by
  unfold tk_be
  repeat' split
  · exact Nat.le_refl _
  · exact tk_run_ge _ _ _
  · exact tk_run_ge _ _ _
  · omega
theorem tk_be_le {f : Nat → Nat} {m t : Nat} (h : t ≤ m) : tk_be f m t ≤ m := by
  unfold tk_be
  split
  · exact h
  · rename_i h0
    split
    · exact tk_run_le _ h
    · split
      · exact tk_run_le _ h
      · have : ¬ s_byte f m t = 0 := fun z => h0 (by unfold tk_kd; rw [if_pos z])
        exact (tk_b1 this).1
theorem tk_st_ge (f : Nat → Nat) (m k : Nat) : k ≤ tk_st f m k := tk_run_ge _ _ _
theorem tk_st_le {f : Nat → Nat} {m k : Nat} (h : k ≤ m) : tk_st f m k ≤ m := tk_run_le _ h
theorem tk_nx_le {f : Nat → Nat} {m t : Nat} (h : t ≤ m) : tk_nx f m t ≤ m := tk_st_le (tk_be_le h)
/-- digits give less than 1000 -/
theorem tk_dv_lt {f : Nat → Nat} {t : Nat} : ∀ n : Nat, (∀ j : Nat, j < n → 48 ≤ f (t + j) ∧ f (t + j) ≤ 57) → tk_dv f t n < 10 ^ (min n 3)
  | 0, _ => by show 0 < 10 ^ (min 0 3); exact Nat.pow_pos (by decide)
  | n + 1, h => by
    have ih := tk_dv_lt n (fun j hj => h j (by omega))
    have hd := h n (by omega)
    unfold tk_dv
    by_cases e : n < 3
    · rw [if_pos e, show min (n + 1) 3 = n + 1 by omega]
      rw [show min n 3 = n by omega] at ih
      rw [Nat.pow_succ]
      omega
    · rw [if_neg e, show min (n + 1) 3 = 3 by omega]
      rw [show min n 3 = 3 by omega] at ih
      exact ih
theorem tk_dig_f {f : Nat → Nat} {m k : Nat} (h : tk_dig f m k = true) : k < m ∧ 48 ≤ f k ∧ f k ≤ 57 ∧ s_byte f m k = f k + 1 := by
  have h1 := of_decide_eq_true h
  have h2 := tk_b1 (f := f) (m := m) (k := k) (by omega)
  omega
theorem tk_let_f {f : Nat → Nat} {m k : Nat} (h : tk_let f m k = true) : k < m ∧ 97 ≤ f k ∧ f k ≤ 122 ∧ s_byte f m k = f k + 1 := by
  have h1 := of_decide_eq_true h
  have h2 := tk_b1 (f := f) (m := m) (k := k) (by omega)
  omega
theorem tk_dv_1000 {f : Nat → Nat} {m t n : Nat} (h : ∀ j : Nat, t ≤ j → j < t + n → tk_dig f m j = true) : tk_dv f t n < 1000 := by
  have h1 := tk_dv_lt (f := f) (t := t) n (fun j hj => by have := tk_dig_f (h (t + j) (by omega) (by omega)); omega)
  have h2 : 10 ^ (min n 3) ≤ 10 ^ 3 := Nat.pow_le_pow_right (by decide) (by omega)
  omega
theorem tk_run_all {P : Nat → Bool} {m k : Nat} : ∀ j : Nat, k ≤ j → j < tk_run P m k → P j = true := by
  intro j h1 h2
  unfold tk_run at h2
  have h3 := s_first_no (fun j => !(P (k + j))) (m - k) (j - k) (by omega)
  rw [show k + (j - k) = j by omega] at h3
  cases e : P j with
  | true => rfl
  | false => rw [e] at h3; cases h3
theorem tk_vl_lt (f : Nat → Nat) (m t : Nat) : tk_vl f m t < 1000 := by
  unfold tk_vl
  split
  · rename_i h
    have e : tk_be f m t = tk_run (tk_dig f m) m t := by unfold tk_be; rw [if_neg (by omega), if_neg (by omega), if_pos h]
    refine tk_dv_1000 (m := m) (fun j h1 h2 => ?_)
    have := tk_be_ge (f := f) (m := m) (t := t)
    exact tk_run_all (k := t) (m := m) j h1 (by rw [← e]; omega)
  · decide
theorem tk_kd_lt (f : Nat → Nat) (m t : Nat) : tk_kd f m t < 5 := by
  unfold tk_kd
  repeat' split
  all_goals decide
/-- the token at t by its kind -/
theorem tk_k0 {f : Nat → Nat} {m t : Nat} (h : s_byte f m t = 0) : tk_kd f m t = 0 ∧ tk_be f m t = t ∧ tk_vl f m t = 0 := by
  have e : tk_kd f m t = 0 := by unfold tk_kd; rw [if_pos h]
  exact ⟨e, by unfold tk_be; rw [if_pos e], by unfold tk_vl; rw [if_neg (by omega)]⟩
theorem tk_k1 {f : Nat → Nat} {m t e : Nat} (h : tk_let f m t = true) (hm : e ≤ m) (hk : t ≤ e) (hall : ∀ j : Nat, t ≤ j → j < e → tk_let f m j = true) (hend : tk_let f m e = false) : tk_kd f m t = 1 ∧ tk_be f m t = e ∧ tk_vl f m t = 0 := by
  have z := tk_let_f h
  have e1 : tk_kd f m t = 1 := by unfold tk_kd; rw [if_neg (by omega), if_pos h]
  exact ⟨e1, by unfold tk_be; rw [if_neg (by omega), if_pos e1]; exact tk_run_eq hm hk hall hend, by unfold tk_vl; rw [if_neg (by omega)]⟩
theorem tk_k2 {f : Nat → Nat} {m t e : Nat} (h : tk_dig f m t = true) (hm : e ≤ m) (hk : t ≤ e) (hall : ∀ j : Nat, t ≤ j → j < e → tk_dig f m j = true) (hend : tk_dig f m e = false) : tk_kd f m t = 2 ∧ tk_be f m t = e ∧ tk_vl f m t = tk_dv f t (e - t) := by
  have z := tk_dig_f h
  have hl : ¬ tk_let f m t = true := fun q => by have := tk_let_f q; omega
  have e1 : tk_kd f m t = 2 := by unfold tk_kd; rw [if_neg (by omega), if_neg hl, if_pos h]
  have e2 : tk_be f m t = e := by unfold tk_be; rw [if_neg (by omega), if_neg (by omega), if_pos e1]; exact tk_run_eq hm hk hall hend
  exact ⟨e1, e2, by unfold tk_vl; rw [if_pos e1, e2]⟩
theorem tk_k34 {f : Nat → Nat} {m t : Nat} (h0 : ¬ s_byte f m t = 0) (h1 : tk_let f m t = false) (h2 : tk_dig f m t = false) : tk_kd f m t = (if s_byte f m t = 60 then 3 else 4) ∧ tk_be f m t = t + 1 ∧ tk_vl f m t = 0 := by
  have e1 : tk_kd f m t = (if s_byte f m t = 60 then 3 else 4) := by unfold tk_kd; rw [if_neg h0, if_neg (by rw [h1]; decide), if_neg (by rw [h2]; decide)]
  have e2 : 3 ≤ tk_kd f m t := by rw [e1]; split <;> decide
  exact ⟨e1, by unfold tk_be; rw [if_neg (by omega), if_neg (by omega), if_neg (by omega)], by unfold tk_vl; rw [if_neg (by omega)]⟩
end
section
theorem q_dN {x y : Nat} (hx : x < 2 ^ 31) (hy : y + 1 < 2 ^ 31) : q_d x = nI y ↔ x = y + 1 := by
  rw [← q_dS y]; exact q_dEq hx hy
theorem tk_in {b : Nat} (hb : b < 2 ^ 31) (lo hi : Nat) (hl : lo + 1 < 2 ^ 31) (hh : hi + 1 < 2 ^ 31) : q_in (q_d b) (nI lo) (nI hi) = decide (lo + 1 ≤ b ∧ b ≤ hi + 1) := by
  unfold q_in
  rw [Bool.eq_iff_iff, Bool.and_eq_true, decide_eq_true_iff, decide_eq_true_iff, decide_eq_true_iff]
  by_cases h0 : b = 0
  · rw [h0]
    refine ⟨fun z => absurd z.1 ?_, fun z => by omega⟩
    rw [Int32.le_iff_toInt_le, nI_toInt (by omega)]
    show ¬ (lo : Int) ≤ (-1 : Int)
    omega
  · obtain ⟨c, rfl⟩ : ∃ c, b = c + 1 := ⟨b - 1, by omega⟩
    rw [q_dS, nI_leI (by omega) (by omega), nI_leI (by omega) (by omega)]
    omega
theorem tk_inD {f : Nat → Nat} {m k : Nat} (hb : s_byte f m k < 2 ^ 31) : q_in (q_d (s_byte f m k)) (nI 48) (nI 57) = tk_dig f m k := tk_in hb 48 57 (by decide) (by decide)
theorem tk_inL {f : Nat → Nat} {m k : Nat} (hb : s_byte f m k < 2 ^ 31) : q_in (q_d (s_byte f m k)) (nI 97) (nI 122) = tk_let f m k := tk_in hb 97 122 (by decide) (by decide)
theorem tk_ws_t {f : Nat → Nat} {m k : Nat} (h : s_byte f m k = 33 ∨ s_byte f m k = 11) : tk_ws f m k = true := by
  unfold tk_ws
  rcases h with h | h
  · rw [h]; rfl
  · rw [h]; rfl
theorem tk_ws_f {f : Nat → Nat} {m k : Nat} (h1 : ¬ s_byte f m k = 33) (h2 : ¬ s_byte f m k = 11) : tk_ws f m k = false := by
  unfold tk_ws
  rw [beq_eq_false_iff_ne.mpr h1, beq_eq_false_iff_ne.mpr h2]; rfl
theorem tk_ws_m {f : Nat → Nat} {m k : Nat} (h : tk_ws f m k = true) : k < m := by
  unfold tk_ws at h
  by_cases e : m ≤ k
  · rw [tk_b2 e] at h; cases h
  · omega
end
