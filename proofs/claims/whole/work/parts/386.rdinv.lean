section
theorem tk_inN {a : Nat} (ha : a < 2 ^ 31) (lo hi : Nat) (hl : lo < 2 ^ 31) (hh : hi < 2 ^ 31) : q_in (nI a) (nI lo) (nI hi) = decide (lo ≤ a ∧ a ≤ hi) := by
  unfold q_in
  rw [Bool.eq_iff_iff, Bool.and_eq_true, decide_eq_true_iff, decide_eq_true_iff, decide_eq_true_iff, nI_leI hl ha, nI_leI ha hh]
theorem tk_nc_ok {f : Nat → Nat} {m t lo hi : Nat} (h1 : tk_kd f m t = 2) (h2 : tk_be f m t - t ≤ 3) (h3 : decide (lo ≤ tk_vl f m t ∧ tk_vl f m t ≤ hi) = true) : tk_nc f m t lo hi = 0 := by
  unfold tk_nc; rw [if_pos ⟨h1, h2⟩, if_pos (of_decide_eq_true h3)]
theorem tk_nc_2 {f : Nat → Nat} {m t lo hi : Nat} (h1 : tk_kd f m t = 2) (h2 : tk_be f m t - t ≤ 3) (h3 : decide (lo ≤ tk_vl f m t ∧ tk_vl f m t ≤ hi) = false) : tk_nc f m t lo hi = 2 := by
  unfold tk_nc; rw [if_pos ⟨h1, h2⟩, if_neg (of_decide_eq_false h3)]
theorem tk_nc_1 {f : Nat → Nat} {m t lo hi : Nat} (h : ¬ (tk_kd f m t = 2 ∧ tk_be f m t - t ≤ 3)) : tk_nc f m t lo hi = 1 := by
  unfold tk_nc; rw [if_neg h]
theorem tk_nc_v {f : Nat → Nat} {m t lo hi : Nat} (h : tk_nc f m t lo hi = 0) : lo ≤ tk_vl f m t ∧ tk_vl f m t ≤ hi := by
  unfold tk_nc at h
  by_cases h1 : tk_kd f m t = 2 ∧ tk_be f m t - t ≤ 3
  · rw [if_pos h1] at h
    by_cases h2 : lo ≤ tk_vl f m t ∧ tk_vl f m t ≤ hi
    · exact h2
    · rw [if_neg h2] at h; cases h
  · rw [if_neg h1] at h; cases h
theorem tk_let_k {f : Nat → Nat} {m t : Nat} (h : tk_kd f m t = 1) : ∀ j : Nat, t ≤ j → j < tk_be f m t → tk_let f m j = true := by
  intro j h1 h2
  have e : tk_be f m t = tk_run (tk_let f m) m t := by unfold tk_be; rw [if_neg (by omega), if_pos h]
  exact tk_run_all j h1 (by rw [← e]; exact h2)
theorem tk_let_k2 {f : Nat → Nat} {m t : Nat} (h : tk_kd f m t = 1) : ∀ j : Nat, j < tk_be f m t - t → 97 ≤ f (t + j) ∧ f (t + j) ≤ 122 := by
  intro j hj
  have := tk_let_f (tk_let_k h (t + j) (by omega) (by omega))
  omega
theorem tk_wd_f1 {f : Nat → Nat} {m t : Nat} {bs : List Nat} (h : ¬ (tk_kd f m t = 1 ∧ tk_be f m t - t = bs.length)) : tk_wd f m t bs = false := decide_eq_false (fun z => h ⟨z.1, z.2.1⟩)
theorem tk_wd_f2 {f : Nat → Nat} {m t : Nat} {bs : List Nat} (k : Nat) (hk : k < bs.length) (h : ¬ f (t + k) = bs.getD k 0) : tk_wd f m t bs = false := decide_eq_false (fun z => h (z.2.2 k hk))
theorem tk_wd_t {f : Nat → Nat} {m t : Nat} {bs : List Nat} (h1 : tk_kd f m t = 1) (h2 : tk_be f m t - t = bs.length) (h : ∀ j : Nat, j < bs.length → f (t + j) = bs.getD j 0) : tk_wd f m t bs = true := decide_eq_true ⟨h1, h2, h⟩
end
section
theorem tk_fb {f : Nat → Nat} {m k : Nat} (hb : ∀ k : Nat, s_byte f m k ≤ 256) (h : k < m) : f k < 256 := by
  have h1 := hb k
  unfold s_byte at h1
  rw [if_pos h] at h1
  omega
theorem tk_nm_f {f : Nat → Nat} {m t : Nat} (h : ¬ (tk_kd f m t = 1 ∧ tk_be f m t - t ≤ 8)) : tk_nm f m t = false := decide_eq_false h
theorem s_nmeq_f1 {f : Nat → Nat} {m : Nat} {g : Nat → Nat} {t r : Nat} (h : ¬ g (17 + 29 * r) = tk_be f m t - t) : s_nmeq f m g t r = false := decide_eq_false (fun z => h z.1)
theorem s_nmeq_f2 {f : Nat → Nat} {m : Nat} {g : Nat → Nat} {t r : Nat} (k : Nat) (hk : k < tk_be f m t - t) (h : ¬ g (17 + 29 * r + 1 + k) = f (t + k) - 97 + 1) : s_nmeq f m g t r = false := decide_eq_false (fun z => h (z.2 k hk))
theorem s_nmeq_t {f : Nat → Nat} {m : Nat} {g : Nat → Nat} {t r : Nat} (h1 : g (17 + 29 * r) = tk_be f m t - t) (h : ∀ j : Nat, j < tk_be f m t - t → g (17 + 29 * r + 1 + j) = f (t + j) - 97 + 1) : s_nmeq f m g t r = true := decide_eq_true ⟨h1, h⟩
theorem s_ins_s {r x i : Nat} {g : Nat → Nat} (h0 : 0 < i) (h : ¬ s_rule g r (10 + i - 1) ≤ x) : s_ins r x (i - 1) (va_up g (17 + 29 * r + (10 + i)) (s_rule g r (10 + i - 1))) = s_ins r x i g := by
  obtain ⟨j, rfl⟩ : ∃ j, i = j + 1 := ⟨i - 1, by omega⟩
  have e : s_rule g r (10 + (j + 1) - 1) = g (17 + 29 * r + (10 + j)) := by unfold s_rule; congr 1
  rw [e] at h ⊢
  show s_ins r x j _ = if x < g (17 + 29 * r + (10 + j)) then s_ins r x j (va_up g (17 + 29 * r + (10 + (j + 1))) (g (17 + 29 * r + (10 + j)))) else va_up g (17 + 29 * r + (10 + (j + 1))) x
  rw [if_pos (by omega)]
theorem s_ins_e {r x i : Nat} {g : Nat → Nat} (h : i = 0 ∨ s_rule g r (10 + i - 1) ≤ x) : va_up g (17 + 29 * r + (10 + i)) x = s_ins r x i g := by
  cases i with
  | zero => rfl
  | succ j =>
    have e : s_rule g r (10 + (j + 1) - 1) = g (17 + 29 * r + (10 + j)) := by unfold s_rule; congr 1
    have h2 : g (17 + 29 * r + (10 + j)) ≤ x := by rw [← e]; exact h.resolve_left (by omega)
    show _ = if x < g (17 + 29 * r + (10 + j)) then s_ins r x j (va_up g (17 + 29 * r + (10 + (j + 1))) (g (17 + 29 * r + (10 + j)))) else va_up g (17 + 29 * r + (10 + (j + 1))) x
    rw [if_neg (by omega)]
theorem va_up_lt {g : Nat → Nat} {k v B : Nat} (h : ∀ i : Nat, g i < B) (hv : v < B) : ∀ i : Nat, va_up g k v i < B := by
  intro i
  unfold va_up
  split
  · exact hv
  · exact h i
end
