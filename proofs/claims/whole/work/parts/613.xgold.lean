/-! GOLDEN ROWS: each number is in one of the two -/
section
theorem x_sq (x y : Nat) : (x + y) * (x + y) = x * x + 2 * (x * y) + y * y := by
  rw [Nat.mul_add, Nat.add_mul, Nat.add_mul, Nat.mul_comm y x]; omega
theorem x_irr {p : Nat} (h2 : 2 ≤ p) (hp : ∀ z : Nat, z < p → z * z % p = 0 → z = 0) : ∀ y x : Nat, x * x = p * (y * y) → y = 0 := by
  have hd : ∀ z : Nat, z * z % p = 0 → z % p = 0 := fun z hz => hp _ (Nat.mod_lt _ (by omega)) (by rw [← Nat.mul_mod]; exact hz)
  intro y
  induction y using Nat.strongRecOn with
  | _ y ih =>
    intro x h
    by_cases hy : y = 0
    · exact hy
    · exfalso
      have e1 : x = p * (x / p) := by
        have := hd x (by rw [h]; exact Nat.mul_mod_right p _)
        have := Nat.div_add_mod x p
        omega
      have e2 : y * y = p * ((x / p) * (x / p)) := by
        have h3 : p * (y * y) = p * (p * ((x / p) * (x / p))) := by
          rw [← h]
          have h4 : x * x = (p * (x / p)) * (p * (x / p)) := by rw [← e1]
          rw [h4, Nat.mul_mul_mul_comm, Nat.mul_assoc]
        exact Nat.eq_of_mul_eq_mul_left (by omega) h3
      have e3 : y = p * (y / p) := by
        have := hd y (by rw [e2]; exact Nat.mul_mod_right p _)
        have := Nat.div_add_mod y p
        omega
      have e4 : (x / p) * (x / p) = p * ((y / p) * (y / p)) := by
        have h3 : p * ((x / p) * (x / p)) = p * (p * ((y / p) * (y / p))) := by
          rw [← e2]
          have h4 : y * y = (p * (y / p)) * (p * (y / p)) := by rw [← e3]
          rw [h4, Nat.mul_mul_mul_comm, Nat.mul_assoc]
        exact Nat.eq_of_mul_eq_mul_left (by omega) h3
      have h5 := ih (y / p) (Nat.div_lt_self (by omega) (by omega)) _ e4
      rw [h5] at e3
      omega
theorem x_nsq {s m c : Nat} (h1 : 1 ≤ s) (h5 : s ≤ 5) (h : c * c = m * m * (s * s + 4)) : m = 0 := by
  rcases (show s = 1 ∨ s = 2 ∨ s = 3 ∨ s = 4 ∨ s = 5 by omega) with rfl | rfl | rfl | rfl | rfl
  · exact x_irr (p := 5) (by decide) (by decide) m c (by rw [h, Nat.mul_comm])
  · have := x_irr (p := 2) (by decide) (by decide) (2 * m) c (by rw [h, Nat.mul_mul_mul_comm]; omega)
    omega
  · exact x_irr (p := 13) (by decide) (by decide) m c (by rw [h, Nat.mul_comm])
  · have := x_irr (p := 5) (by decide) (by decide) (2 * m) c (by rw [h, Nat.mul_mul_mul_comm]; omega)
    omega
  · exact x_irr (p := 29) (by decide) (by decide) m c (by rw [h, Nat.mul_comm])
theorem x_sq2 (m s n : Nat) : (2 * m + s * n) * (2 * m + s * n) = 4 * (m * m) + 4 * (s * (m * n)) + s * s * (n * n) := by
  rw [x_sq, Nat.mul_mul_mul_comm 2 m 2 m, Nat.mul_mul_mul_comm 2 m s n, Nat.mul_mul_mul_comm s n s n, Nat.mul_assoc 2 s (m * n)]
  omega
theorem x_gdm (s n : Nat) : s_gd s n = s * s * (n * n) + 4 * (n * n) := by
  unfold s_gd; rw [Nat.mul_add, Nat.mul_comm (n * n) (s * s), Nat.mul_comm (n * n) 4]
theorem x_beatty {s n v : Nat} (hs1 : 1 ≤ s) (hs : s ≤ 5) (hn : n + 1 ≤ 500000000) (hv : v ≤ 500000000) (h1 : s_gA s n + 1 ≤ v) (h2 : v + 1 ≤ s_gA s (n + 1)) : n ≤ v ∧ s_gB s (v - n) = v := by
  have g1 := s_gr_ge hs (show n ≤ 500000000 by omega)
  have g2 := s_gr_ge hs hn
  have k1 := s_rt_ok (Nat.lt_of_lt_of_le (s_gd_lt hs (show n ≤ 500000000 by omega)) (by decide : 2 ^ 63 ≤ 2 ^ 64))
  have k2 := s_rt_ok (Nat.lt_of_lt_of_le (s_gd_lt hs hn) (by decide : 2 ^ 63 ≤ 2 ^ 64))
  unfold s_gA at h1 h2
  have hnv : n ≤ v := by omega
  obtain ⟨m, rfl⟩ : ∃ m, v = n + m := ⟨v - n, by omega⟩
  refine ⟨hnv, ?_⟩
  rw [show n + m - n = m by omega]
  have g3 := s_gr_ge hs (show m ≤ 500000000 by omega)
  have k3 := s_rt_ok (Nat.lt_of_lt_of_le (s_gd_lt hs (show m ≤ 500000000 by omega)) (by decide : 2 ^ 63 ≤ 2 ^ 64))
  have a1 : s_rt (s_gd s n) + 1 ≤ 2 * m + s * n := by omega
  have a2 : 2 * m + s * (n + 1) ≤ s_rt (s_gd s (n + 1)) := by omega
  have b1 := Nat.lt_of_lt_of_le k1.2 (Nat.mul_le_mul a1 a1)
  have b2 := Nat.le_trans (Nat.mul_le_mul a2 a2) k2.1
  rw [x_sq2, x_gdm] at b1 b2
  have c1 : n * n ≤ m * m + s * (m * n) := by omega
  have c2 : m * m + s * (m * (n + 1)) ≤ (n + 1) * (n + 1) := by omega
  -- 2 n ≤ r + s m
  have d1 : 2 * n ≤ s_rt (s_gd s m) + s * m := by
    by_cases hle : 2 * n ≤ s * m
    · omega
    · obtain ⟨c, hc⟩ : ∃ c, 2 * n = s * m + c := ⟨2 * n - s * m, by omega⟩
      have hsq : c * c ≤ s_gd s m := by
        have q1 : (2 * n) * (2 * n) = (s * m + c) * (s * m + c) := by rw [hc]
        rw [x_sq, Nat.mul_mul_mul_comm 2 n 2 n, Nat.mul_mul_mul_comm s m s m] at q1
        have q2 : (2 * n) * (s * m) = (s * m + c) * (s * m) := by rw [hc]
        rw [Nat.mul_mul_mul_comm 2 n s m, Nat.add_mul, Nat.mul_mul_mul_comm s m s m, Nat.mul_comm c (s * m), Nat.mul_assoc 2 s (n * m), Nat.mul_comm n m] at q2
        rw [x_gdm]
        omega
      have := s_rt_ge (Nat.lt_of_lt_of_le (s_gd_lt hs (show m ≤ 500000000 by omega)) (by decide : 2 ^ 63 ≤ 2 ^ 64)) hsq
      omega
  have d2 : s_rt (s_gd s m) + s * m < 2 * (n + 1) := by
    have hpos : s * m < 2 * (n + 1) := by
      rcases Nat.lt_or_ge (s * m) (2 * (n + 1)) with h | h
      · exact h
      · exfalso
        have q := Nat.mul_le_mul_right (n + 1) h
        rw [Nat.mul_assoc, Nat.mul_assoc] at q
        have q3 : 1 ≤ (n + 1) * (n + 1) := Nat.mul_le_mul (show 1 ≤ n + 1 by omega) (show 1 ≤ n + 1 by omega)
        omega
    obtain ⟨c, hc⟩ : ∃ c, 2 * (n + 1) = s * m + c := ⟨2 * (n + 1) - s * m, by omega⟩
    have hsq : s_gd s m ≤ c * c := by
      have q1 : (2 * (n + 1)) * (2 * (n + 1)) = (s * m + c) * (s * m + c) := by rw [hc]
      rw [x_sq, Nat.mul_mul_mul_comm 2 (n + 1) 2 (n + 1), Nat.mul_mul_mul_comm s m s m] at q1
      have q2 : (2 * (n + 1)) * (s * m) = (s * m + c) * (s * m) := by rw [hc]
      rw [Nat.mul_mul_mul_comm 2 (n + 1) s m, Nat.add_mul (s * m) c, Nat.mul_mul_mul_comm s m s m, Nat.mul_comm c (s * m), Nat.mul_assoc 2 s ((n + 1) * m), Nat.mul_comm (n + 1) m] at q2
      rw [x_gdm]
      omega
    have hne : s_gd s m ≠ c * c := by
      intro he
      have hm0 := x_nsq (m := m) (c := c) hs1 hs (by rw [← he]; rfl)
      subst hm0
      have h0 : s_gd s 0 = 0 := s_gd_0 s
      rw [h0] at he
      have h00 : s * 0 = 0 := rfl
      have hcp : 1 ≤ c := by omega
      have : 1 ≤ c * c := Nat.mul_le_mul hcp hcp
      omega
    have hlt : s_rt (s_gd s m) < c := s_sq_lt (Nat.lt_of_le_of_lt k3.1 (by omega))
    omega
  unfold s_gB s_gA
  omega
theorem x_li_ok {s v : Nat} {b : Bool} (hs : s ≤ 5) (hv : v ≤ 500000000) : s_gX s b (s_li s b v) ≤ v ∧ (s_li s b v < v → v < s_gX s b (s_li s b v + 1)) := by
  constructor
  · by_cases h0 : s_li s b v = 0
    · rw [h0, s_gX_0]; exact Nat.zero_le _
    · have := s_first_no (fun n => decide (v < s_gX s b (n + 1))) v (s_li s b v - 1) (show s_li s b v - 1 < s_li s b v by omega)
      have h2 := of_decide_eq_false this
      rw [show s_li s b v - 1 + 1 = s_li s b v by omega] at h2
      omega
  · intro h
    exact of_decide_eq_true (s_first_yes (fun n => decide (v < s_gX s b (n + 1))) v h)
theorem x_li_hit {s v k : Nat} {b : Bool} (hs : s ≤ 5) (hv : v ≤ 500000000) (h1 : 1 ≤ v) (hk9 : k ≤ 500000000) (hk : s_gX s b k = v) : s_li s b v = k ∧ s_li s b (v - 1) + 1 = k := by
  have hkv : k ≤ v := by have := s_gX_ge (b := b) hs hk9; omega
  have hk1 : 1 ≤ k := by
    rcases Nat.eq_zero_or_pos k with h | h
    · rw [h, s_gX_0] at hk; omega
    · exact h
  constructor
  · exact s_li_eq hs hv hkv (by omega) (fun n h2 h3 => by have := s_gX_mono (b := b) hs (show k ≤ n by omega) (by omega); omega)
  · have h4 := s_gX_mono (b := b) hs (show k - 1 ≤ k by omega) hk9
    rw [s_li_eq hs (show v - 1 ≤ 500000000 by omega) (show k - 1 ≤ v - 1 by omega) (by omega) (fun n h2 h3 => by have := s_gX_mono (b := b) hs (show k ≤ n by omega) (by omega); omega)]
    omega
theorem x_li_mem {s v : Nat} {b : Bool} (hs : s ≤ 5) (hv : v ≤ 500000000) (h1 : 1 ≤ v) : s_gX s b (s_li s b (v - 1) + 1) = v ↔ s_gX s b (s_li s b v) = v := by
  have hle : ∀ w : Nat, s_li s b w ≤ w := s_li_le s b
  constructor
  · intro h
    rw [(x_li_hit hs hv h1 (by have := hle (v - 1); omega) h).1]; exact h
  · intro h
    rw [(x_li_hit hs hv h1 (by have := hle v; omega) h).2]; exact h
theorem x_miss {s v : Nat} (hs1 : 1 ≤ s) (hs : s ≤ 5) (hv : v ≤ 500000000) (h1 : 1 ≤ v) (h : ¬ s_gX s false (s_li s false v) = v) : s_li s true (v - 1) + 1 = s_li s true v ∧ s_gX s true (s_li s true v) = v := by
  obtain ⟨a, b⟩ := x_li_ok (s := s) (b := false) hs hv
  have hle := s_li_le s false v
  have hge := s_gX_ge (b := false) hs (show s_li s false v ≤ 500000000 by omega)
  have hlt : s_li s false v < v := by omega
  have b2 := b hlt
  rw [s_gX_f] at h a b2
  obtain ⟨hb, hB⟩ := x_beatty (n := s_li s false v) hs1 hs (by omega) hv (by omega) (by omega)
  have hX : s_gX s true (v - s_li s false v) = v := by rw [s_gX_t]; exact hB
  obtain ⟨e1, e2⟩ := x_li_hit hs hv h1 (show v - s_li s false v ≤ 500000000 by omega) hX
  exact ⟨e2.trans e1.symm, by rw [e1]; exact hX⟩
theorem x_rt_big {c v : Nat} (h : 3037000499 < c) (hv : v < 2 ^ 63) : ¬ c * c ≤ v := by
  have := Nat.mul_le_mul (show 3037000500 ≤ c by omega) (show 3037000500 ≤ c by omega)
  omega
theorem x_gA_sum {s n : Nat} (h : s * n ≤ 2 * n + s_rt (s_gd s n)) (hs : s ≤ 5) : ((nI 2 - nI s).toInt64 * lN n) + lN (s_rt (s_gd s n)) = lN (2 * n + s_rt (s_gd s n) - s * n) := by
  rw [Int64.mul_comm]; exact s_gA_sum h hs
theorem x_gd_e (s n : Nat) : (s * s + 4) * n * n = s_gd s n := by
  unfold s_gd; rw [Nat.mul_assoc, Nat.mul_comm]
theorem x_gOf {s v : Nat} (hs1 : 1 ≤ s) (hs : s ≤ 5) (hv : v ≤ 500000000) (h1 : 1 ≤ v) : s_gOf s v = if s_gX s false (s_li s false (v - 1) + 1) = v then 2 * (s_li s false (v - 1) + 1) else 2 * (s_li s true (v - 1) + 1) + 1 := by
  unfold s_gOf
  by_cases h : s_gX s false (s_li s false v) = v
  · have hl := s_li_le s false v
    rw [if_pos h, if_pos ((x_li_mem hs hv h1).mpr h), (x_li_hit hs hv h1 (by omega) h).2]; omega
  · rw [if_neg h, if_neg (fun z => h ((x_li_mem hs hv h1).mp z)), (x_miss hs1 hs hv h1 h).1]
theorem x_gPt {s v : Nat} (hs1 : 1 ≤ s) (hs : s ≤ 5) (hv : v ≤ 500000000) (h1 : 1 ≤ v) : s_gPt s v = if s_gX s false (s_li s false (v - 1) + 1) = v then v + s * (s_li s false (v - 1) + 1) else v - s * (s_li s true (v - 1) + 1) := by
  unfold s_gPt
  by_cases h : s_gX s false (s_li s false v) = v
  · have hl := s_li_le s false v
    rw [if_pos h, if_pos ((x_li_mem hs hv h1).mpr h), (x_li_hit hs hv h1 (by omega) h).2]
    rw [s_gX_f] at h
    unfold s_gB; omega
  · obtain ⟨e1, e2⟩ := x_miss hs1 hs hv h1 h
    rw [if_neg h, if_neg (fun z => h ((x_li_mem hs hv h1).mp z)), e1]
    rw [s_gX_t] at e2
    unfold s_gB at e2; omega
theorem x_gPt_le {s v : Nat} (hs1 : 1 ≤ s) (hs : s ≤ 5) (hv : v ≤ 500000000) (h1 : 1 ≤ v) (h : ¬ s_gX s false (s_li s false (v - 1) + 1) = v) : s * (s_li s true (v - 1) + 1) ≤ v := by
  obtain ⟨e1, e2⟩ := x_miss hs1 hs hv h1 (fun z => h ((x_li_mem hs hv h1).mpr z))
  rw [e1]
  rw [s_gX_t] at e2
  unfold s_gB at e2; omega
end
