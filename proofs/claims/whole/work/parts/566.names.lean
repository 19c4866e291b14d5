/-! NAMES, packed in a long by five bits a letter -/
section
theorem lP_shl {a k : Nat} (hk : k < 64) : lN a <<< ((nI k).toInt64 &&& 63) = lN (a * 2 ^ k) := by
  have e : ∀ j : Fin 64, ((nI j.val).toInt64 &&& 63).toBitVec.smod 64 = BitVec.ofNat 64 j.val := by decide +kernel
  apply Int64.toBitVec_inj.mp
  show (BitVec.ofNat 64 a) <<< (((nI k).toInt64 &&& 63).toBitVec.smod 64) = BitVec.ofNat 64 (a * 2 ^ k)
  rw [e ⟨k, hk⟩]
  apply BitVec.eq_of_toNat_eq
  rw [BitVec.shiftLeft_eq', BitVec.toNat_shiftLeft, BitVec.toNat_ofNat, BitVec.toNat_ofNat, BitVec.toNat_ofNat, Nat.shiftLeft_eq, Nat.mod_eq_of_lt (show k < 2 ^ 64 by omega), Nat.mod_mul_mod]
theorem q_and31 (x : Nat) : nI x &&& nI 31 = nI (x % 32) := by
  apply Int32.toBitVec_inj.mp
  show (BitVec.ofNat 32 x) &&& (BitVec.ofNat 32 31) = BitVec.ofNat 32 (x % 32)
  apply BitVec.eq_of_toNat_eq
  rw [BitVec.toNat_and, BitVec.toNat_ofNat, BitVec.toNat_ofNat, BitVec.toNat_ofNat, show 31 % 2 ^ 32 = 2 ^ 5 - 1 from rfl, Nat.and_two_pow_sub_one_eq_mod]
  omega
/-- the letters of a row, packed -/
def x_pk (u : Nat → Nat) : Nat → Nat
  | 0 => 0
  | k + 1 => x_pk u k + u (1 + k) * 2 ^ (k * 5)
def x_le (nm k : Nat) : Nat := (nm >>> (k * 5)) % 32
def x_nw (u : Nat → Nat) : Prop := u 0 ≤ 8 ∧ ∀ k : Nat, k < u 0 → 1 ≤ u (1 + k) ∧ u (1 + k) ≤ 26
def x_nmr (u : Nat → Nat) (nm : Nat) : Prop := x_nw u ∧ nm = x_pk u (u 0)
theorem x_p5 (k : Nat) : 2 ^ ((k + 1) * 5) = 32 * 2 ^ (k * 5) := by
  rw [show (k + 1) * 5 = k * 5 + 5 by omega, Nat.pow_add]; omega
theorem x_pk_lt {u : Nat → Nat} : ∀ m : Nat, (∀ k : Nat, k < m → u (1 + k) < 32) → x_pk u m < 2 ^ (m * 5)
  | 0, _ => Nat.one_pos
  | m + 1, h => by
    have ih := x_pk_lt m (fun k hk => h k (by omega))
    have h1 := h m (by omega)
    show x_pk u m + u (1 + m) * 2 ^ (m * 5) < _
    rw [x_p5]
    generalize 2 ^ (m * 5) = c at ih
    have h2 : u (1 + m) * c ≤ 31 * c := Nat.mul_le_mul_right c (by omega)
    omega
theorem x_le_hi {u : Nat → Nat} {m k : Nat} (h : ∀ k : Nat, k < m → u (1 + k) < 32) (hk : m ≤ k) : x_le (x_pk u m) k = 0 := by
  unfold x_le
  have h1 := x_pk_lt m h
  have h2 : 2 ^ (m * 5) ≤ 2 ^ (k * 5) := Nat.pow_le_pow_right (by decide) (by omega)
  rw [Nat.shiftRight_eq_div_pow, Nat.div_eq_of_lt (Nat.lt_of_lt_of_le h1 h2)]
theorem x_le_at {u : Nat → Nat} {k : Nat} : ∀ {m : Nat}, (∀ k : Nat, k < m → u (1 + k) < 32) → k < m → x_le (x_pk u m) k = u (1 + k)
  | 0, _, h => absurd h (Nat.not_lt_zero k)
  | m + 1, h, hk => by
    have hm : ∀ k : Nat, k < m → u (1 + k) < 32 := fun k hk => h k (by omega)
    have hl := x_pk_lt m hm
    unfold x_le
    show ((x_pk u m + u (1 + m) * 2 ^ (m * 5)) >>> (k * 5)) % 32 = _
    rw [Nat.shiftRight_eq_div_pow]
    by_cases e : k = m
    · rw [e, Nat.add_mul_div_right _ _ (Nat.two_pow_pos _), Nat.div_eq_of_lt hl, Nat.zero_add]
      exact Nat.mod_eq_of_lt (h m (by omega))
    · have ih := x_le_at (k := k) hm (by omega)
      unfold x_le at ih
      rw [Nat.shiftRight_eq_div_pow] at ih
      have e2 : 2 ^ (m * 5) = 2 ^ (k * 5) * (32 * 2 ^ ((m - k - 1) * 5)) := by
        rw [show (32 : Nat) = 2 ^ 5 from rfl, ← Nat.pow_add, ← Nat.pow_add]; congr 1; omega
      rw [e2, ← Nat.mul_assoc, Nat.mul_comm (u (1 + m)) (2 ^ (k * 5)), Nat.mul_assoc, Nat.add_mul_div_left _ _ (Nat.two_pow_pos _)]
      rw [show u (1 + m) * (32 * 2 ^ ((m - k - 1) * 5)) = 32 * (u (1 + m) * 2 ^ ((m - k - 1) * 5)) by rw [← Nat.mul_assoc, Nat.mul_comm (u (1 + m)) 32, Nat.mul_assoc], Nat.add_mul_mod_self_left]
      exact ih
theorem x_nw_lt {u : Nat → Nat} (h : x_nw u) : ∀ k : Nat, k < u 0 → u (1 + k) < 32 := fun k hk => by have := h.2 k hk; omega
theorem x_nmr_le {u : Nat → Nat} {nm k : Nat} (h : x_nmr u nm) : x_le nm k = if k < u 0 then u (1 + k) else 0 := by
  rw [h.2]
  by_cases e : k < u 0
  · rw [if_pos e, x_le_at (x_nw_lt h.1) e]
  · rw [if_neg e, x_le_hi (x_nw_lt h.1) (by omega)]
theorem x_nmr_lt {u : Nat → Nat} {nm : Nat} (h : x_nmr u nm) : nm < 2 ^ 41 := by
  rw [h.2]
  refine Nat.lt_of_lt_of_le (x_pk_lt (u 0) (x_nw_lt h.1)) (Nat.pow_le_pow_right (by decide) ?_)
  have := h.1.1; omega
/-- equal names have equal letters -/
theorem x_nmr_inj {u w : Nat → Nat} {a b : Nat} (hu : x_nmr u a) (hw : x_nmr w b) : a = b ↔ u 0 = w 0 ∧ ∀ j : Nat, j < u 0 → u (1 + j) = w (1 + j) := by
  constructor
  · intro e
    have hl : ∀ k : Nat, (if k < u 0 then u (1 + k) else 0) = if k < w 0 then w (1 + k) else 0 := fun k => by rw [← x_nmr_le hu, ← x_nmr_le hw, e]
    have e0 : u 0 = w 0 := by
      rcases Nat.lt_trichotomy (u 0) (w 0) with h | h | h
      · have h1 := hl (u 0)
        rw [if_neg (Nat.lt_irrefl _), if_pos h] at h1
        have := hw.1.2 _ h; omega
      · exact h
      · have h1 := hl (w 0)
        rw [if_neg (Nat.lt_irrefl _), if_pos h] at h1
        have := hu.1.2 _ h; omega
    refine ⟨e0, fun j hj => ?_⟩
    have h1 := hl j
    rw [if_pos hj, if_pos (by omega)] at h1
    exact h1
  · rintro ⟨e0, hj⟩
    rw [hu.2, hw.2, ← e0]
    have : ∀ m : Nat, m ≤ u 0 → x_pk u m = x_pk w m := by
      intro m
      induction m with
      | zero => intro _; rfl
      | succ m ih =>
        intro hm
        show x_pk u m + u (1 + m) * 2 ^ (m * 5) = x_pk w m + w (1 + m) * 2 ^ (m * 5)
        rw [ih (by omega), hj m (by omega)]
    exact this _ (Nat.le_refl _)
theorem x_pk_congr {u w : Nat → Nat} : ∀ m : Nat, (∀ j : Nat, j < m → u (1 + j) = w (1 + j)) → x_pk u m = x_pk w m
  | 0, _ => rfl
  | m + 1, h => by
    show x_pk u m + u (1 + m) * 2 ^ (m * 5) = x_pk w m + w (1 + m) * 2 ^ (m * 5)
    rw [x_pk_congr m (fun j hj => h j (by omega)), h m (by omega)]
/-- a letter put behind -/
theorem x_pk_or {u : Nat → Nat} {m b : Nat} (h : ∀ k : Nat, k < m → u (1 + k) < 32) (hb : b = u (1 + m)) : x_pk u m ||| b * 2 ^ (m * 5) = x_pk u (m + 1) := by
  have hl := x_pk_lt m h
  show _ = x_pk u m + u (1 + m) * 2 ^ (m * 5)
  rw [hb, Nat.or_comm, Nat.mul_comm, ← Nat.two_pow_add_eq_or_of_lt hl, Nat.add_comm]
end
