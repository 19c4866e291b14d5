/-! WHAT HOLDS AT EACH TURN OF THE LAW'S LOOP, and what its steps need of it -/
section
def iv (G : GL) (σ : Nat → va_E) (J : Nat) : Prop := ∃ (il : Nat), ∃ (z2 : Int32), ∃ (z3 : Int32), ∃ (f : Nat → Nat), ∃ (lo : Nat), ∃ (o : Nat → Nat), ∃ (g : Nat → Nat), ∃ (nx : Nat), ∃ (m : Nat), ∃ (ps : Nat → Nat → Nat), ∃ (kp : Nat → Nat), ∃ (sn : Nat → Nat → Nat), ∃ (F : Nat → Int32), ∃ (wk : Nat → Nat), ∃ (as : Nat → Nat), ∃ (sh : Nat → Nat), ∃ (a : Nat → Nat), ∃ (fb : Nat → Nat), ∃ (nv : Nat → Nat), ∃ (ns : Nat → Nat), ∃ (mk : Nat → Nat), ∃ (va : Nat → Nat), ∃ (sp : Nat → Nat), ∃ (lp : Nat → Nat), ∃ (mc : Nat), ∃ (z : Nat), ∃ (ss : Nat), ∃ (ou : Nat → Nat), ∃ (oL : Nat → Int64), ∃ (oD : Nat → UInt64), σ 0 = o10 G (nI (il)) (z2) (z3) ∧ σ 1 = q_an G 600 f ∧ σ 23 = o5 G (23) (nI (lo)) ∧ σ 24 = q_an G 256 o ∧ σ 224 = q_rn G 2 2 (fun j => some (243 + 18 * j)) ∧ σ 225 = q_bn G 2 kp ∧ σ 279 = o11 G F ∧ σ 280 = q_an G 265 g ∧ σ 281 = q_an G 265 wk ∧ σ 282 = q_an G 265 as ∧ σ 283 = q_an G 530 sh ∧ σ 284 = q_an G 2120 a ∧ σ 285 = q_bn G 1681 fb ∧ σ 286 = q_an G 1681 nv ∧ σ 287 = q_an G 1681 ns ∧ σ 288 = q_an G 2000 mk ∧ σ 289 = q_an G 6724 va ∧ σ 290 = q_an G 6724 sp ∧ σ 291 = q_an G 80 lp ∧ σ 292 = q_an G 600 f ∧ σ 293 = q_an G 300 ou ∧ σ 294 = q_ln G 1 oL ∧ σ 295 = q_dn G 1 oD ∧ (x_lj G σ) ∧ (x_gm G σ 25 g) ∧ (x_mx G σ) ∧ (x_hi G σ nx m ps) ∧ (x_oj G σ) ∧ (x_pj G σ) ∧ (x_hn G σ) ∧ (∀ j : Nat, j < 2 → x_gj G σ (243 + 18 * j)) ∧ (∀ j : Nat, j < 2 → kp j = 1 → x_gm G σ (243 + 18 * j) (sn j)) ∧ (il ≤ 600) ∧ (∀ k : Nat, f k < 256) ∧ (lo ≤ 256) ∧ (∀ j : Nat, j < lo → ou j = o j) ∧ (x_gbd g) ∧ (∀ i : Nat, i < m → (∀ j : Nat, j < 265 → a (265 * i + j) = ps i j) ∧ x_gbd (ps i)) ∧ (∀ j : Nat, j < 2 → kp j ≤ 1) ∧ (∀ j : Nat, j < 2 → (kp j = 1 ↔ ss.testBit j = true)) ∧ (ss < 4) ∧ (∀ j : Nat, j < 2 → kp j = 1 → (∀ q : Nat, q < 265 → sh (265 * j + q) = sn j q) ∧ x_gbd (sn j)) ∧ (F 5 = nI m) ∧ (F 6 = nI ss) ∧ (F 12 = nI mc) ∧ (F 16 = nI z) ∧ (F 21 = nI il) ∧ (F 22 = z2) ∧ (F 23 = z3) ∧ (F 33 = nI lo) ∧ (mc ≤ 6724 * J) ∧ (∀ v : Nat, v < 2000 → mk v ≤ mc) ∧ (s_TI z lp va sp) ∧ (∀ j : Nat, j < 80 → lp j < 2 ^ 31)
theorem iv_g {G : GL} {σ : Nat → va_E} {gb : Nat} {g : Nat → Nat} (h : x_gm G σ gb g) : s_gwf g := by
  obtain ⟨_, _, _, _, _, _, _, _, _, _, _, _, _, -, hr⟩ := h
  exact hr.1
theorem iv_hi {G : GL} {σ : Nat → va_E} {nx m : Nat} {ps : Nat → Nat → Nat} (h : x_hi G σ nx m ps) : nx < 8 ∧ m ≤ 8 ∧ σ 78 = o2 G 78 (nI nx) (nI m) := ⟨h.1, h.2.1, h.2.2.1⟩
theorem iv_byte {f : Nat → Nat} {m : Nat} (h : ∀ k : Nat, f k < 256) (k : Nat) : s_byte f m k ≤ 256 := by
  have := h k
  unfold s_byte
  split <;> omega
theorem iv_apw {f : Nat → Nat} {m : Nat} {x : Int32} (h : ∀ k : Nat, f k < 256) (k : Nat) : s_apw f m x k < 256 := by
  unfold s_apw
  exact va_up_lt (va_up_lt (va_up_lt (va_up_lt h (s_by_eq x 24).2) (s_by_eq x 16).2) (s_by_eq x 8).2) (s_by_eq x 0).2 k
theorem iv_apI {f : Nat → Nat} {m : Nat} {a b c d e : Int32} (h : ∀ k : Nat, f k < 256) (k : Nat) : s_apI f m a b c d e k < 256 := by
  unfold s_apI
  exact iv_apw (iv_apw (iv_apw (iv_apw (iv_apw h)))) k
theorem iv_pm {m : Nat} (h : m ≤ 8) : s_pmany m + 1 = min (m + 1) 8 := by
  unfold s_pmany
  split <;> omega
/-- a change put down on both sides -/
theorem iv_push {m : Nat} {a a' : Nat → Nat} {ps : Nat → Nat → Nat} {g : Nat → Nat} (h8 : m ≤ 8) (hg : x_gbd g) (h : ∀ i : Nat, i < m → (∀ j : Nat, j < 265 → a (265 * i + j) = ps i j) ∧ x_gbd (ps i)) (hnew : ∀ j : Nat, j < 265 → a' (265 * s_pmany m + j) = g j) (hold : ∀ j : Nat, j < 265 * s_pmany m → a' j = s_pshift a m j) : ∀ i : Nat, i < min (m + 1) 8 → (∀ j : Nat, j < 265 → a' (265 * i + j) = x_psh m ps g i j) ∧ x_gbd (x_psh m ps g i) := by
  intro i hi
  have hpm := iv_pm h8
  by_cases e : m = 8
  · have em : s_pmany m = 7 := by omega
    rw [em] at hnew hold
    have ex : x_psh m ps g i = if i < 7 then ps (i + 1) else g := by unfold x_psh; rw [if_neg (by omega)]
    rw [ex]
    by_cases c : i < 7
    · rw [if_pos c]
      refine ⟨fun j hj => ?_, (h (i + 1) (by omega)).2⟩
      rw [hold _ (by omega)]
      unfold s_pshift
      rw [if_pos e]
      show (if 265 * i + j < 1855 then a (265 * i + j + 265) else a (265 * i + j)) = _
      rw [if_pos (by omega), ← (h (i + 1) (by omega)).1 j hj]
      congr 1; omega
    · rw [if_neg c]
      have e7 : i = 7 := by omega
      subst e7
      exact ⟨hnew, hg⟩
  · have em : s_pmany m = m := by omega
    rw [em] at hnew hold
    have ex : x_psh m ps g i = if i < m then ps i else g := by unfold x_psh; rw [if_pos (by omega)]
    rw [ex]
    by_cases c : i < m
    · rw [if_pos c]
      refine ⟨fun j hj => ?_, (h i c).2⟩
      rw [hold _ (by omega)]
      unfold s_pshift
      rw [if_neg e]
      exact (h i c).1 j hj
    · rw [if_neg c]
      have e7 : i = m := by omega
      rw [e7]
      exact ⟨hnew, hg⟩
theorem iv_bar {g : Nat → Nat} {r k l : Nat} {s : Bool} (hg : s_gwf g) (hr : r < g 0) (hw : s_gwf (s_barG g r s k l)) : s = true → s_barred (s_rule g r) k l = false → s_rule g r 20 < 4 := by
  intro h1 h2
  have e : s_barG g r s k l = s_addBr g r k l := by unfold s_barG; rw [if_pos h1, if_neg (by rw [h2]; decide)]
  rw [e] at hw
  have h4 := (hg.2.2.2.2.2.1 r hr).2.2.2.2.1
  have e0 : s_addBr g r k l 0 = g 0 := by unfold s_addBr s_rset; rw [va_up_off (by omega), va_up_off (by omega), va_up_off (by omega)]
  have h5 := (hw.2.2.2.2.2.1 r (by rw [e0]; exact hr)).2.2.2.2.1
  have e20 : s_rule (s_addBr g r k l) r 20 = s_rule g r 20 + 1 := by unfold s_addBr; rw [s_rset_at, if_pos rfl]
  omega
theorem iv_or {ss s1 : Nat} (h : ss < 4) (h1 : s1 ≤ 1) : ss ||| 2 ^ s1 < 4 := Nat.or_lt_two_pow (n := 2) h (by
  rcases (show s1 = 0 ∨ s1 = 1 by omega) with rfl | rfl <;> decide)
theorem iv_ors {ss s1 : Nat} {kp : Nat → Nat} (h1 : s1 ≤ 1) (hk : ∀ j : Nat, j < 2 → (kp j = 1 ↔ ss.testBit j = true)) : ∀ j : Nat, j < 2 → (va_up kp s1 1 j = 1 ↔ (ss ||| 2 ^ s1).testBit j = true) := by
  intro j hj
  rw [Nat.testBit_or, Nat.testBit_two_pow]
  by_cases e : j = s1
  · rw [e, va_up_at]
    simp
  · rw [va_up_off e, hk j hj]
    simp [show ¬ s1 = j from fun z => e z.symm]
theorem iv_out {o o' ou' : Nat → Nat} {B : List Nat} (h1 : ∀ j : Nat, j < B.length → o' j = B.getD j 0) (h2 : ∀ j : Nat, j < B.length → ou' j = B.getD j 0) : ∀ j : Nat, j < B.length → ou' j = o' j := fun j hj => (h2 j hj).trans (h1 j hj).symm
theorem iv_kp0 {kp : Nat → Nat} {j : Nat} (hj : j < 2) : va_up (va_up kp 0 0) 1 0 j = 0 := by
  rcases (show j = 0 ∨ j = 1 by omega) with rfl | rfl
  · rw [va_up_off (by decide), va_up_at]
  · exact va_up_at
theorem iv_Kp {G : GL} {σ σ2 : Nat → va_E} {kp : Nat → Nat} {sn : Nat → Nat → Nat} (e : ∀ i : Nat, 243 ≤ i → i ≤ 278 → σ2 i = σ i) (h : ∀ j : Nat, j < 2 → kp j = 1 → x_gm G σ (243 + 18 * j) (sn j)) : ∀ j : Nat, j < 2 → kp j = 1 → x_gm G σ2 (243 + 18 * j) (sn j) := fun j hj hk => x_gm_e (fun i a b => e i (by omega) (by omega)) (h j hj hk)
theorem iv_Sn {G : GL} {σ σ2 : Nat → va_E} (e : ∀ i : Nat, 243 ≤ i → i ≤ 278 → σ2 i = σ i) (h : ∀ j : Nat, j < 2 → x_gj G σ (243 + 18 * j)) : ∀ j : Nat, j < 2 → x_gj G σ2 (243 + 18 * j) := fun j hj => x_gj_e (fun i a b => e i (by omega) (by omega)) (h j hj)
theorem iv_hn {G : GL} {σ σ2 : Nat → va_E} (e : ∀ i : Nat, 242 ≤ i → i ≤ 242 → σ2 i = σ i) (h : x_hn G σ) : x_hn G σ2 := x_hn_e (e 242 (Nat.le_refl _) (Nat.le_refl _)) h
/-- a game kept -/
theorem iv_keepS {G : GL} {σ σ2 : Nat → va_E} {s1 : Nat} {g : Nat → Nat} (hn : x_gm G σ2 (243 + 18 * s1) g) (h1 : s1 ≤ 1) (e : ∀ i : Nat, (i < 243 + 18 * s1 ∨ 243 + 18 * s1 + 17 < i) → 243 ≤ i → i ≤ 278 → σ2 i = σ i) (h : ∀ j : Nat, j < 2 → x_gj G σ (243 + 18 * j)) : ∀ j : Nat, j < 2 → x_gj G σ2 (243 + 18 * j) := by
  intro j hj
  by_cases c : j = s1
  · rw [c]; exact x_gm_j hn
  · exact x_gj_e (fun i a b => e i (by omega) (by omega) (by omega)) (h j hj)
theorem iv_keepK {G : GL} {σ σ2 : Nat → va_E} {s1 : Nat} {g kp : Nat → Nat} {sn : Nat → Nat → Nat} (hn : x_gm G σ2 (243 + 18 * s1) g) (h1 : s1 ≤ 1) (e : ∀ i : Nat, (i < 243 + 18 * s1 ∨ 243 + 18 * s1 + 17 < i) → 243 ≤ i → i ≤ 278 → σ2 i = σ i) (h : ∀ j : Nat, j < 2 → kp j = 1 → x_gm G σ (243 + 18 * j) (sn j)) : ∀ j : Nat, j < 2 → va_up kp s1 1 j = 1 → x_gm G σ2 (243 + 18 * j) ((fun j => if j = s1 then g else sn j) j) := by
  intro j hj hk
  show x_gm G σ2 (243 + 18 * j) (if j = s1 then g else sn j)
  by_cases c : j = s1
  · rw [if_pos c, c]; exact hn
  · rw [if_neg c]
    rw [va_up_off c] at hk
    exact x_gm_e (fun i a b => e i (by omega) (by omega) (by omega)) (h j hj hk)
theorem iv_keepM {s1 : Nat} {g kp sh sh' : Nat → Nat} {sn : Nat → Nat → Nat} (hg : x_gbd g) (k1 : ∀ j : Nat, j < 265 → sh' (265 * s1 + j) = g j) (k2 : ∀ j : Nat, (j < 265 * s1 ∨ 265 * s1 + 265 ≤ j) → sh' j = sh j) (h : ∀ j : Nat, j < 2 → kp j = 1 → (∀ q : Nat, q < 265 → sh (265 * j + q) = sn j q) ∧ x_gbd (sn j)) : ∀ j : Nat, j < 2 → va_up kp s1 1 j = 1 → (∀ q : Nat, q < 265 → sh' (265 * j + q) = (fun j => if j = s1 then g else sn j) j q) ∧ x_gbd ((fun j => if j = s1 then g else sn j) j) := by
  intro j hj hk
  show (∀ q : Nat, q < 265 → sh' (265 * j + q) = (if j = s1 then g else sn j) q) ∧ x_gbd (if j = s1 then g else sn j)
  by_cases c : j = s1
  · rw [if_pos c, c]; exact ⟨k1, hg⟩
  · rw [if_neg c]
    rw [va_up_off c] at hk
    refine ⟨fun q hq => ?_, (h j hj hk).2⟩
    rw [k2 _ (by rcases Nat.lt_or_gt_of_ne c with z | z <;> omega)]
    exact (h j hj hk).1 q hq
theorem iv_k1 {kp : Nat → Nat} {s1 : Nat} (h : ∀ j : Nat, j < 2 → kp j ≤ 1) : ∀ j : Nat, j < 2 → va_up kp s1 1 j ≤ 1 := by
  intro j hj
  unfold va_up
  split
  · exact Nat.le_refl 1
  · exact h j hj
end
