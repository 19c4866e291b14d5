section
/-! THE CLASS'S RULES: only as bits, bars as one number each -/
def x_w (u : Nat → Nat) : Prop := u 9 ≤ 8 ∧ u 18 ≤ 5 ∧ u 19 ≤ 40 ∧ u 20 ≤ 5 ∧ (∀ i, i < 8 → u (10 + i) ≤ 40) ∧ ∀ i, i < 2 * u 20 → u (21 + i) ≤ 40
def x_on (u : Nat → Nat) (on : Nat) : Prop := on < 2 ^ 41 ∧ (∀ x : Nat, x ≤ 40 → on.testBit x = s_only u x) ∧ (u 9 = 0 ↔ on = 0)
def x_bm (u bm : Nat → Nat) : Prop := ∀ i : Nat, i < u 20 → bm i = 41 * u (21 + 2 * i) + u (21 + 2 * i + 1)
theorem x_w_of {u : Nat → Nat} (h : s_rwf u) : x_w u := by
  obtain ⟨w0, w9, w18, w19, w20, wo, wb⟩ := h
  exact ⟨w9, w18, w19, by omega, wo, fun i hi => wb i (by omega)⟩
theorem x_bar_ne {u bm : Nat → Nat} {k l i : Nat} (hw : x_w u) (hb : x_bm u bm) (hi : i < u 20) (hk : k ≤ 40) (hl : l ≤ 40) (h : ¬ bm i = k * 41 + l) : s_barp u k l i = false := by
  have h1 := hb i hi
  unfold s_barp
  by_cases e : u (21 + 2 * i) = k
  · by_cases e2 : u (21 + 2 * i + 1) = l
    · exfalso; rw [e, e2] at h1; omega
    · rw [beq_eq_false_iff_ne.mpr e2, Bool.and_false]
  · rw [beq_eq_false_iff_ne.mpr e, Bool.false_and]
theorem x_bar_eq {u bm : Nat → Nat} {k l i : Nat} (hw : x_w u) (hb : x_bm u bm) (hi : i < u 20) (hk : k ≤ 40) (hl : l ≤ 40) (h : bm i = k * 41 + l) : s_barp u k l i = true := by
  have h1 := hb i hi
  have h2 := hw.2.2.2.2.2 (2 * i) (by omega)
  have h3 := hw.2.2.2.2.2 (2 * i + 1) (by omega)
  rw [show 21 + (2 * i + 1) = 21 + 2 * i + 1 by omega] at h3
  unfold s_barp
  rw [beq_iff_eq.mpr (show u (21 + 2 * i) = k by omega), beq_iff_eq.mpr (show u (21 + 2 * i + 1) = l by omega)]; rfl
theorem lP_shr {a k : Nat} (ha : a < 2 ^ 63) (hk : k < 64) : ((lN a).toUInt64 >>> ((nI k).toInt64.toUInt64 &&& Int64.toUInt64 63)).toInt64 = lN (a >>> k) := by
  have e : ∀ j : Fin 64, (nI j.val).toInt64.toUInt64 &&& Int64.toUInt64 63 = UInt64.ofNat j.val := by decide +kernel
  rw [e ⟨k, hk⟩]
  apply Int64.toBitVec_inj.mp
  show (BitVec.ofNat 64 a) >>> (BitVec.ofNat 64 k % 64) = BitVec.ofNat 64 (a >>> k)
  apply BitVec.eq_of_toNat_eq
  rw [BitVec.toNat_ofNat]
  show (BitVec.ofNat 64 a).toNat >>> (BitVec.ofNat 64 k % 64).toNat = _
  have e1 : (BitVec.ofNat 64 a).toNat = a := by rw [BitVec.toNat_ofNat]; exact Nat.mod_eq_of_lt (by omega)
  have e2 : (BitVec.ofNat 64 k % 64).toNat = k := by
    rw [BitVec.toNat_umod, BitVec.toNat_ofNat, Nat.mod_eq_of_lt (show k < 2 ^ 64 by omega)]
    exact Nat.mod_eq_of_lt hk
  rw [e1, e2]
  exact (Nat.mod_eq_of_lt (by rw [Nat.shiftRight_eq_div_pow]; exact Nat.lt_of_le_of_lt (Nat.div_le_self _ _) (by omega))).symm
theorem lP_and (a b : Nat) : lN a &&& lN b = lN (a &&& b) := by
  apply Int64.toBitVec_inj.mp
  rw [Int64.toBitVec_and]
  show BitVec.ofNat 64 a &&& BitVec.ofNat 64 b = BitVec.ofNat 64 (a &&& b)
  apply BitVec.eq_of_getLsbD_eq
  intro i hi
  simp [BitVec.getLsbD_ofNat, Nat.testBit_and, hi]
theorem x_bit1 {a k : Nat} : (a >>> k) &&& 1 = 1 ↔ a.testBit k = true := by
  rw [Nat.testBit, Nat.and_comm 1, bne_iff_ne]
  have h := Nat.and_one_is_mod (a >>> k)
  omega
end
section
variable {G : GL} {K : KC} {Q : State → Prop} {kc ks : Nat} {ex : Bool} {n : Nat} {pc : Nat} {ls : List (Option Value)} {st : List Value} {σ : Nat → va_E} {own : String} {b : ByteArray} {nL : Nat} {ret : Option FieldType} {R : Room} {hh : List (Nat × Nat × Nat × Nat)}
theorem A_landP (g : Gd G K own b nL ret R hh) {x y : Nat} (d : decode b pc = .ok (.land, 1)) (k : AJ G K Q kc ks ex n (pc + 1) ls (.long (lN (x &&& y)) :: st) σ) : AJ G K Q kc ks ex n pc ls (.long (lN y) :: .long (lN x) :: st) σ := A_land g d (by rw [lP_and]; exact k)
theorem A_lorP (g : Gd G K own b nL ret R hh) {x y : Nat} (d : decode b pc = .ok (.lor, 1)) (k : AJ G K Q kc ks ex n (pc + 1) ls (.long (lN (x ||| y)) :: st) σ) : AJ G K Q kc ks ex n pc ls (.long (lN y) :: .long (lN x) :: st) σ := A_lor g d (by rw [lP_or]; exact k)
theorem A_lushrP (g : Gd G K own b nL ret R hh) {x y : Nat} (d : decode b pc = .ok (.lushr, 1)) (hx : x < 2 ^ 63) (hy : y < 64) (k : AJ G K Q kc ks ex n (pc + 1) ls (.long (lN (x >>> y)) :: st) σ) : AJ G K Q kc ks ex n pc ls (.int (nI y) :: .long (lN x) :: st) σ := A_lushr g d (lP_shr hx hy) k
/-- 1 put at a place below 63 -/
theorem lP_shl1' {k : Nat} (h : k < 63) : lN 1 <<< ((nI k).toInt64 &&& 63) = lN (2 ^ k) := by
  have e : ∀ j : Fin 63, lN 1 <<< ((nI j.val).toInt64 &&& 63) = lN (2 ^ j.val) := by decide +kernel
  exact e ⟨k, h⟩
theorem x_nth_s {P : Nat → Bool} {q n i : Nat} : s_cnt P (q + 1) = s_cnt P q + (if P q = true then 1 else 0) := by
  cases h : P q with
  | true => rw [s_cnt_t h]; rfl
  | false => rw [s_cnt_f h]; rfl
end
section
theorem x_only_f {u : Nat → Nat} {on x : Nat} (h : x_on u on) (hx : (decide (x ≤ 40) && on.testBit x) = false) (h40 : ∀ i, i < u 9 → u (10 + i) ≤ 40 := by assumption) : s_only u x = false := by
  by_cases e : x ≤ 40
  · rw [decide_eq_true e, Bool.true_and] at hx
    rw [← h.2.1 x e]; exact hx
  · refine s_any_f (fun i hi => beq_eq_false_iff_ne.mpr (fun z => ?_))
    have := h40 i hi
    omega
theorem x_only_t {u : Nat → Nat} {on x : Nat} (h : x_on u on) (hx : (decide (x ≤ 40) && on.testBit x) = true) : s_only u x = true := by
  rw [Bool.and_eq_true] at hx
  rw [← h.2.1 x (of_decide_eq_true hx.1)]; exact hx.2
theorem x_forb_e {u : Nat → Nat} {k l v : Nat} (h1 : ¬ u 19 < max k l) (h2 : (0 < k ∧ 0 < l) ∧ ¬ u 18 ≤ s_dist k l ∨ (k = 0 ∨ l = 0) ∧ (u 9 = 0 ∨ s_only u (k + l) = true)) (h3 : s_barred u k l = true ∧ v = 7 ∨ s_barred u k l = false ∧ v = 0) : some (Value.int (nI v)) = some (Value.int (nI (s_forb u k l))) := by
  have e : s_forb u k l = if s_barred u k l = true then 7 else 0 := by
    unfold s_forb
    rw [if_neg h1]
    rcases h2 with h2 | ⟨h2, h4⟩
    · rw [if_neg (by omega), if_neg (by omega)]
    · rw [if_neg (by rintro ⟨q1, q2, q3⟩; rcases h4 with h4 | h4; omega; rw [h4] at q3; cases q3), if_neg (by omega)]
  rw [e]
  rcases h3 with ⟨h3, h4⟩ | ⟨h3, h4⟩
  · rw [if_pos h3, h4]
  · rw [if_neg (by rw [h3]; decide), h4]
end
section
def x_oP (on q : Nat) : Bool := decide (1 ≤ q) && on.testBit q
def x_oc (on n : Nat) : Nat := s_cnt (x_oP on) n
theorem x_oc_1 (on : Nat) : x_oc on 1 = 0 := by
  unfold x_oc
  rw [s_cnt_f (P := x_oP on) (n := 0) (by unfold x_oP; rfl)]
  rfl
theorem x_oc_t {on q : Nat} (h1 : 1 ≤ q) (h : on.testBit q = true) : x_oc on (q + 1) = x_oc on q + 1 := by
  unfold x_oc
  exact s_cnt_t (by unfold x_oP; rw [decide_eq_true h1, h]; rfl)
theorem x_oc_f {on q : Nat} (h : on.testBit q = false) : x_oc on (q + 1) = x_oc on q := by
  unfold x_oc
  exact s_cnt_f (by unfold x_oP; rw [h, Bool.and_false])
theorem x_oc_le (on q : Nat) : x_oc on q ≤ q := by
  unfold x_oc; exact s_cnt_le _ _
theorem x_tb {on q : Nat} (h : (decide (q ≤ 40) && on.testBit q) = true) : on.testBit q = true := by
  rw [Bool.and_eq_true] at h; exact h.2
theorem x_tf {on q : Nat} (hq : q ≤ 40) (h : (decide (q ≤ 40) && on.testBit q) = false) : on.testBit q = false := by
  rw [decide_eq_true hq, Bool.true_and] at h; exact h
end
