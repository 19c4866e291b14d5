/-! numbers from -1 on: q_d e is e - 1 -/
section
def q_d (e : Nat) : Int32 := nI e + (-1)
theorem q_d0 : q_d 0 = -1 := by decide
theorem q_dS (e : Nat) : q_d (e + 1) = nI e := pk_m1 e
theorem q_dadd (e : Nat) : q_d e + nI 1 = nI e := by
  unfold q_d
  rw [Int32.add_assoc, show (-1 : Int32) + nI 1 = 0 from by decide, Int32.add_zero]
theorem q_dInt {e : Nat} (h : e < 2 ^ 31) : (q_d e).toInt = (e : Int) - 1 := by
  cases e with
  | zero => decide
  | succ e => rw [q_dS, nI_toInt (by omega)]; omega
theorem q_dEq {x y : Nat} (hx : x < 2 ^ 31) (hy : y < 2 ^ 31) : q_d x = q_d y ↔ x = y := by
  constructor
  · intro h
    have := congrArg Int32.toInt h
    rw [q_dInt hx, q_dInt hy] at this
    omega
  · rintro rfl; rfl
theorem q_dLe {x y : Nat} (hx : x < 2 ^ 31) (hy : y < 2 ^ 31) : q_d x ≤ nI y ↔ x ≤ y + 1 := by
  rw [Int32.le_iff_toInt_le, q_dInt hx, nI_toInt hy]; omega
theorem q_dLt {x y : Nat} (hx : x < 2 ^ 31) (hy : y < 2 ^ 31) : nI y < q_d x ↔ y + 1 < x := by
  rw [Int32.lt_iff_toInt_lt, q_dInt hx, nI_toInt hy]; omega
theorem q_dMax {e s : Nat} (he : e < 2 ^ 31) (hs : s + 1 < 2 ^ 31) : (if q_d e < nI s then nI s else q_d e) = q_d (max e (s + 1)) := by
  by_cases h : q_d e < nI s
  · rw [if_pos h]
    have h2 : e ≤ s := by rw [Int32.lt_iff_toInt_lt, q_dInt he, nI_toInt (by omega)] at h; omega
    rw [Nat.max_eq_right (by omega), q_dS]
  · rw [if_neg h]
    have h2 : s + 1 ≤ e := by rw [Int32.lt_iff_toInt_lt, q_dInt he, nI_toInt (by omega)] at h; omega
    rw [Nat.max_eq_left h2]
theorem q_subInt {k l : Nat} (hk : k < 2 ^ 30) (hl : l < 2 ^ 30) : (nI k - nI l).toInt = (k : Int) - l := pk_sub_toInt hk hl
theorem q_abs1 {k l : Nat} (hk : k < 2 ^ 30) (hl : l < 2 ^ 30) (h : (0 : Int32) ≤ nI k - nI l) : nI k - nI l = nI (s_dist k l) := by
  rw [Int32.le_iff_toInt_le, q_subInt hk hl] at h
  have h2 : l ≤ k := by simp at h; omega
  rw [pk_sub h2]; unfold s_dist; congr 1; omega
theorem q_abs2 {k l : Nat} (hk : k < 2 ^ 30) (hl : l < 2 ^ 30) (h : ¬ (0 : Int32) ≤ nI k - nI l) : -(nI k - nI l) = nI (s_dist k l) := by
  rw [Int32.le_iff_toInt_le, q_subInt hk hl] at h
  have h2 : k < l := by simp at h; omega
  rw [Int32.neg_sub, pk_sub (by omega)]; unfold s_dist; congr 1; omega
variable {G : GL} {K : KC} {Q : State → Prop} {kc ks : Nat} {ex : Bool} {n : Nat} {pc : Nat} {ls : List (Option Value)} {st : List Value} {σ : Nat → va_E} {own : String} {b : ByteArray} {nL : Nat} {ret : Option FieldType} {R : Room} {hh : List (Nat × Nat × Nat × Nat)}
theorem A_icmp_eqM (g : Gd G K own b nL ret R hh) {x y : Nat} {off : Int} {tgt : Nat} (d : decode b pc = .ok (.if_icmp .eq off, 3)) (hx : x < 2 ^ 31) (hy : y < 2 ^ 31) (ht : (pc : Int) + off = (tgt : Int)) (kt : x = y → AJ G K Q kc ks ex n tgt ls st σ) (kf : ¬ x = y → AJ G K Q kc ks ex n (pc + 3) ls st σ) : AJ G K Q kc ks ex n pc ls (.int (q_d y) :: .int (q_d x) :: st) σ := A_icmp_eq g d ht (q_iff (q_dEq hx hy) kt) (q_ifn (q_dEq hx hy) kf)
theorem A_icmp_neM (g : Gd G K own b nL ret R hh) {x y : Nat} {off : Int} {tgt : Nat} (d : decode b pc = .ok (.if_icmp .ne off, 3)) (hx : x < 2 ^ 31) (hy : y < 2 ^ 31) (ht : (pc : Int) + off = (tgt : Int)) (kt : ¬ x = y → AJ G K Q kc ks ex n tgt ls st σ) (kf : x = y → AJ G K Q kc ks ex n (pc + 3) ls st σ) : AJ G K Q kc ks ex n pc ls (.int (q_d y) :: .int (q_d x) :: st) σ := A_icmp_ne g d ht (q_ifn (q_dEq hx hy) kt) (q_iff (q_dEq hx hy) kf)
theorem A_icmp_geNM (g : Gd G K own b nL ret R hh) {x y : Nat} {off : Int} {tgt : Nat} (d : decode b pc = .ok (.if_icmp .ge off, 3)) (hx : x < 2 ^ 31) (hy : y < 2 ^ 31) (ht : (pc : Int) + off = (tgt : Int)) (kt : y ≤ x + 1 → AJ G K Q kc ks ex n tgt ls st σ) (kf : ¬ y ≤ x + 1 → AJ G K Q kc ks ex n (pc + 3) ls st σ) : AJ G K Q kc ks ex n pc ls (.int (q_d y) :: .int (nI x) :: st) σ := A_icmp_ge g d ht (q_iff (q_dLe hy hx) kt) (q_ifn (q_dLe hy hx) kf)
theorem A_iaddM (g : Gd G K own b nL ret R hh) {x : Nat} (d : decode b pc = .ok (.iadd, 1)) (k : AJ G K Q kc ks ex n (pc + 1) ls (.int (nI x) :: st) σ) : AJ G K Q kc ks ex n pc ls (.int (nI 1) :: .int (q_d x) :: st) σ := A_iadd g d (by rw [q_dadd]; exact k)
theorem A_if_ltM (g : Gd G K own b nL ret R hh) {x : Nat} {off : Int} {tgt : Nat} (d : decode b pc = .ok (.ifCond .lt off, 3)) (hx : x < 2 ^ 31) (ht : (pc : Int) + off = (tgt : Int)) (kt : x = 0 → AJ G K Q kc ks ex n tgt ls st σ) (kf : ¬ x = 0 → AJ G K Q kc ks ex n (pc + 3) ls st σ) : AJ G K Q kc ks ex n pc ls (.int (q_d x) :: st) σ := by
  have e : q_d x < 0 ↔ x = 0 := by rw [Int32.lt_iff_toInt_lt, q_dInt hx]; simp; omega
  exact A_if_lt g d ht (q_iff e kt) (q_ifn e kf)
theorem A_if_geM (g : Gd G K own b nL ret R hh) {x : Nat} {off : Int} {tgt : Nat} (d : decode b pc = .ok (.ifCond .ge off, 3)) (hx : x < 2 ^ 31) (ht : (pc : Int) + off = (tgt : Int)) (kt : 0 < x → AJ G K Q kc ks ex n tgt ls st σ) (kf : ¬ 0 < x → AJ G K Q kc ks ex n (pc + 3) ls st σ) : AJ G K Q kc ks ex n pc ls (.int (q_d x) :: st) σ := by
  have e : (0 : Int32) ≤ q_d x ↔ 0 < x := by rw [Int32.le_iff_toInt_le, q_dInt hx]; simp; omega
  exact A_if_ge g d ht (q_iff e kt) (q_ifn e kf)
theorem A_top {v w : Value} (e : v = w) (k : AJ G K Q kc ks ex n pc ls (w :: st) σ) : AJ G K Q kc ks ex n pc ls (v :: st) σ := by rw [e]; exact k
end
