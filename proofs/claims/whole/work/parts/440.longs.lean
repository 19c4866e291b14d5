section
theorem lP_toInt {n : Nat} (h : n < 2 ^ 63) : (lN n).toInt = (n : Int) := lg_ofNat_toInt (by omega)
theorem lP_lt {a b : Nat} (ha : a < 2 ^ 63) (hb : b < 2 ^ 63) : lN a < lN b ↔ a < b := by
  rw [Int64.lt_iff_toInt_lt, lP_toInt ha, lP_toInt hb]; omega
theorem lP_eq {a b : Nat} (ha : a < 2 ^ 63) (hb : b < 2 ^ 63) : lN a = lN b ↔ a = b := by
  rw [← Int64.toInt_inj, lP_toInt ha, lP_toInt hb]; omega
theorem lP_div {a b : Nat} (ha : a < 2 ^ 63) (hb : b < 2 ^ 63) (h0 : 0 < b) : lN a / lN b = lN (a / b) := by
  rw [← Int64.toInt_inj, Int64.toInt_div_of_ne_left, lP_toInt ha, lP_toInt hb, lP_toInt (Nat.lt_of_le_of_lt (Nat.div_le_self _ _) ha)]
  · exact (Int.ofNat_tdiv a b).symm
  · intro e
    have h1 := congrArg Int64.toInt e
    rw [lP_toInt ha] at h1
    have h2 : Int64.minValue.toInt = -9223372036854775808 := by decide
    omega
theorem lP_ne0 {b : Nat} (hb : b < 2 ^ 63) (h0 : 0 < b) : ¬ lN b = 0 := fun e => by
  have h1 : lN b = lN 0 := e
  rw [lP_eq hb (by decide)] at h1
  omega
variable {G : GL} {K : KC} {Q : State → Prop} {kc ks : Nat} {ex : Bool} {n : Nat} {pc : Nat} {ls : List (Option Value)} {st : List Value} {σ : Nat → va_E} {own : String} {b : ByteArray} {nL : Nat} {ret : Option FieldType} {R : Room} {hh : List (Nat × Nat × Nat × Nat)}
theorem A_laddP (g : Gd G K own b nL ret R hh) {x y : Nat} (d : decode b pc = .ok (.ladd, 1)) (k : AJ G K Q kc ks ex n (pc + 1) ls (.long (lN (x + y)) :: st) σ) : AJ G K Q kc ks ex n pc ls (.long (lN y) :: .long (lN x) :: st) σ := A_ladd g d (by rw [lN_add]; exact k)
theorem A_lsubP (g : Gd G K own b nL ret R hh) {x y : Nat} (d : decode b pc = .ok (.lsub, 1)) (h : y ≤ x) (k : AJ G K Q kc ks ex n (pc + 1) ls (.long (lN (x - y)) :: st) σ) : AJ G K Q kc ks ex n pc ls (.long (lN y) :: .long (lN x) :: st) σ := A_lsub g d (by rw [lN_sub h]; exact k)
theorem A_lmulP (g : Gd G K own b nL ret R hh) {x y : Nat} (d : decode b pc = .ok (.lmul, 1)) (k : AJ G K Q kc ks ex n (pc + 1) ls (.long (lN (x * y)) :: st) σ) : AJ G K Q kc ks ex n pc ls (.long (lN y) :: .long (lN x) :: st) σ := A_lmul g d (by rw [lN_mul]; exact k)
theorem A_ldivP (g : Gd G K own b nL ret R hh) {x y : Nat} (d : decode b pc = .ok (.ldiv, 1)) (hx : x < 2 ^ 63) (h0 : 0 < y) (hy : y < 2 ^ 63) (k : AJ G K Q kc ks ex n (pc + 1) ls (.long (lN (x / y)) :: st) σ) : AJ G K Q kc ks ex n pc ls (.long (lN y) :: .long (lN x) :: st) σ := A_ldiv g d (lP_ne0 hy h0) (by rw [lP_div hx hy h0]; exact k)
theorem A_i2lP (g : Gd G K own b nL ret R hh) {x : Nat} (d : decode b pc = .ok (.i2l, 1)) (hx : x < 2 ^ 31) (k : AJ G K Q kc ks ex n (pc + 1) ls (.long (lN x) :: st) σ) : AJ G K Q kc ks ex n pc ls (.int (nI x) :: st) σ := A_i2l g d (nI_l hx) k
theorem A_l2iP (g : Gd G K own b nL ret R hh) {x : Nat} (d : decode b pc = .ok (.l2i, 1)) (k : AJ G K Q kc ks ex n (pc + 1) ls (.int (nI x) :: st) σ) : AJ G K Q kc ks ex n pc ls (.long (lN x) :: st) σ := A_l2i g d (lN_i x) k
theorem lg_lt {x y : Int64} : (lg_cmp x y < 0 ↔ x < y) ∧ (lg_cmp x y = 0 ↔ x = y) ∧ (0 < lg_cmp x y ↔ y < x) := by
  have h : x < y ∨ x = y ∨ y < x := by
    rw [Int64.lt_iff_toInt_lt, Int64.lt_iff_toInt_lt, ← Int64.toInt_inj]; omega
  have n1 : x < y → ¬ x = y := fun q e => by rw [e, Int64.lt_iff_toInt_lt] at q; omega
  have n2 : x < y → ¬ y < x := fun q e => by rw [Int64.lt_iff_toInt_lt] at q e; omega
  have n3 : y < x → ¬ x = y := fun q e => by rw [e, Int64.lt_iff_toInt_lt] at q; omega
  unfold lg_cmp
  rcases h with h | h | h
  · simp only [h, n1 h, n2 h]; decide
  · subst h
    have z : ¬ x < x := fun q => n1 q rfl
    simp [z]
  · have z : ¬ x < y := fun q => n2 q h
    simp [z, h, n3 h]
end
section
theorem lP_le {a b : Nat} (ha : a < 2 ^ 63) (hb : b < 2 ^ 63) : lN a ≤ lN b ↔ a ≤ b := by
  rw [Int64.le_iff_toInt_le, lP_toInt ha, lP_toInt hb]; omega
variable {G : GL} {K : KC} {Q : State → Prop} {kc ks : Nat} {ex : Bool} {n : Nat} {pc : Nat} {ls : List (Option Value)} {st : List Value} {σ : Nat → va_E} {own : String} {b : ByteArray} {nL : Nat} {ret : Option FieldType} {R : Room} {hh : List (Nat × Nat × Nat × Nat)}
theorem A_lc_lt (g : Gd G K own b nL ret R hh) {x y : Nat} {off : Int} {tgt : Nat} (d : decode b pc = .ok (.ifCond .lt off, 3)) (hx : x < 2 ^ 63) (hy : y < 2 ^ 63) (ht : (pc : Int) + off = (tgt : Int)) (kt : x < y → AJ G K Q kc ks ex n tgt ls st σ) (kf : ¬ x < y → AJ G K Q kc ks ex n (pc + 3) ls st σ) : AJ G K Q kc ks ex n pc ls (.int (lg_cmp (lN x) (lN y)) :: st) σ := A_if_lt g d ht (q_iff ((lg_cmp_lt _ _).trans (lP_lt hx hy)) kt) (q_ifn ((lg_cmp_lt _ _).trans (lP_lt hx hy)) kf)
theorem A_lc_ge (g : Gd G K own b nL ret R hh) {x y : Nat} {off : Int} {tgt : Nat} (d : decode b pc = .ok (.ifCond .ge off, 3)) (hx : x < 2 ^ 63) (hy : y < 2 ^ 63) (ht : (pc : Int) + off = (tgt : Int)) (kt : y ≤ x → AJ G K Q kc ks ex n tgt ls st σ) (kf : ¬ y ≤ x → AJ G K Q kc ks ex n (pc + 3) ls st σ) : AJ G K Q kc ks ex n pc ls (.int (lg_cmp (lN x) (lN y)) :: st) σ := A_if_ge g d ht (q_iff ((lg_cmp_ge _ _).trans (lP_le hy hx)) kt) (q_ifn ((lg_cmp_ge _ _).trans (lP_le hy hx)) kf)
theorem A_lc_gt (g : Gd G K own b nL ret R hh) {x y : Nat} {off : Int} {tgt : Nat} (d : decode b pc = .ok (.ifCond .gt off, 3)) (hx : x < 2 ^ 63) (hy : y < 2 ^ 63) (ht : (pc : Int) + off = (tgt : Int)) (kt : y < x → AJ G K Q kc ks ex n tgt ls st σ) (kf : ¬ y < x → AJ G K Q kc ks ex n (pc + 3) ls st σ) : AJ G K Q kc ks ex n pc ls (.int (lg_cmp (lN x) (lN y)) :: st) σ := A_if_gt g d ht (q_iff ((lg_cmp_gt _ _).trans (lP_lt hy hx)) kt) (q_ifn ((lg_cmp_gt _ _).trans (lP_lt hy hx)) kf)
theorem A_lc_le (g : Gd G K own b nL ret R hh) {x y : Nat} {off : Int} {tgt : Nat} (d : decode b pc = .ok (.ifCond .le off, 3)) (hx : x < 2 ^ 63) (hy : y < 2 ^ 63) (ht : (pc : Int) + off = (tgt : Int)) (kt : x ≤ y → AJ G K Q kc ks ex n tgt ls st σ) (kf : ¬ x ≤ y → AJ G K Q kc ks ex n (pc + 3) ls st σ) : AJ G K Q kc ks ex n pc ls (.int (lg_cmp (lN x) (lN y)) :: st) σ := A_if_le g d ht (q_iff ((lg_cmp_le _ _).trans (lP_le hx hy)) kt) (q_ifn ((lg_cmp_le _ _).trans (lP_le hx hy)) kf)
theorem A_lc_eq (g : Gd G K own b nL ret R hh) {x y : Nat} {off : Int} {tgt : Nat} (d : decode b pc = .ok (.ifCond .eq off, 3)) (hx : x < 2 ^ 63) (hy : y < 2 ^ 63) (ht : (pc : Int) + off = (tgt : Int)) (kt : x = y → AJ G K Q kc ks ex n tgt ls st σ) (kf : ¬ x = y → AJ G K Q kc ks ex n (pc + 3) ls st σ) : AJ G K Q kc ks ex n pc ls (.int (lg_cmp (lN x) (lN y)) :: st) σ := A_if_eq g d ht (q_iff ((lg_cmp_eq _ _).trans (lP_eq hx hy)) kt) (q_ifn ((lg_cmp_eq _ _).trans (lP_eq hx hy)) kf)
theorem A_lc_ne (g : Gd G K own b nL ret R hh) {x y : Nat} {off : Int} {tgt : Nat} (d : decode b pc = .ok (.ifCond .ne off, 3)) (hx : x < 2 ^ 63) (hy : y < 2 ^ 63) (ht : (pc : Int) + off = (tgt : Int)) (kt : ¬ x = y → AJ G K Q kc ks ex n tgt ls st σ) (kf : x = y → AJ G K Q kc ks ex n (pc + 3) ls st σ) : AJ G K Q kc ks ex n pc ls (.int (lg_cmp (lN x) (lN y)) :: st) σ := A_if_ne g d ht (q_ifn ((lg_cmp_eq _ _).trans (lP_eq hx hy)) kt) (q_iff ((lg_cmp_eq _ _).trans (lP_eq hx hy)) kf)
end
