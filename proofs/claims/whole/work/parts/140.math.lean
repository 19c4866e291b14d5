/-! Math.max, min, abs as one step each -/
section
variable {G : GL} {K : KC} {Q : State → Prop} {kc ks : Nat} {ex : Bool} {n : Nat} {pc : Nat} {ls : List (Option Value)} {st : List Value} {σ : Nat → va_E} {own : String} {b : ByteArray} {nL : Nat} {ret : Option FieldType} {R : Room} {hh : List (Nat × Nat × Nat × Nat)}
theorem mw_max : Cond.static Lib.Math.max.name ∈ lw_tbl ∧ Cond.initialized "java/lang/Math" ∈ lw_tbl ∧ Cond.code Lib.Math.max.name Lib.Math.max.code 2 (some .int) ∈ lw_tbl := ⟨q_mt 712 (by decide +kernel), q_mt 17 (by decide +kernel), q_mt 713 (by decide +kernel)⟩
theorem mw_min : Cond.static Lib.Math.min.name ∈ lw_tbl ∧ Cond.initialized "java/lang/Math" ∈ lw_tbl ∧ Cond.code Lib.Math.min.name Lib.Math.min.code 2 (some .int) ∈ lw_tbl := ⟨q_mt 422 (by decide +kernel), q_mt 17 (by decide +kernel), q_mt 423 (by decide +kernel)⟩
theorem mw_abs : Cond.static Lib.Math.abs.name ∈ lw_tbl ∧ Cond.initialized "java/lang/Math" ∈ lw_tbl ∧ Cond.code Lib.Math.abs.name Lib.Math.abs.code 1 (some .int) ∈ lw_tbl := ⟨q_mt 700 (by decide +kernel), q_mt 17 (by decide +kernel), q_mt 701 (by decide +kernel)⟩
theorem A_max (g : Gd G K own b nL ret R hh) {ix : Nat} {x y : Int32} (hl : Cond.methodLink own ix Lib.Math.max.name ∈ lw_tbl) (d : decode b pc = .ok (.invokestatic ix, 3)) (hR : 1 ≤ R.frames ∧ 21 ≤ R.locals ∧ kc ≤ R.cells ∧ ks ≤ R.slots) (hcat : (st.map fun v => v.category).sum ≤ 8)
    (k : AJ G K Q kc ks ex n (pc + 3) ls (.int (if x < y then y else x) :: st) σ) : AJ G K Q kc ks ex n pc ls (.int y :: .int x :: st) σ := fun lsA H locs h1 h2 h3 h4 => by
  have X := g.2.2.2.2.2.2.1
  have hRe := g.2.2.2.2.2.2.2.2.1
  exact va_mmax g.1 g.2.1 h1.1.symm g.2.2.2.2.2.1 (q_word X hl rfl _) (q_word X mw_max.1 rfl _) (q_word X mw_max.2.1 rfl _) (q_word X mw_max.2.2 rfl _) (by rw [hRe]; exact hR.1) (by rw [hRe]; omega) (by rw [hRe]; exact hR.2.2.1) (by rw [hRe]; exact hR.2.2.2) d (k lsA H locs h1 h2 h3 h4)
theorem A_min (g : Gd G K own b nL ret R hh) {ix : Nat} {x y : Int32} (hl : Cond.methodLink own ix Lib.Math.min.name ∈ lw_tbl) (d : decode b pc = .ok (.invokestatic ix, 3)) (hR : 1 ≤ R.frames ∧ 21 ≤ R.locals ∧ kc ≤ R.cells ∧ ks ≤ R.slots) (hcat : (st.map fun v => v.category).sum ≤ 8)
    (k : AJ G K Q kc ks ex n (pc + 3) ls (.int (if y < x then y else x) :: st) σ) : AJ G K Q kc ks ex n pc ls (.int y :: .int x :: st) σ := fun lsA H locs h1 h2 h3 h4 => by
  have X := g.2.2.2.2.2.2.1
  have hRe := g.2.2.2.2.2.2.2.2.1
  exact va_mmin g.1 g.2.1 h1.1.symm g.2.2.2.2.2.1 (q_word X hl rfl _) (q_word X mw_min.1 rfl _) (q_word X mw_min.2.1 rfl _) (q_word X mw_min.2.2 rfl _) (by rw [hRe]; exact hR.1) (by rw [hRe]; omega) (by rw [hRe]; exact hR.2.2.1) (by rw [hRe]; exact hR.2.2.2) d (k lsA H locs h1 h2 h3 h4)
theorem A_abs (g : Gd G K own b nL ret R hh) {ix : Nat} {x : Int32} (hl : Cond.methodLink own ix Lib.Math.abs.name ∈ lw_tbl) (d : decode b pc = .ok (.invokestatic ix, 3)) (hR : 1 ≤ R.frames ∧ 21 ≤ R.locals ∧ kc ≤ R.cells ∧ ks ≤ R.slots) (hcat : (st.map fun v => v.category).sum ≤ 8)
    (k : AJ G K Q kc ks ex n (pc + 3) ls (.int (if 0 ≤ x then x else 0 - x) :: st) σ) : AJ G K Q kc ks ex n pc ls (.int x :: st) σ := fun lsA H locs h1 h2 h3 h4 => by
  have X := g.2.2.2.2.2.2.1
  have hRe := g.2.2.2.2.2.2.2.2.1
  exact va_mabs g.1 g.2.1 h1.1.symm g.2.2.2.2.2.1 (q_word X hl rfl _) (q_word X mw_abs.1 rfl _) (q_word X mw_abs.2.1 rfl _) (q_word X mw_abs.2.2 rfl _) (by rw [hRe]; exact hR.1) (by rw [hRe]; omega) (by rw [hRe]; exact hR.2.2.1) (by rw [hRe]; exact hR.2.2.2) d (k lsA H locs h1 h2 h3 h4)
theorem q_max {a b : Nat} (ha : a < 2 ^ 31) (hb : b < 2 ^ 31) : Value.int (if nI a < nI b then nI b else nI a) = .int (nI (max a b)) := by
  congr 1
  by_cases h : a < b
  · rw [if_pos ((nI_ltI ha hb).mpr h), Nat.max_eq_right (by omega)]
  · rw [if_neg (fun q => h ((nI_ltI ha hb).mp q)), Nat.max_eq_left (by omega)]
theorem q_min {a b : Nat} (ha : a < 2 ^ 31) (hb : b < 2 ^ 31) : Value.int (if nI b < nI a then nI b else nI a) = .int (nI (min a b)) := by
  congr 1
  by_cases h : b < a
  · rw [if_pos ((nI_ltI hb ha).mpr h), Nat.min_eq_right (by omega)]
  · rw [if_neg (fun q => h ((nI_ltI hb ha).mp q)), Nat.min_eq_left (by omega)]
theorem q_maxM {e s : Nat} (he : e < 2 ^ 31) (hs : s + 1 < 2 ^ 31) : Value.int (if q_d e < nI s then nI s else q_d e) = .int (q_d (max e (s + 1))) := by rw [q_dMax he hs]
theorem q_abs {k l : Nat} (hk : k < 2 ^ 30) (hl : l < 2 ^ 30) : Value.int (if 0 ≤ nI k - nI l then nI k - nI l else 0 - (nI k - nI l)) = .int (nI (s_dist k l)) := by
  by_cases h : (0 : Int32) ≤ nI k - nI l
  · rw [if_pos h, q_abs1 hk hl h]
  · rw [if_neg h, Int32.zero_sub, q_abs2 hk hl h]
theorem ml_RX0_113 : Cond.methodLink RX0 113 Lib.Math.min.name ∈ lw_tbl := q_mt 421 (by decide +kernel)
theorem ml_RX2_29 : Cond.methodLink RX2 29 Lib.Math.min.name ∈ lw_tbl := q_mt 1276 (by decide +kernel)
theorem ml_RX7_46 : Cond.methodLink RX7 46 Lib.Math.abs.name ∈ lw_tbl := q_mt 699 (by decide +kernel)
theorem ml_RX8_85 : Cond.methodLink RX8 85 Lib.Math.max.name ∈ lw_tbl := q_mt 711 (by decide +kernel)
theorem ml_RX9_31 : Cond.methodLink RX9 31 Lib.Math.min.name ∈ lw_tbl := q_mt 505 (by decide +kernel)
theorem ml_RX11_89 : Cond.methodLink RX11 89 Lib.Math.max.name ∈ lw_tbl := q_mt 1709 (by decide +kernel)
theorem ml_RX11_98 : Cond.methodLink RX11 98 Lib.Math.abs.name ∈ lw_tbl := q_mt 1710 (by decide +kernel)
theorem ml_RX11_167 : Cond.methodLink RX11 167 Lib.Math.min.name ∈ lw_tbl := q_mt 1958 (by decide +kernel)
end
