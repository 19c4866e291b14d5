section
/-! THE STATIC ROW OF SUMMANDS -/
variable {G : GL}
theorem x_fb_0 : s_fb 0 = 1 := rfl
theorem x_fb_1 : s_fb 1 = 2 := rfl
theorem x_fb_2 : s_fb 2 = 3 := by rw [show (2 : Nat) = 0 + 2 from rfl, s_fb_s, x_fb_0, x_fb_1]
theorem x_fb_3 : s_fb 3 = 5 := by rw [show (3 : Nat) = 1 + 2 from rfl, s_fb_s, x_fb_1, x_fb_2]
theorem x_fb_4 : s_fb 4 = 8 := by rw [show (4 : Nat) = 2 + 2 from rfl, s_fb_s, x_fb_2, x_fb_3]
theorem x_fb_5 : s_fb 5 = 13 := by rw [show (5 : Nat) = 3 + 2 from rfl, s_fb_s, x_fb_3, x_fb_4]
theorem x_fb_6 : s_fb 6 = 21 := by rw [show (6 : Nat) = 4 + 2 from rfl, s_fb_s, x_fb_4, x_fb_5]
theorem x_fb_7 : s_fb 7 = 34 := by rw [show (7 : Nat) = 5 + 2 from rfl, s_fb_s, x_fb_5, x_fb_6]
theorem x_fb_8 : s_fb 8 = 55 := by rw [show (8 : Nat) = 6 + 2 from rfl, s_fb_s, x_fb_6, x_fb_7]
theorem x_fb_9 : s_fb 9 = 89 := by rw [show (9 : Nat) = 7 + 2 from rfl, s_fb_s, x_fb_7, x_fb_8]
theorem x_fb_10 : s_fb 10 = 144 := by rw [show (10 : Nat) = 8 + 2 from rfl, s_fb_s, x_fb_8, x_fb_9]
theorem x_fb_11 : s_fb 11 = 233 := by rw [show (11 : Nat) = 9 + 2 from rfl, s_fb_s, x_fb_9, x_fb_10]
theorem x_fb_12 : s_fb 12 = 377 := by rw [show (12 : Nat) = 10 + 2 from rfl, s_fb_s, x_fb_10, x_fb_11]
theorem x_fb_13 : s_fb 13 = 610 := by rw [show (13 : Nat) = 11 + 2 from rfl, s_fb_s, x_fb_11, x_fb_12]
theorem x_fb_14 : s_fb 14 = 987 := by rw [show (14 : Nat) = 12 + 2 from rfl, s_fb_s, x_fb_12, x_fb_13]
theorem x_fb_15 : s_fb 15 = 1597 := by rw [show (15 : Nat) = 13 + 2 from rfl, s_fb_s, x_fb_13, x_fb_14]
theorem x_fb_16 : s_fb 16 = 2584 := by rw [show (16 : Nat) = 14 + 2 from rfl, s_fb_s, x_fb_14, x_fb_15]
theorem x_fb_17 : s_fb 17 = 4181 := by rw [show (17 : Nat) = 15 + 2 from rfl, s_fb_s, x_fb_15, x_fb_16]
theorem x_fb_18 : s_fb 18 = 6765 := by rw [show (18 : Nat) = 16 + 2 from rfl, s_fb_s, x_fb_16, x_fb_17]
theorem x_fb_19 : s_fb 19 = 10946 := by rw [show (19 : Nat) = 17 + 2 from rfl, s_fb_s, x_fb_17, x_fb_18]
theorem x_fb_20 : s_fb 20 = 17711 := by rw [show (20 : Nat) = 18 + 2 from rfl, s_fb_s, x_fb_18, x_fb_19]
theorem x_fb_21 : s_fb 21 = 28657 := by rw [show (21 : Nat) = 19 + 2 from rfl, s_fb_s, x_fb_19, x_fb_20]
theorem x_fb_22 : s_fb 22 = 46368 := by rw [show (22 : Nat) = 20 + 2 from rfl, s_fb_s, x_fb_20, x_fb_21]
theorem x_fb_23 : s_fb 23 = 75025 := by rw [show (23 : Nat) = 21 + 2 from rfl, s_fb_s, x_fb_21, x_fb_22]
theorem x_fb_24 : s_fb 24 = 121393 := by rw [show (24 : Nat) = 22 + 2 from rfl, s_fb_s, x_fb_22, x_fb_23]
theorem x_fb_25 : s_fb 25 = 196418 := by rw [show (25 : Nat) = 23 + 2 from rfl, s_fb_s, x_fb_23, x_fb_24]
theorem x_fb_26 : s_fb 26 = 317811 := by rw [show (26 : Nat) = 24 + 2 from rfl, s_fb_s, x_fb_24, x_fb_25]
theorem x_fb_27 : s_fb 27 = 514229 := by rw [show (27 : Nat) = 25 + 2 from rfl, s_fb_s, x_fb_25, x_fb_26]
theorem x_fb_28 : s_fb 28 = 832040 := by rw [show (28 : Nat) = 26 + 2 from rfl, s_fb_s, x_fb_26, x_fb_27]
theorem x_fb_29 : s_fb 29 = 1346269 := by rw [show (29 : Nat) = 27 + 2 from rfl, s_fb_s, x_fb_27, x_fb_28]
theorem x_fb_30 : s_fb 30 = 2178309 := by rw [show (30 : Nat) = 28 + 2 from rfl, s_fb_s, x_fb_28, x_fb_29]
theorem x_fb_31 : s_fb 31 = 3524578 := by rw [show (31 : Nat) = 29 + 2 from rfl, s_fb_s, x_fb_29, x_fb_30]
theorem x_fb_32 : s_fb 32 = 5702887 := by rw [show (32 : Nat) = 30 + 2 from rfl, s_fb_s, x_fb_30, x_fb_31]
theorem x_fb_33 : s_fb 33 = 9227465 := by rw [show (33 : Nat) = 31 + 2 from rfl, s_fb_s, x_fb_31, x_fb_32]
theorem x_fb_34 : s_fb 34 = 14930352 := by rw [show (34 : Nat) = 32 + 2 from rfl, s_fb_s, x_fb_32, x_fb_33]
theorem x_fb_35 : s_fb 35 = 24157817 := by rw [show (35 : Nat) = 33 + 2 from rfl, s_fb_s, x_fb_33, x_fb_34]
theorem x_fb_36 : s_fb 36 = 39088169 := by rw [show (36 : Nat) = 34 + 2 from rfl, s_fb_s, x_fb_34, x_fb_35]
theorem x_fb_37 : s_fb 37 = 63245986 := by rw [show (37 : Nat) = 35 + 2 from rfl, s_fb_s, x_fb_35, x_fb_36]
theorem x_fb_38 : s_fb 38 = 102334155 := by rw [show (38 : Nat) = 36 + 2 from rfl, s_fb_s, x_fb_36, x_fb_37]
theorem x_fb_39 : s_fb 39 = 165580141 := by rw [show (39 : Nat) = 37 + 2 from rfl, s_fb_s, x_fb_37, x_fb_38]
theorem x_fb_40 : s_fb 40 = 267914296 := by rw [show (40 : Nat) = 38 + 2 from rfl, s_fb_s, x_fb_38, x_fb_39]
theorem x_fb_41 : s_fb 41 = 433494437 := by rw [show (41 : Nat) = 39 + 2 from rfl, s_fb_s, x_fb_39, x_fb_40]
theorem x_fb_42 : s_fb 42 = 701408733 := by rw [show (42 : Nat) = 40 + 2 from rfl, s_fb_s, x_fb_40, x_fb_41]
theorem q_summ (h : q_Ok G) : ∃ t : Nat, q_oZ G "GoldenHeaps" "SUMMANDS" "[I" (.ref t) ∧ q_oT G .int t 42 (fun j => .int (nI (s_fb j))) := by
  obtain ⟨b, hw, hg⟩ := q_giv2 h
  obtain ⟨t, h1, h2⟩ := va_Tof (ty := .int) (tm := .static "GoldenHeaps" "SUMMANDS" "[I") (N := 42) (f := fun j => Value.int (nI (s_fb j))) (by decide) (hg 12 _ (by decide +kernel)) (va_eqt (z := 42) (hg 13 _ (by decide +kernel))) (fun j hj => match j, hj with
    | 0, _ => (va_eqt (z := 1) (hg 14 _ (by decide +kernel))).trans (by show some (Value.int _) = some (Value.int (nI (s_fb 0))); rw [x_fb_0]; rfl)
    | 1, _ => (va_eqt (z := 2) (hg 15 _ (by decide +kernel))).trans (by show some (Value.int _) = some (Value.int (nI (s_fb 1))); rw [x_fb_1]; rfl)
    | 2, _ => (va_eqt (z := 3) (hg 16 _ (by decide +kernel))).trans (by show some (Value.int _) = some (Value.int (nI (s_fb 2))); rw [x_fb_2]; rfl)
    | 3, _ => (va_eqt (z := 5) (hg 17 _ (by decide +kernel))).trans (by show some (Value.int _) = some (Value.int (nI (s_fb 3))); rw [x_fb_3]; rfl)
    | 4, _ => (va_eqt (z := 8) (hg 18 _ (by decide +kernel))).trans (by show some (Value.int _) = some (Value.int (nI (s_fb 4))); rw [x_fb_4]; rfl)
    | 5, _ => (va_eqt (z := 13) (hg 19 _ (by decide +kernel))).trans (by show some (Value.int _) = some (Value.int (nI (s_fb 5))); rw [x_fb_5]; rfl)
    | 6, _ => (va_eqt (z := 21) (hg 20 _ (by decide +kernel))).trans (by show some (Value.int _) = some (Value.int (nI (s_fb 6))); rw [x_fb_6]; rfl)
    | 7, _ => (va_eqt (z := 34) (hg 21 _ (by decide +kernel))).trans (by show some (Value.int _) = some (Value.int (nI (s_fb 7))); rw [x_fb_7]; rfl)
    | 8, _ => (va_eqt (z := 55) (hg 22 _ (by decide +kernel))).trans (by show some (Value.int _) = some (Value.int (nI (s_fb 8))); rw [x_fb_8]; rfl)
    | 9, _ => (va_eqt (z := 89) (hg 23 _ (by decide +kernel))).trans (by show some (Value.int _) = some (Value.int (nI (s_fb 9))); rw [x_fb_9]; rfl)
    | 10, _ => (va_eqt (z := 144) (hg 24 _ (by decide +kernel))).trans (by show some (Value.int _) = some (Value.int (nI (s_fb 10))); rw [x_fb_10]; rfl)
    | 11, _ => (va_eqt (z := 233) (hg 25 _ (by decide +kernel))).trans (by show some (Value.int _) = some (Value.int (nI (s_fb 11))); rw [x_fb_11]; rfl)
    | 12, _ => (va_eqt (z := 377) (hg 26 _ (by decide +kernel))).trans (by show some (Value.int _) = some (Value.int (nI (s_fb 12))); rw [x_fb_12]; rfl)
    | 13, _ => (va_eqt (z := 610) (hg 27 _ (by decide +kernel))).trans (by show some (Value.int _) = some (Value.int (nI (s_fb 13))); rw [x_fb_13]; rfl)
    | 14, _ => (va_eqt (z := 987) (hg 28 _ (by decide +kernel))).trans (by show some (Value.int _) = some (Value.int (nI (s_fb 14))); rw [x_fb_14]; rfl)
    | 15, _ => (va_eqt (z := 1597) (hg 29 _ (by decide +kernel))).trans (by show some (Value.int _) = some (Value.int (nI (s_fb 15))); rw [x_fb_15]; rfl)
    | 16, _ => (va_eqt (z := 2584) (hg 30 _ (by decide +kernel))).trans (by show some (Value.int _) = some (Value.int (nI (s_fb 16))); rw [x_fb_16]; rfl)
    | 17, _ => (va_eqt (z := 4181) (hg 31 _ (by decide +kernel))).trans (by show some (Value.int _) = some (Value.int (nI (s_fb 17))); rw [x_fb_17]; rfl)
    | 18, _ => (va_eqt (z := 6765) (hg 32 _ (by decide +kernel))).trans (by show some (Value.int _) = some (Value.int (nI (s_fb 18))); rw [x_fb_18]; rfl)
    | 19, _ => (va_eqt (z := 10946) (hg 33 _ (by decide +kernel))).trans (by show some (Value.int _) = some (Value.int (nI (s_fb 19))); rw [x_fb_19]; rfl)
    | 20, _ => (va_eqt (z := 17711) (hg 34 _ (by decide +kernel))).trans (by show some (Value.int _) = some (Value.int (nI (s_fb 20))); rw [x_fb_20]; rfl)
    | 21, _ => (va_eqt (z := 28657) (hg 35 _ (by decide +kernel))).trans (by show some (Value.int _) = some (Value.int (nI (s_fb 21))); rw [x_fb_21]; rfl)
    | 22, _ => (va_eqt (z := 46368) (hg 36 _ (by decide +kernel))).trans (by show some (Value.int _) = some (Value.int (nI (s_fb 22))); rw [x_fb_22]; rfl)
    | 23, _ => (va_eqt (z := 75025) (hg 37 _ (by decide +kernel))).trans (by show some (Value.int _) = some (Value.int (nI (s_fb 23))); rw [x_fb_23]; rfl)
    | 24, _ => (va_eqt (z := 121393) (hg 38 _ (by decide +kernel))).trans (by show some (Value.int _) = some (Value.int (nI (s_fb 24))); rw [x_fb_24]; rfl)
    | 25, _ => (va_eqt (z := 196418) (hg 39 _ (by decide +kernel))).trans (by show some (Value.int _) = some (Value.int (nI (s_fb 25))); rw [x_fb_25]; rfl)
    | 26, _ => (va_eqt (z := 317811) (hg 40 _ (by decide +kernel))).trans (by show some (Value.int _) = some (Value.int (nI (s_fb 26))); rw [x_fb_26]; rfl)
    | 27, _ => (va_eqt (z := 514229) (hg 41 _ (by decide +kernel))).trans (by show some (Value.int _) = some (Value.int (nI (s_fb 27))); rw [x_fb_27]; rfl)
    | 28, _ => (va_eqt (z := 832040) (hg 42 _ (by decide +kernel))).trans (by show some (Value.int _) = some (Value.int (nI (s_fb 28))); rw [x_fb_28]; rfl)
    | 29, _ => (va_eqt (z := 1346269) (hg 43 _ (by decide +kernel))).trans (by show some (Value.int _) = some (Value.int (nI (s_fb 29))); rw [x_fb_29]; rfl)
    | 30, _ => (va_eqt (z := 2178309) (hg 44 _ (by decide +kernel))).trans (by show some (Value.int _) = some (Value.int (nI (s_fb 30))); rw [x_fb_30]; rfl)
    | 31, _ => (va_eqt (z := 3524578) (hg 45 _ (by decide +kernel))).trans (by show some (Value.int _) = some (Value.int (nI (s_fb 31))); rw [x_fb_31]; rfl)
    | 32, _ => (va_eqt (z := 5702887) (hg 46 _ (by decide +kernel))).trans (by show some (Value.int _) = some (Value.int (nI (s_fb 32))); rw [x_fb_32]; rfl)
    | 33, _ => (va_eqt (z := 9227465) (hg 47 _ (by decide +kernel))).trans (by show some (Value.int _) = some (Value.int (nI (s_fb 33))); rw [x_fb_33]; rfl)
    | 34, _ => (va_eqt (z := 14930352) (hg 48 _ (by decide +kernel))).trans (by show some (Value.int _) = some (Value.int (nI (s_fb 34))); rw [x_fb_34]; rfl)
    | 35, _ => (va_eqt (z := 24157817) (hg 49 _ (by decide +kernel))).trans (by show some (Value.int _) = some (Value.int (nI (s_fb 35))); rw [x_fb_35]; rfl)
    | 36, _ => (va_eqt (z := 39088169) (hg 50 _ (by decide +kernel))).trans (by show some (Value.int _) = some (Value.int (nI (s_fb 36))); rw [x_fb_36]; rfl)
    | 37, _ => (va_eqt (z := 63245986) (hg 51 _ (by decide +kernel))).trans (by show some (Value.int _) = some (Value.int (nI (s_fb 37))); rw [x_fb_37]; rfl)
    | 38, _ => (va_eqt (z := 102334155) (hg 52 _ (by decide +kernel))).trans (by show some (Value.int _) = some (Value.int (nI (s_fb 38))); rw [x_fb_38]; rfl)
    | 39, _ => (va_eqt (z := 165580141) (hg 53 _ (by decide +kernel))).trans (by show some (Value.int _) = some (Value.int (nI (s_fb 39))); rw [x_fb_39]; rfl)
    | 40, _ => (va_eqt (z := 267914296) (hg 54 _ (by decide +kernel))).trans (by show some (Value.int _) = some (Value.int (nI (s_fb 40))); rw [x_fb_40]; rfl)
    | 41, _ => (va_eqt (z := 433494437) (hg 55 _ (by decide +kernel))).trans (by show some (Value.int _) = some (Value.int (nI (s_fb 41))); rw [x_fb_41]; rfl)
    | k + 42, h9 => absurd h9 (by omega)) (q_hA0 h)
  exact ⟨t, va_Zof (hw _ (q_mt 1169 (by decide +kernel))) (hw _ (q_mt 1 (by decide +kernel))) h1 (q_hA0 h), h2⟩
end
