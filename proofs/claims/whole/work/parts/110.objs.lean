section
def o0 (G : GL) (b : Nat) (f1 : Int32) (f3 : Int32) (f4 : Int32) (f5 : Int32) (f8 : Int32) : va_E := .inr (0, [.ref (q_h G + (b + 1)), .int f1, .ref (q_h G + (b + 2)), .int f3, .int f4, .int f5, .ref (q_h G + (b + 8)), .ref (q_h G + (b + 9)), .int f8])
def o1 (G : GL) (f0 : Int32) (f1 : Int32) (f2 : Int32) (f3 : Int32) (f4 : Int32) : va_E := .inr (1, [.int f0, .int f1, .int f2, .int f3, .int f4])
def o2 (G : GL) (b : Nat) (f1 : Int32) (f2 : Int32) : va_E := .inr (2, [.ref (q_h G + (b + 1)), .int f1, .int f2])
def o3 (G : GL) (b : Nat) (f2 : Int32) (f3 : Int32) (f4 : Int32) : va_E := .inr (3, [.ref (q_h G + (b + 1)), .ref (q_h G + (b + 3)), .int f2, .int f3, .int f4])
def o4 (G : GL) (b : Nat)  : va_E := .inr (4, [.ref (q_h G + (b + 1)), .ref (q_h G + (b + 2))])
def o5 (G : GL) (b : Nat) (f1 : Int32) : va_E := .inr (5, [.ref (q_h G + (b + 1)), .int f1])
def o6 (G : GL) (b : Nat) (f0 : Int32) (f1 : Int32) : va_E := .inr (6, [.int f0, .int f1, .ref (q_h G + (b + 1)), .ref (q_h G + (b + 2)), .ref (q_h G + (b + 3)), .ref (q_h G + (b + 4)), .ref (q_h G + (b + 5))])
def o7 (G : GL) (b : Nat) (f0 : Int64) (f1 : Int64) (f2 : Int32) (f3 : Int32) (f4 : Int32) : va_E := .inr (7, [.long f0, .long f1, .int f2, .int f3, .int f4, .ref (q_h G + (b + 1))])
def o8 (G : GL) (b : Nat) (f1 : Int32) (f4 : Int32) (f8 : Int32) (f9 : Int32) (f10 : Int32) (f11 : Int32) : va_E := .inr (8, [.ref (q_h G + (b + 1)), .int f1, .ref (q_h G + (b + 3)), .ref (q_h G + (b + 4)), .int f4, .ref (q_h G + (b + 5)), .ref (q_h G + (b + 6)), .ref (q_h G + (b + 7)), .int f8, .int f9, .int f10, .int f11])
def o9 (G : GL) (f0 : Nat) (f1 : Int32) (f2 : Int32) (f3 : Int32) (f4 : Int32) (f5 : Int32) : va_E := .inr (9, [.ref (q_h G + f0), .int f1, .int f2, .int f3, .int f4, .int f5])
def o10 (G : GL) (f1 : Int32) (f2 : Int32) (f3 : Int32) : va_E := .inr (10, [.ref (q_h G + 1), .int f1, .int f2, .int f3, .ref (q_h G + 2), .ref (q_h G + 23), .ref (q_h G + 25), .ref (q_h G + 43), .ref (q_h G + 78), .ref (q_h G + 224), .ref (q_h G + 225), .ref (q_h G + 226), .ref (q_h G + 228), .ref (q_h G + 236), .ref (q_h G + 242)])
def o11 (G : GL) (F : Nat → Int32) : va_E := .inr (11, [.ref (q_h G + 280), .ref (q_h G + 281), .ref (q_h G + 282), .ref (q_h G + 283), .ref (q_h G + 284), .int (F 5), .int (F 6), .int (F 7), .ref (q_h G + 285), .ref (q_h G + 286), .ref (q_h G + 287), .ref (q_h G + 288), .int (F 12), .ref (q_h G + 289), .ref (q_h G + 290), .ref (q_h G + 291), .int (F 16), .int (F 17), .int (F 18), .int (F 19), .ref (q_h G + 292), .int (F 21), .int (F 22), .int (F 23), .int (F 24), .int (F 25), .int (F 26), .int (F 27), .int (F 28), .int (F 29), .int (F 30), .int (F 31), .ref (q_h G + 293), .int (F 33)])
def q_c1b (l : List (Option Value)) : Nat → Bool
  | 0 => true
  | j + 1 => match l[j]? with
    | some (some v) => v.category == 1
    | _ => true
theorem q_c1d {l : List (Option Value)} {i : Nat} (h : q_c1b l i = true) : q_c1 l i := by
  intro j v hj hji
  subst hji
  simp only [q_c1b, hj] at h
  exact beq_iff_eq.mp h
theorem q_sw (lo hi : Nat) {x : Int32} (h : ¬ (x.toInt < lo ∨ (hi : Int) < x.toInt)) : ∃ k : Nat, k < hi + 1 ∧ x.toInt = k := ⟨x.toInt.toNat, by omega, by omega⟩
end
