section
/-! THE CLASS'S PARTS: boards at 0 to 3, sticks at 4 to 7 -/
def x_pl (b p : Nat) : Nat := if p < b then p else 4 + p - b
theorem x_pl_b {b p : Nat} (h : p < b) : x_pl b p = p := by unfold x_pl; rw [if_pos h]
theorem x_pl_s {b p : Nat} (h : ¬ p < b) : x_pl b p = 4 + p - b := by unfold x_pl; rw [if_neg h]
theorem x_pl_lt {b p : Nat} (hb : b ≤ 4) (hp : p < b + 4) : x_pl b p < 8 := by
  unfold x_pl; split <;> omega
def x_us (fi se : Nat → Nat) (b : Nat) : Nat → Nat
  | 0 => 0
  | p + 1 => x_us fi se b p + (fi (x_pl b p) + se (x_pl b p))
end
