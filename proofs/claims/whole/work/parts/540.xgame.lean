section
/-! THE CLASS'S GAME beside the spec's: parts at their places, rules in their rows -/
def x_p (g kd fi se : Nat → Nat) : Prop := (∀ p, p < g 1 → kd p = g (133 + 5 * p + 0) ∧ fi p = g (133 + 5 * p + 1) ∧ se p = g (133 + 5 * p + 2)) ∧ ∀ s, s < g 2 → kd (4 + s) = g (153 + 3 * s + 1) ∧ fi (4 + s) = g (153 + 3 * s + 0) ∧ se (4 + s) = 0
theorem x_pl_g {b p : Nat} (h : ¬ p < b) : x_pl b p = 4 + (p - b) := by rw [x_pl_s h]; omega
theorem x_p_k {g kd fi se : Nat → Nat} {p : Nat} (h : x_p g kd fi se) (hp : p < s_np g) : kd (x_pl (g 1) p) = s_kind g p := by
  unfold s_kind
  by_cases e : p < g 1
  · rw [if_pos e, x_pl_b e]; exact (h.1 p e).1
  · rw [if_neg e, x_pl_g e]; exact (h.2 (p - g 1) (by unfold s_np at hp; omega)).1
theorem x_p_x {g kd fi se : Nat → Nat} {p : Nat} (h : x_p g kd fi se) (hp : p < s_np g) : fi (x_pl (g 1) p) = s_x g p := by
  unfold s_x
  by_cases e : p < g 1
  · rw [if_pos e, x_pl_b e]; exact (h.1 p e).2.1
  · rw [if_neg e, x_pl_g e]; exact (h.2 (p - g 1) (by unfold s_np at hp; omega)).2.1
theorem x_p_y {g kd fi se : Nat → Nat} {p : Nat} (h : x_p g kd fi se) (hp : p < s_np g) : se (x_pl (g 1) p) = s_y g p := by
  unfold s_y
  by_cases e : p < g 1
  · rw [if_pos e, x_pl_b e]; exact (h.1 p e).2.2
  · rw [if_neg e, x_pl_g e]; exact (h.2 (p - g 1) (by unfold s_np at hp; omega)).2.2
theorem s_kind_b {g : Nat → Nat} {p : Nat} (e : p < g 1) : s_kind g p = g (133 + 5 * p + 0) := by unfold s_kind; rw [if_pos e]
theorem s_kind_s {g : Nat → Nat} {p : Nat} (e : ¬ p < g 1) : s_kind g p = g (153 + 3 * (p - g 1) + 1) := by unfold s_kind; rw [if_neg e]
theorem x_ref_b {g : Nat → Nat} {p k l : Nat} (h1 : ¬ (k = 0 ∧ l = 0)) (h2 : ¬ (s_x g p < k ∨ s_y g p < l)) (e : p < g 1) : s_ref g p k l = s_forb (s_rule g (s_kind g p)) k l := by
  unfold s_ref
  rw [if_neg h1, if_neg h2, if_pos e, s_kind_b e]
theorem x_ref_s {g : Nat → Nat} {p k l : Nat} (h1 : ¬ (k = 0 ∧ l = 0)) (h2 : ¬ (s_x g p < k ∨ s_y g p < l)) (e : ¬ p < g 1) : s_ref g p k l = if s_kind g p < k then 3 else 0 := by
  unfold s_ref
  rw [if_neg h1, if_neg h2, if_neg e, s_kind_s e]
/-- what the rules' rows of a class's game hold -/
def x_rs (g nm on : Nat → Nat) (bm : Nat → Nat → Nat) : Prop := ∀ r, r < g 0 → x_on (s_rule g r) (on r) ∧ x_bm (s_rule g r) (bm r)
theorem x_fill (f : Nat → Nat) (v i j : Nat) : va_up (fun j => if j < i then v else f j) i v j = (fun j => if j < i + 1 then v else f j) j := by
  unfold va_up
  by_cases h : j = i
  · rw [if_pos h]; exact (if_pos (show j < i + 1 by omega)).symm
  · rw [if_neg h]
    by_cases h2 : j < i
    · show (if j < i then v else f j) = if j < i + 1 then v else f j
      rw [if_pos h2, if_pos (by omega)]
    · show (if j < i then v else f j) = if j < i + 1 then v else f j
      rw [if_neg h2, if_neg (by omega)]
end
section
theorem x_kept (tu : Nat → Nat) (pl p k l t j : Nat) (hj : j < 100) : va_up (va_up (va_up (va_up (va_up (va_cpy tu tu 0 5 (100 - 5)) 0 pl) 1 p) 2 k) 3 l) 4 t j = (fun j => if j < 5 then (if j = 0 then pl else if j = 1 then p else if j = 2 then k else if j = 3 then l else t) else tu (j - 5)) j := by
  show _ = if j < 5 then (if j = 0 then pl else if j = 1 then p else if j = 2 then k else if j = 3 then l else t) else tu (j - 5)
  match j with
  | 0 => rfl
  | 1 => rfl
  | 2 => rfl
  | 3 => rfl
  | 4 => rfl
  | j + 5 =>
    unfold va_up va_cpy
    rw [if_neg (by omega), if_neg (by omega), if_neg (by omega), if_neg (by omega), if_neg (by omega), if_pos (by omega), if_neg (by omega)]
    congr 1; omega
end
section
def x_mix {α : Type} (i : Nat) (f2 f : Nat → α) : Nat → α := fun j => if j < i then f2 j else f j
theorem x_mix_0 {α : Type} {f2 f : Nat → α} {j : Nat} : x_mix 0 f2 f j = f j := if_neg (Nat.not_lt_zero j)
theorem x_mix_at {α : Type} {f2 f : Nat → α} {i : Nat} : x_mix (i + 1) f2 f i = f2 i := if_pos (Nat.lt_succ_self i)
theorem x_mix_ne {α : Type} {f2 f : Nat → α} {i j : Nat} (h : j ≠ i) : x_mix (i + 1) f2 f j = x_mix i f2 f j := by
  unfold x_mix
  by_cases e : j < i
  · rw [if_pos e, if_pos (by omega)]
  · rw [if_neg e, if_neg (by omega)]
theorem x_mix_d {α : Type} {f2 f : Nat → α} {i j : Nat} (h : j < i) : x_mix i f2 f j = f2 j := if_pos h
theorem s_ref_1 {g : Nat → Nat} {p k l : Nat} (h : k = 0 ∧ l = 0) : s_ref g p k l = 1 := by unfold s_ref; rw [if_pos h]
theorem s_ref_2 {g : Nat → Nat} {p k l : Nat} (h : ¬ (k = 0 ∧ l = 0)) (h2 : s_x g p < k ∨ s_y g p < l) : s_ref g p k l = 2 := by unfold s_ref; rw [if_neg h, if_pos h2]
theorem x_of_dec {p : Prop} [Decidable p] (h : decide p = true) : p := of_decide_eq_true h
theorem x_of_ndec {p : Prop} [Decidable p] (h : decide p = false) : ¬ p := of_decide_eq_false h
end
section
theorem va_up_at {f : Nat → Nat} {i v : Nat} : va_up f i v i = v := if_pos rfl
theorem va_up_off {f : Nat → Nat} {i v j : Nat} (h : j ≠ i) : va_up f i v j = f j := if_neg h
end
