section
/-! WHAT IS PRINTED, as lists of bytes -/
theorem q_snoc {L : List Nat} {o : Nat → Nat} {x : Nat} (h : ∀ j : Nat, j < L.length → o j = L.getD j 0) : ∀ j : Nat, j < (L ++ [x]).length → va_up o L.length x j = (L ++ [x]).getD j 0 := by
  intro j hj
  rw [List.length_append] at hj
  have hj2 : j < L.length + 1 := hj
  unfold va_up
  rw [List.getD_eq_getElem?_getD]
  by_cases e : j = L.length
  · rw [if_pos e, e, List.getElem?_append_right (Nat.le_refl _), Nat.sub_self]; rfl
  · rw [if_neg e, List.getElem?_append_left (by omega), ← List.getD_eq_getElem?_getD]; exact h j (by omega)
def s_nmk (u : Nat → Nat) : Nat → List Nat
  | 0 => []
  | k + 1 => s_nmk u k ++ [97 + u (1 + k) - 1]
def s_nml (u : Nat → Nat) : List Nat := s_nmk u (u 0)
def s_wdk (bs : List Nat) : Nat → List Nat
  | 0 => []
  | k + 1 => s_wdk bs k ++ [bs.getD k 0]
theorem s_nmk_len (u : Nat → Nat) : ∀ k : Nat, (s_nmk u k).length = k
  | 0 => rfl
  | k + 1 => by
    show (s_nmk u k ++ [97 + u (1 + k) - 1]).length = k + 1
    rw [List.length_append, s_nmk_len u k]; rfl
theorem s_wdk_len (bs : List Nat) : ∀ k : Nat, (s_wdk bs k).length = k
  | 0 => rfl
  | k + 1 => by
    show (s_wdk bs k ++ [bs.getD k 0]).length = k + 1
    rw [List.length_append, s_wdk_len bs k]; rfl
theorem s_wdk_take (bs : List Nat) : ∀ k : Nat, k ≤ bs.length → s_wdk bs k = bs.take k
  | 0, _ => rfl
  | k + 1, h => by
    show s_wdk bs k ++ [bs.getD k 0] = _
    rw [s_wdk_take bs k (by omega), List.take_add_one, List.getElem?_eq_getElem (by omega), List.getD_eq_getElem?_getD, List.getElem?_eq_getElem (by omega)]
    rfl
theorem s_wdk_all (bs : List Nat) : s_wdk bs bs.length = bs := by rw [s_wdk_take bs _ (Nat.le_refl _), List.take_length]
def s_dg (x : Nat) : List Nat := if 9 < x then [48 + x / 10, 48 + x % 10] else [48 + x % 10]
theorem s_dg_len (x : Nat) : (s_dg x).length ≤ 2 := by
  unfold s_dg; split
  · exact Nat.le_refl _
  · exact Nat.le_succ 1
def s_prt (g : Nat → Nat) (p : Nat) : List Nat := if p < g 1 then s_nml (s_rule g (g (133 + 5 * p + 0))) ++ [58] ++ s_dg (g (133 + 5 * p + 1)) ++ [44] ++ s_dg (g (133 + 5 * p + 2)) else s_dg (g (153 + 3 * (p - g 1) + 0)) ++ [47] ++ s_dg (g (153 + 3 * (p - g 1) + 1))
def s_prk (g : Nat → Nat) : Nat → List Nat
  | 0 => []
  | p + 1 => s_prk g p ++ (if 0 < p then [32] else []) ++ s_prt g p
def s_prn (u : Nat → Nat) : Nat → List Nat
  | 0 => []
  | k + 1 => s_prn u k ++ ([32] ++ s_dg (u (10 + k)))
def s_prb (u : Nat → Nat) : Nat → List Nat
  | 0 => []
  | k + 1 => s_prb u k ++ ([32, 98, 97, 114] ++ ([32] ++ s_dg (u (21 + 2 * k))) ++ ([32] ++ s_dg (u (21 + 2 * k + 1))))
def s_pr1 (u : Nat → Nat) : List Nat := [114, 117, 108, 101, 32] ++ s_nml u ++ (if 0 < u 9 then [32, 111, 110, 108, 121] else [])
def s_pr2 (u : Nat → Nat) : List Nat := s_pr1 u ++ s_prn u (u 9) ++ [32, 115, 108, 97, 99, 107] ++ ([32] ++ s_dg (u 18)) ++ [32, 109, 111, 115, 116] ++ ([32] ++ s_dg (u 19))
def s_prR (u : Nat → Nat) : List Nat := s_pr2 u ++ s_prb u (u 20)
end
section
theorem q_fr1 {F F1 : Nat → Int32} {k : Nat} {v : Int32} (h : ∀ j : Nat, j ≠ k → F1 j = F j) (hk : F1 k = v) : F1 = upd F k v := by
  funext j
  unfold upd
  by_cases e : j = k
  · rw [if_pos e, e]; exact hk
  · rw [if_neg e]; exact h j e
end
section
theorem s_prk_t {g : Nat → Nat} {p : Nat} (h : 0 < p) : s_prk g p ++ [32] ++ s_prt g p = s_prk g (p + 1) := by
  show _ = s_prk g p ++ (if 0 < p then [32] else []) ++ s_prt g p
  rw [if_pos h]
theorem s_prk_f {g : Nat → Nat} {p : Nat} (h : ¬ 0 < p) : s_prk g p ++ s_prt g p = s_prk g (p + 1) := by
  show _ = s_prk g p ++ (if 0 < p then [32] else []) ++ s_prt g p
  rw [if_neg h, List.append_nil]
theorem s_prt_b {g : Nat → Nat} {p : Nat} (h : p < g 1) (L : List Nat) : L ++ s_nml (s_rule g (g (133 + 5 * p + 0))) ++ [58] ++ s_dg (g (133 + 5 * p + 1)) ++ [44] ++ s_dg (g (133 + 5 * p + 2)) = L ++ s_prt g p := by
  unfold s_prt
  rw [if_pos h]
  simp only [List.append_assoc]
theorem s_prt_s {g : Nat → Nat} {p : Nat} (h : ¬ p < g 1) (L : List Nat) : L ++ s_dg (g (153 + 3 * (p - g 1) + 0)) ++ [47] ++ s_dg (g (153 + 3 * (p - g 1) + 1)) = L ++ s_prt g p := by
  unfold s_prt
  rw [if_neg h]
  simp only [List.append_assoc]
theorem s_pr1_t {u : Nat → Nat} (h : ¬ u 9 = 0) : ([] : List Nat) ++ [114, 117, 108, 101, 32] ++ s_nml u ++ [32, 111, 110, 108, 121] = s_pr1 u ++ s_prn u 0 := by
  unfold s_pr1
  rw [if_pos (by omega)]
  exact (List.append_nil _).symm
theorem s_pr1_f {u : Nat → Nat} (h : u 9 = 0) : ([] : List Nat) ++ [114, 117, 108, 101, 32] ++ s_nml u = s_pr1 u ++ s_prn u 0 := by
  unfold s_pr1
  rw [if_neg (by omega), List.append_nil]
  exact (List.append_nil _).symm
theorem s_prn_s {u : Nat → Nat} {k : Nat} (A : List Nat) : A ++ s_prn u k ++ ([32] ++ s_dg (u (10 + k))) = A ++ s_prn u (k + 1) := List.append_assoc _ _ _
theorem s_prb_s {u : Nat → Nat} {k : Nat} (A : List Nat) : A ++ s_prb u k ++ [32, 98, 97, 114] ++ ([32] ++ s_dg (u (21 + 2 * k))) ++ ([32] ++ s_dg (u (21 + 2 * k + 1))) = A ++ s_prb u (k + 1) := by
  show _ = A ++ (s_prb u k ++ ([32, 98, 97, 114] ++ ([32] ++ s_dg (u (21 + 2 * k))) ++ ([32] ++ s_dg (u (21 + 2 * k + 1)))))
  simp only [List.append_assoc]
theorem s_pr2_e {u : Nat → Nat} : s_pr1 u ++ s_prn u (u 9) ++ [32, 115, 108, 97, 99, 107] ++ ([32] ++ s_dg (u 18)) ++ [32, 109, 111, 115, 116] ++ ([32] ++ s_dg (u 19)) = s_pr2 u ++ s_prb u 0 := (List.append_nil _).symm
end
