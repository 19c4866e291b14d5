/-! THE MIX, in naturals: g are the 265 cells of a game -/
section
theorem q_xorI (a b : Nat) : nI a ^^^ nI b = nI (a ^^^ b) := by
  apply Int32.toBitVec_inj.mp
  show (BitVec.ofNat 32 a) ^^^ (BitVec.ofNat 32 b) = BitVec.ofNat 32 (a ^^^ b)
  exact (BitVec.ofNat_xor).symm
def s_isB (g : Nat → Nat) (p : Nat) : Bool := decide (p < g 1)
def s_x (g : Nat → Nat) (p : Nat) : Nat := if p < g 1 then g (133 + 5 * p + 1) else g (153 + 3 * (p - g 1) + 0)
def s_y (g : Nat → Nat) (p : Nat) : Nat := if p < g 1 then g (133 + 5 * p + 2) else 0
def s_kind (g : Nat → Nat) (p : Nat) : Nat := if p < g 1 then g (133 + 5 * p + 0) else g (153 + 3 * (p - g 1) + 1)
def s_pv (g : Nat → Nat) (p k l : Nat) : Nat :=
  if p < g 1 then s_V (s_rule g (g (133 + 5 * p + 0))) (41 * (g (133 + 5 * p + 1) - k) + (g (133 + 5 * p + 2) - l))
  else (g (153 + 3 * (p - g 1) + 0) - k) % (g (153 + 3 * (p - g 1) + 1) + 1)
def s_xs (g : Nat → Nat) : Nat → Nat
  | 0 => 0
  | n + 1 => s_xs g n ^^^ s_pv g n 0 0
def s_np (g : Nat → Nat) : Nat := g 1 + g 2
def s_tot (g : Nat → Nat) : Nat := s_xs g (s_np g)
def s_gwf (g : Nat → Nat) : Prop := g 0 ≤ 4 ∧ g 1 ≤ 4 ∧ g 2 ≤ 4 ∧ g 3 ≤ 1 ∧ g 6 ≤ 20 ∧ (∀ r, r < g 0 → s_rwf (s_rule g r)) ∧
  (∀ b, b < g 1 → g (133 + 5 * b + 0) < g 0 ∧ g (133 + 5 * b + 1) ≤ 40 ∧ g (133 + 5 * b + 2) ≤ 40 ∧ g (133 + 5 * b + 3) ≤ 40 ∧ g (133 + 5 * b + 4) ≤ 40) ∧
  ∀ s, s < g 2 → g (153 + 3 * s + 0) ≤ 60 ∧ (1 ≤ g (153 + 3 * s + 1) ∧ g (153 + 3 * s + 1) ≤ 9) ∧ g (153 + 3 * s + 2) ≤ 60
theorem s_pv_lt {g : Nat → Nat} (h : s_gwf g) {p : Nat} (hp : p < s_np g) (k l : Nat) : s_pv g p k l < 2048 := by
  unfold s_pv
  split
  · next hb =>
    have hbd := h.2.2.2.2.2.2.1 p hb
    have := s_V_le (s_rule g (g (133 + 5 * p + 0))) (p := 41 * (g (133 + 5 * p + 1) - k) + (g (133 + 5 * p + 2) - l)) (by omega)
    omega
  · next hb =>
    have hs := h.2.2.2.2.2.2.2 (p - g 1) (by unfold s_np at hp; omega)
    have := Nat.mod_lt (g (153 + 3 * (p - g 1) + 0) - k) (show 0 < g (153 + 3 * (p - g 1) + 1) + 1 by omega)
    omega
theorem s_xs_lt {g : Nat → Nat} (h : s_gwf g) : ∀ n, n ≤ s_np g → s_xs g n < 2048 := by
  intro n
  induction n with
  | zero => intro _; show (0 : Nat) < 2048; decide
  | succ n ih =>
    intro hn
    unfold s_xs
    exact Nat.xor_lt_two_pow (n := 11) (ih (by omega)) (s_pv_lt h (by omega) 0 0)
theorem s_tot_lt {g : Nat → Nat} (h : s_gwf g) : s_tot g < 2048 := s_xs_lt h _ (Nat.le_refl _)
theorem s_np_le {g : Nat → Nat} (h : s_gwf g) : s_np g ≤ 8 := by unfold s_np; have := h.2.1; have := h.2.2.1; omega
/-- heaps and kinds within their bounds -/
theorem s_part {g : Nat → Nat} (h : s_gwf g) {p : Nat} (hp : p < s_np g) : s_x g p ≤ 60 ∧ s_y g p ≤ 40 ∧ s_kind g p ≤ 9 ∧ (p < g 1 → s_x g p ≤ 40 ∧ s_kind g p < g 0) ∧ (¬ p < g 1 → s_y g p = 0 ∧ 1 ≤ s_kind g p) := by
  unfold s_x s_y s_kind
  by_cases hb : p < g 1
  · have hbd := h.2.2.2.2.2.2.1 p hb
    have := h.1
    simp only [if_pos hb]
    refine ⟨by omega, by omega, by omega, fun _ => ⟨by omega, by omega⟩, fun z => absurd hb z⟩
  · have hs := h.2.2.2.2.2.2.2 (p - g 1) (by unfold s_np at hp; omega)
    simp only [if_neg hb]
    refine ⟨by omega, by omega, by omega, fun z => absurd z hb, fun _ => ⟨trivial, by omega⟩⟩
/-- why a move is refused on a part: 0 if it isn't -/
def s_ref (g : Nat → Nat) (p k l : Nat) : Nat :=
  if k = 0 ∧ l = 0 then 1
  else if s_x g p < k ∨ s_y g p < l then 2
  else if p < g 1 then s_forb (s_rule g (g (133 + 5 * p + 0))) k l
  else if g (153 + 3 * (p - g 1) + 1) < k then 3 else 0
theorem s_forb_le (u : Nat → Nat) (k l : Nat) : s_forb u k l ≤ 7 := by unfold s_forb; (repeat' split) <;> omega
theorem s_ref_le (g : Nat → Nat) (p k l : Nat) : s_ref g p k l ≤ 7 := by
  unfold s_ref
  have := s_forb_le (s_rule g (g (133 + 5 * p + 0))) k l
  (repeat' split) <;> omega
/-- a move that can be made on a part, and wins if that is wanted -/
def s_ok (g : Nat → Nat) (p : Nat) (w : Bool) (k l : Nat) : Bool := (s_ref g p k l == 0) && (!w || (s_pv g p k l == (s_tot g ^^^ s_pv g p 0 0)))
def s_cc (P : Nat → Nat → Bool) : Nat → Nat → Nat
  | 0, _ => 0
  | k + 1, L => s_cc P k L + s_cnt (P k) L
def s_mvs (g : Nat → Nat) (p : Nat) (w : Bool) : Nat := s_cc (s_ok g p w) (s_x g p + 1) (s_y g p + 1)
theorem s_cc_le (P : Nat → Nat → Bool) (L : Nat) : ∀ k, s_cc P k L ≤ k * L
  | 0 => by simp [s_cc]
  | k + 1 => by
    have h1 := s_cc_le P L k
    have h2 := s_cnt_le (P k) L
    unfold s_cc
    rw [Nat.succ_mul]; omega
def s_ms (g : Nat → Nat) (w : Bool) : Nat → Nat
  | 0 => 0
  | p + 1 => s_ms g w p + s_mvs g p w
/-- the first move of a part, in their order -/
def s_fk (P : Nat → Nat → Bool) (K L : Nat) : Nat := s_first (fun k => s_any (P k) L) K
def s_fl (P : Nat → Nat → Bool) (K L : Nat) : Nat := s_first (P (s_fk P K L)) L
def s_has (g : Nat → Nat) (w : Bool) (p : Nat) : Bool := s_any (fun k => s_any (s_ok g p w k) (s_y g p + 1)) (s_x g p + 1)
def s_k1 (g : Nat → Nat) (w : Bool) (p : Nat) : Nat := s_fk (s_ok g p w) (s_x g p + 1) (s_y g p + 1)
def s_l1 (g : Nat → Nat) (w : Bool) (p : Nat) : Nat := s_fl (s_ok g p w) (s_x g p + 1) (s_y g p + 1)
/-- the first part with a move -/
def s_p1 (g : Nat → Nat) (w : Bool) : Nat := s_first (s_has g w) (s_np g)
def s_hasAny (g : Nat → Nat) (w : Bool) : Bool := s_any (s_has g w) (s_np g)
def s_over (g : Nat → Nat) : Bool := !(s_hasAny g false)
/-- the advice: whether the winning ones are looked at -/
def s_aw (g : Nat → Nat) : Bool := decide (s_tot g ≠ 0) && s_hasAny g true
def s_adv (g : Nat → Nat) : Bool := s_hasAny g (s_aw g)
def s_ap (g : Nat → Nat) : Nat := s_p1 g (s_aw g)
def s_ak (g : Nat → Nat) : Nat := s_k1 g (s_aw g) (s_ap g)
def s_al2 (g : Nat → Nat) : Nat := s_l1 g (s_aw g) (s_ap g)
/-- a move made -/
def s_take (g : Nat → Nat) (p k l : Nat) : Nat → Nat :=
  if p < g 1 then va_up (va_up g (133 + 5 * p + 1) (g (133 + 5 * p + 1) - k)) (133 + 5 * p + 2) (g (133 + 5 * p + 2) - l)
  else va_up g (153 + 3 * (p - g 1) + 0) (g (153 + 3 * (p - g 1) + 0) - k)
def s_grow (g : Nat → Nat) (pl w x : Nat) : Nat → Nat := va_up g (7 + 5 * pl + w) (g (7 + 5 * pl + w) + x)
/-- a turn noted, the oldest one put away if twenty are kept -/
def s_shift (g : Nat → Nat) : Nat → Nat := if g 6 = 20 then (fun j => if j = 6 then 19 else if 165 ≤ j ∧ j < 260 then g (j + 5) else g j) else g
def s_note (g : Nat → Nat) (p k l t : Nat) : Nat → Nat :=
  va_up (va_up (va_up (va_up (va_up (va_up (s_shift g) (165 + 5 * (s_shift g) 6) (g 3)) (165 + 5 * (s_shift g) 6 + 1) p) (165 + 5 * (s_shift g) 6 + 2) k) (165 + 5 * (s_shift g) 6 + 3) l) (165 + 5 * (s_shift g) 6 + 4) t) 6 ((s_shift g) 6 + 1)
def s_acc (g : Nat → Nat) (pl ah be : Nat) : Nat → Nat := if be = 0 then s_grow g pl 3 1 else if ah = 0 then g else s_grow g pl 4 1
def s_ovr (g : Nat → Nat) (pl : Nat) : Nat → Nat := if s_over g = true then s_grow g pl 2 1 else g
def s_turn (g : Nat → Nat) (pl : Nat) : Nat → Nat := va_up (va_up g 4 (g 4 + 1)) 3 (1 - pl)
def s_play (g : Nat → Nat) (p k l : Nat) : Nat → Nat :=
  s_turn (s_note (s_ovr (s_acc (s_grow (s_grow (s_take g p k l) (g 3) 0 1) (g 3) 1 (k + l)) (g 3) (s_tot g) (s_tot (s_take g p k l))) (g 3)) p k l (s_tot (s_take g p k l))) (g 3)
/-- the world's cell may be told by another function that agrees where the array is -/
theorem q_an_at {G : GL} {len : Nat} {f f' : Nat → Nat} (h : ∀ j, j < len → f j = f' j) {a : Nat} {H : Heap} (hh : va_at G.2.1 vwCl (a, q_an G len f) H) : va_at G.2.1 vwCl (a, q_an G len f') H := by
  have h1 : H[a]? = some (arrV (q_c G 0) len (fun j => .int (nI (f j)))) := hh
  show H[a]? = some (arrV (q_c G 0) len (fun j => .int (nI (f' j))))
  rw [h1]
  congr 1
  unfold arrV
  congr 2
  funext j
  show Value.int (nI (f j.val)) = Value.int (nI (f' j.val))
  rw [h j.val j.isLt]
theorem A_canon {G : GL} {K : KC} {Q : State → Prop} {kc ks : Nat} {ex : Bool} {n : Nat} {pc : Nat} {ls : List (Option Value)} {st : List Value} {σ : Nat → va_E} {id len : Nat} {f : Nat → Nat} (f' : Nat → Nat) (ho : σ id = q_an G len f) (h : ∀ j, j < len → f j = f' j)
    (kk : ∀ σ2 : Nat → va_E, σ2 id = q_an G len f' → (∀ i : Nat, i ≠ id → σ2 i = σ i) → AJ G K Q kc ks ex n pc ls st σ2) : AJ G K Q kc ks ex n pc ls st σ := by
  intro lsA H locs h1 h2 h3 h4
  refine kk (q_up σ id (q_an G len f')) (q_up_s _ _ _) (fun i hi => q_up_n _ _ hi) lsA H locs h1 (fun i hi => ?_) h3 h4
  by_cases e : i = id
  · subst e
    rw [q_up_s]
    have := h2 i hi
    rw [ho] at this
    exact q_an_at h this
  · rw [q_up_n _ _ e]; exact h2 i hi
theorem A_ixorN {G : GL} {K : KC} {Q : State → Prop} {kc ks : Nat} {ex : Bool} {n : Nat} {pc : Nat} {ls : List (Option Value)} {st : List Value} {σ : Nat → va_E} {own : String} {b : ByteArray} {nL : Nat} {ret : Option FieldType} {R : Room} {hh : List (Nat × Nat × Nat × Nat)} (g : Gd G K own b nL ret R hh) {x y : Nat} (d : decode b pc = .ok (.ixor, 1)) (k : AJ G K Q kc ks ex n (pc + 1) ls (.int (nI (x ^^^ y)) :: st) σ) : AJ G K Q kc ks ex n pc ls (.int (nI y) :: .int (nI x) :: st) σ := A_ixor g d (by rw [q_xorI]; exact k)
end
