/-! OBJECTS MADE: what their fields hold at first, rows for the making -/
section
theorem nd_0 : ∀ j, j < 9 → defaultValue (tyX0 j) = vp_V [.null, .int (nI (0)), .null, .int (nI (0)), .int (nI (0)), .int (nI (0)), .null, .null, .int (nI (0))] j := by
  intro j hj
  match j, hj with
  | 0, _ => rfl
  | 1, _ => rfl
  | 2, _ => rfl
  | 3, _ => rfl
  | 4, _ => rfl
  | 5, _ => rfl
  | 6, _ => rfl
  | 7, _ => rfl
  | 8, _ => rfl
  | k + 9, h => exact absurd h (by omega)
theorem nd_1 : ∀ j, j < 5 → defaultValue (tyX1 j) = vp_V [.int (nI (0)), .int (nI (0)), .int (nI (0)), .int (nI (0)), .int (nI (0))] j := by
  intro j hj
  match j, hj with
  | 0, _ => rfl
  | 1, _ => rfl
  | 2, _ => rfl
  | 3, _ => rfl
  | 4, _ => rfl
  | k + 5, h => exact absurd h (by omega)
theorem nd_2 : ∀ j, j < 3 → defaultValue (tyX2 j) = vp_V [.null, .int (nI (0)), .int (nI (0))] j := by
  intro j hj
  match j, hj with
  | 0, _ => rfl
  | 1, _ => rfl
  | 2, _ => rfl
  | k + 3, h => exact absurd h (by omega)
theorem nd_3 : ∀ j, j < 5 → defaultValue (tyX3 j) = vp_V [.null, .null, .int (nI (0)), .int (nI (0)), .int (nI (0))] j := by
  intro j hj
  match j, hj with
  | 0, _ => rfl
  | 1, _ => rfl
  | 2, _ => rfl
  | 3, _ => rfl
  | 4, _ => rfl
  | k + 5, h => exact absurd h (by omega)
theorem nd_4 : ∀ j, j < 2 → defaultValue (tyX4 j) = vp_V [.null, .null] j := by
  intro j hj
  match j, hj with
  | 0, _ => rfl
  | 1, _ => rfl
  | k + 2, h => exact absurd h (by omega)
theorem nd_5 : ∀ j, j < 2 → defaultValue (tyX5 j) = vp_V [.null, .int (nI (0))] j := by
  intro j hj
  match j, hj with
  | 0, _ => rfl
  | 1, _ => rfl
  | k + 2, h => exact absurd h (by omega)
theorem nd_6 : ∀ j, j < 7 → defaultValue (tyX6 j) = vp_V [.int (nI (0)), .int (nI (0)), .null, .null, .null, .null, .null] j := by
  intro j hj
  match j, hj with
  | 0, _ => rfl
  | 1, _ => rfl
  | 2, _ => rfl
  | 3, _ => rfl
  | 4, _ => rfl
  | 5, _ => rfl
  | 6, _ => rfl
  | k + 7, h => exact absurd h (by omega)
theorem nd_7 : ∀ j, j < 6 → defaultValue (tyX7 j) = vp_V [.long (lN (0)), .long (lN (0)), .int (nI (0)), .int (nI (0)), .int (nI (0)), .null] j := by
  intro j hj
  match j, hj with
  | 0, _ => rfl
  | 1, _ => rfl
  | 2, _ => rfl
  | 3, _ => rfl
  | 4, _ => rfl
  | 5, _ => rfl
  | k + 6, h => exact absurd h (by omega)
theorem nd_8 : ∀ j, j < 12 → defaultValue (tyX8 j) = vp_V [.null, .int (nI (0)), .null, .null, .int (nI (0)), .null, .null, .null, .int (nI (0)), .int (nI (0)), .int (nI (0)), .int (nI (0))] j := by
  intro j hj
  match j, hj with
  | 0, _ => rfl
  | 1, _ => rfl
  | 2, _ => rfl
  | 3, _ => rfl
  | 4, _ => rfl
  | 5, _ => rfl
  | 6, _ => rfl
  | 7, _ => rfl
  | 8, _ => rfl
  | 9, _ => rfl
  | 10, _ => rfl
  | 11, _ => rfl
  | k + 12, h => exact absurd h (by omega)
theorem nd_9 : ∀ j, j < 6 → defaultValue (tyX9 j) = vp_V [.null, .int (nI (0)), .int (nI (0)), .int (nI (0)), .int (nI (0)), .int (nI (0))] j := by
  intro j hj
  match j, hj with
  | 0, _ => rfl
  | 1, _ => rfl
  | 2, _ => rfl
  | 3, _ => rfl
  | 4, _ => rfl
  | 5, _ => rfl
  | k + 6, h => exact absurd h (by omega)
theorem nd_10 : ∀ j, j < 15 → defaultValue (tyX10 j) = vp_V [.null, .int (nI (0)), .int (nI (0)), .int (nI (0)), .null, .null, .null, .null, .null, .null, .null, .null, .null, .null, .null] j := by
  intro j hj
  match j, hj with
  | 0, _ => rfl
  | 1, _ => rfl
  | 2, _ => rfl
  | 3, _ => rfl
  | 4, _ => rfl
  | 5, _ => rfl
  | 6, _ => rfl
  | 7, _ => rfl
  | 8, _ => rfl
  | 9, _ => rfl
  | 10, _ => rfl
  | 11, _ => rfl
  | 12, _ => rfl
  | 13, _ => rfl
  | 14, _ => rfl
  | k + 15, h => exact absurd h (by omega)
theorem nd_11 : ∀ j, j < 34 → defaultValue (tyX11 j) = vp_V [.null, .null, .null, .null, .null, .int (nI (0)), .int (nI (0)), .int (nI (0)), .null, .null, .null, .null, .int (nI (0)), .null, .null, .null, .int (nI (0)), .int (nI (0)), .int (nI (0)), .int (nI (0)), .null, .int (nI (0)), .int (nI (0)), .int (nI (0)), .int (nI (0)), .int (nI (0)), .int (nI (0)), .int (nI (0)), .int (nI (0)), .int (nI (0)), .int (nI (0)), .int (nI (0)), .null, .int (nI (0))] j := by
  intro j hj
  match j, hj with
  | 0, _ => rfl
  | 1, _ => rfl
  | 2, _ => rfl
  | 3, _ => rfl
  | 4, _ => rfl
  | 5, _ => rfl
  | 6, _ => rfl
  | 7, _ => rfl
  | 8, _ => rfl
  | 9, _ => rfl
  | 10, _ => rfl
  | 11, _ => rfl
  | 12, _ => rfl
  | 13, _ => rfl
  | 14, _ => rfl
  | 15, _ => rfl
  | 16, _ => rfl
  | 17, _ => rfl
  | 18, _ => rfl
  | 19, _ => rfl
  | 20, _ => rfl
  | 21, _ => rfl
  | 22, _ => rfl
  | 23, _ => rfl
  | 24, _ => rfl
  | 25, _ => rfl
  | 26, _ => rfl
  | 27, _ => rfl
  | 28, _ => rfl
  | 29, _ => rfl
  | 30, _ => rfl
  | 31, _ => rfl
  | 32, _ => rfl
  | 33, _ => rfl
  | k + 34, h => exact absurd h (by omega)
end
section
variable {G : GL} {K : KC} {Q : State → Prop} {kc ks : Nat} {ex : Bool} {n : Nat} {pc : Nat} {ls : List (Option Value)} {st : List Value} {σ : Nat → va_E}
theorem A_neq {n2 : Nat} (h : n2 = n) (k : AJ G K Q kc ks ex n2 pc ls st σ) : AJ G K Q kc ks ex n pc ls st σ := h ▸ k
theorem A_wide {kc2 ks2 : Nat} (hc : kc ≤ kc2) (hs : ks ≤ ks2) (k : AJ G K Q kc2 ks2 ex n pc ls st σ) : AJ G K Q kc ks ex n pc ls st σ := fun lsA H locs h1 h2 h3 h4 => W.widen hc hs (k lsA H locs h1 h2 h3 h4)
theorem A_unex (k : AJ G K Q kc ks false n pc ls st σ) : AJ G K Q kc ks ex n pc ls st σ := fun lsA H locs h1 h2 h3 h4 => k lsA H locs h1 h2 ⟨h3.1, fun h => by cases h⟩ h4
theorem q_rn_at {t len : Nat} {f f' : Nat → Option Nat} (h : ∀ j, j < len → f j = f' j) {a : Nat} {H : Heap} (hh : va_at G.2.1 vwCl (a, q_rn G t len f) H) : va_at G.2.1 vwCl (a, q_rn G t len f') H := by
  have h1 : H[a]? = some (arrV (q_c G t) len (fun j => va_rf ((f j).map (fun i => q_h G + i)))) := hh
  show H[a]? = some (arrV (q_c G t) len (fun j => va_rf ((f' j).map (fun i => q_h G + i))))
  rw [h1]
  congr 1
  unfold arrV
  congr 2
  funext j
  show va_rf ((f j.val).map (fun i => q_h G + i)) = va_rf ((f' j.val).map (fun i => q_h G + i))
  rw [h j.val j.isLt]
theorem A_canonR {id t len : Nat} {f : Nat → Option Nat} (f' : Nat → Option Nat) (ho : σ id = q_rn G t len f) (h : ∀ j, j < len → f j = f' j)
    (kk : ∀ σ2 : Nat → va_E, σ2 id = q_rn G t len f' → (∀ i : Nat, i ≠ id → σ2 i = σ i) → AJ G K Q kc ks ex n pc ls st σ2) : AJ G K Q kc ks ex n pc ls st σ := by
  intro lsA H locs h1 h2 h3 h4
  refine kk (q_up σ id (q_rn G t len f')) (q_up_s _ _ _) (fun i hi => q_up_n _ _ hi) lsA H locs h1 (fun i hi => ?_) h3 h4
  by_cases e : i = id
  · subst e
    rw [q_up_s]
    have h5 := h2 i hi
    rw [ho] at h5
    exact q_rn_at h h5
  · rw [q_up_n _ _ e]; exact h2 i hi
theorem x_f4 {P : Nat → Prop} (h0 : P 0) (h1 : P 1) (h2 : P 2) (h3 : P 3) : ∀ j : Nat, j < 4 → P j
  | 0, _ => h0
  | 1, _ => h1
  | 2, _ => h2
  | 3, _ => h3
  | j + 4, h => absurd h (by omega)
theorem x_f8 {P : Nat → Prop} (h0 : P 0) (h1 : P 1) (h2 : P 2) (h3 : P 3) (h4 : P 4) (h5 : P 5) (h6 : P 6) (h7 : P 7) : ∀ j : Nat, j < 8 → P j
  | 0, _ => h0
  | 1, _ => h1
  | 2, _ => h2
  | 3, _ => h3
  | 4, _ => h4
  | 5, _ => h5
  | 6, _ => h6
  | 7, _ => h7
  | j + 8, h => absurd h (by omega)
end
section
/-- the game that there is at first -/
def x_gI : Nat → Nat := s_addB (va_up (va_up (va_up (va_up (va_up (va_up (va_up (va_up (va_up rd_g0 17 5) 18 16) 19 12) 20 1) 21 9) 22 14) (17 + 29 * 0 + 18) 1) (17 + 29 * 0 + 19) 40) 0 1) 0 5 8
theorem x_gI_inv : s_gwf x_gI := by
  refine ⟨by decide, by decide, by decide, by decide, by decide, ?_, ?_, ?_⟩
  · intro r hr
    have h0 : x_gI 0 = 1 := rfl
    have e : r = 0 := by omega
    subst e
    refine ⟨by decide, by decide, by decide, by decide, by decide, ?_, ?_⟩
    · intro i hi
      match i, hi with
      | 0, _ => decide
      | 1, _ => decide
      | 2, _ => decide
      | 3, _ => decide
      | 4, _ => decide
      | 5, _ => decide
      | 6, _ => decide
      | 7, _ => decide
      | i + 8, h => exact absurd h (by omega)
    · intro i hi
      match i, hi with
      | 0, _ => decide
      | 1, _ => decide
      | 2, _ => decide
      | 3, _ => decide
      | 4, _ => decide
      | 5, _ => decide
      | 6, _ => decide
      | 7, _ => decide
      | i + 8, h => exact absurd h (by omega)
  · intro b hb
    have h1 : x_gI 1 = 1 := rfl
    have e : b = 0 := by omega
    subst e
    exact ⟨by decide, by decide, by decide, by decide, by decide⟩
  · intro s hs
    have h2 : x_gI 2 = 0 := rfl
    omega
theorem x_gI_bd : x_gbd x_gI := by
  intro r hr i j _ hj
  have h0 : x_gI 0 = 1 := rfl
  have e : r = 0 := by omega
  subst e
  have h20 : s_rule x_gI 0 20 = 0 := rfl
  omega
theorem x_gr_I {kd fi se tf ts ac tu nm on sl mo nb : Nat → Nat} {bm : Nat → Nat → Nat} (h1 : kd 0 = 0) (h2 : fi 0 = 5) (h3 : se 0 = 8) (h4 : tf 0 = 5) (h5 : ts 0 = 8) (h6 : ∀ a : Nat, a < 10 → ac a = 0) (h7 : nm 0 = x_pk (x_wu [112, 108, 97, 105, 110]) [112, 108, 97, 105, 110].length) (h8 : on 0 = 0) (h9 : sl 0 = 1) (h10 : mo 0 = 40) (h11 : nb 0 = 0) : x_gr x_gI kd fi se tf ts ac tu nm on sl mo nb bm := by
  have g0 : x_gI 0 = 1 := rfl
  have g1 : x_gI 1 = 1 := rfl
  have g2 : x_gI 2 = 0 := rfl
  have g6 : x_gI 6 = 0 := rfl
  refine ⟨x_gI_inv, ⟨fun p hp => ?_, fun s hs => ?_⟩, ⟨fun p hp => ?_, fun s hs => ?_⟩, fun r hr => ?_, fun a ha => ?_, fun i hi => ?_⟩
  · have e : p = 0 := by omega
    subst e
    exact ⟨h1, h2, h3⟩
  · omega
  · have e : p = 0 := by omega
    subst e
    exact ⟨h4, h5⟩
  · omega
  · have e : r = 0 := by omega
    subst e
    have u9 : s_rule x_gI 0 9 = 0 := rfl
    have u20 : s_rule x_gI 0 20 = 0 := rfl
    refine ⟨⟨⟨by decide, fun k hk => ?_⟩, ?_⟩, ⟨by rw [h8]; decide, fun x _ => ?_, ?_⟩, ⟨fun i hi => ?_, fun i j _ hj => ?_⟩, h9, h10, h11, fun i hi => ?_⟩
    · have u0 : s_rule x_gI 0 0 = 5 := rfl
      rw [u0] at hk
      match k, hk with
      | 0, _ => decide
      | 1, _ => decide
      | 2, _ => decide
      | 3, _ => decide
      | 4, _ => decide
      | k + 5, h => exact absurd h (by omega)
    · rw [h7]; decide +kernel
    · rw [h8, Nat.zero_testBit]
      unfold s_only
      rw [u9]; rfl
    · rw [h8, u9]
    · omega
    · omega
    · omega
  · rw [h6 a ha]
    match a, ha with
    | 0, _ => rfl
    | 1, _ => rfl
    | 2, _ => rfl
    | 3, _ => rfl
    | 4, _ => rfl
    | 5, _ => rfl
    | 6, _ => rfl
    | 7, _ => rfl
    | 8, _ => rfl
    | 9, _ => rfl
    | a + 10, h => exact absurd h (by omega)
  · omega
theorem x_TI_0 {on sl mo nb n0 gv gs lm vs : Nat → Nat} {bm sk s2 va : Nat → Nat → Nat} : x_TI (fun _ => 0) on sl mo nb n0 gv gs lm vs bm sk s2 va (fun _ _ => 0) := fun r _ => ⟨Nat.zero_le 1, fun q _ => (by decide : 0 < 1681), fun h => by cases h⟩
end
