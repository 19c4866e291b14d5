/-! THE PARTS AS TOLD, A GAME BEGUN AGAIN -/
section
theorem x_ag_at {g : Nat → Nat} {p j : Nat} (h : j ≠ 3 ∧ j ≠ 4 ∧ j ≠ 5) : s_again g p j = if 153 ≤ j ∧ j < 153 + 3 * g 2 ∧ (j - 153) % 3 = 0 then s_agB g (g 1) (j + 2) else s_agB g (g 1) j := by
  unfold s_again
  rw [va_up_off h.2.2, va_up_off h.2.1, va_up_off h.1]
  rfl
theorem x_agB_at (g : Nat → Nat) (n j : Nat) : s_agB g n j = if 133 ≤ j ∧ j < 133 + 5 * n ∧ ((j - 133) % 5 = 1 ∨ (j - 133) % 5 = 2) then g (j + 2) else g j := rfl
theorem x_ag_lo {g : Nat → Nat} {p j : Nat} (h : j ≠ 3 ∧ j ≠ 4 ∧ j ≠ 5) (hj : j < 133 ∨ 165 ≤ j) (h1 : g 1 ≤ 4) (h2 : g 2 ≤ 4) : s_again g p j = g j := by
  rw [x_ag_at h, if_neg (by omega), x_agB_at, if_neg (by omega)]
theorem x_ag_3 (g : Nat → Nat) (p : Nat) : s_again g p 3 = p ∧ s_again g p 4 = 0 ∧ s_again g p 5 = g 5 + 1 := by
  have h5 : s_ag0 g 5 = g 5 := by
    show (if 153 ≤ 5 ∧ 5 < 153 + 3 * g 2 ∧ (5 - 153) % 3 = 0 then s_agB g (g 1) (5 + 2) else s_agB g (g 1) 5) = g 5
    rw [if_neg (by omega), x_agB_at, if_neg (by omega)]
  refine ⟨?_, ?_, ?_⟩ <;> unfold s_again
  · rw [va_up_off (by decide), va_up_off (by decide), va_up_at]
  · rw [va_up_off (by decide), va_up_at]
  · rw [va_up_at, va_up_off (by decide), va_up_off (by decide), h5]
theorem x_gr_again {g kd fi se tf ts ac tu nm on sl mo nb : Nat → Nat} {bm : Nat → Nat → Nat} {p : Nat} (hp : p ≤ 1) (h : x_gr g kd fi se tf ts ac tu nm on sl mo nb bm) : x_gr (s_again g p) kd tf ts tf ts ac tu nm on sl mo nb bm := by
  obtain ⟨hgw, hxp, htp, hrl, hac, htu⟩ := h
  have h1 := hgw.2.1
  have h2 := hgw.2.2.1
  have h0 := hgw.1
  have e1 : s_again g p 1 = g 1 := x_ag_lo (by omega) (by omega) h1 h2
  have e2 : s_again g p 2 = g 2 := x_ag_lo (by omega) (by omega) h1 h2
  have e6 : s_again g p 6 = g 6 := x_ag_lo (by omega) (by omega) h1 h2
  have eb : ∀ b c : Nat, b < g 1 → c < 5 → s_again g p (133 + 5 * b + c) = if c = 1 ∨ c = 2 then g (133 + 5 * b + c + 2) else g (133 + 5 * b + c) := fun b c hb hc => by
    rw [x_ag_at (by omega), if_neg (by omega), x_agB_at]
    by_cases hcc : c = 1 ∨ c = 2
    · rw [if_pos (by omega), if_pos hcc]
    · rw [if_neg (by omega), if_neg hcc]
  have es : ∀ s c : Nat, s < g 2 → c < 3 → s_again g p (153 + 3 * s + c) = if c = 0 then g (153 + 3 * s + c + 2) else g (153 + 3 * s + c) := fun s c hs hc => by
    rw [x_ag_at (by omega)]
    by_cases hcc : c = 0
    · rw [if_pos (by omega), if_pos hcc, x_agB_at, if_neg (by omega)]
    · rw [if_neg (by omega), if_neg hcc, x_agB_at, if_neg (by omega)]
  refine ⟨s_gwf_again hp hgw, ⟨fun q hq => ?_, fun q hq => ?_⟩, ⟨fun q hq => ?_, fun q hq => ?_⟩, ?_, fun a ha => ?_, fun i hi k hk => ?_⟩
  · rw [e1] at hq
    obtain ⟨k1, -, -⟩ := hxp.1 q hq
    obtain ⟨t1, t2⟩ := htp.1 q hq
    rw [eb q 0 hq (by decide), eb q 1 hq (by decide), eb q 2 hq (by decide), if_neg (by decide), if_pos (by decide), if_pos (by decide)]
    exact ⟨k1, t1, t2⟩
  · rw [e2] at hq
    obtain ⟨k1, -, -⟩ := hxp.2 q hq
    obtain ⟨t1, t2⟩ := htp.2 q hq
    rw [es q 0 hq (by decide), es q 1 hq (by decide), if_pos rfl, if_neg (by decide)]
    exact ⟨k1, t1, t2⟩
  · rw [e1] at hq
    rw [eb q 3 hq (by decide), eb q 4 hq (by decide), if_neg (by decide), if_neg (by decide)]
    exact htp.1 q hq
  · rw [e2] at hq
    rw [es q 2 hq (by decide), if_neg (by decide)]
    exact htp.2 q hq
  · exact x_rl_same hgw (x_ag_lo (by omega) (by omega) h1 h2) (fun j a b => x_ag_lo (by omega) (by omega) h1 h2) hrl
  · rw [hac a ha]; exact (x_ag_lo (by omega) (by omega) h1 h2).symm
  · rw [e6] at hi ⊢
    rw [htu i hi k hk]; exact (x_ag_lo (by omega) (by omega) h1 h2).symm
end
