/-! A GAME WITH ONE RULE CHANGED; the history with one game more or less -/
section
theorem x_rwf_congr {u w : Nat → Nat} (e : ∀ j : Nat, j < 29 → w j = u j) (h : s_rwf u) : s_rwf w := by
  obtain ⟨h0, h9, h18, h19, h20, ho, hb⟩ := h
  exact ⟨by rw [e 0 (by decide)]; exact h0, by rw [e 9 (by decide)]; exact h9, by rw [e 18 (by decide)]; exact h18, by rw [e 19 (by decide)]; exact h19, by rw [e 20 (by decide)]; exact h20,
    fun i hi => by rw [e (10 + i) (by omega)]; exact ho i hi, fun i hi => by rw [e (21 + i) (by omega)]; exact hb i hi⟩
theorem x_gr_row {g w kd fi se tf ts ac tu nm on sl mo nb nm' on' sl' mo' nb' : Nat → Nat} {bm bm' : Nat → Nat → Nat} {r : Nat} (hr : r < g 0) (e : ∀ j : Nat, (j < 17 + 29 * r ∨ 17 + 29 * r + 29 ≤ j) → w j = g j) (hw : s_rwf (s_rule w r))
    (hn : ∀ q : Nat, q ≠ r → nm' q = nm q ∧ on' q = on q ∧ sl' q = sl q ∧ mo' q = mo q ∧ nb' q = nb q ∧ bm' q = bm q) (hx : x_rr (s_rule w r) (nm' r) (on' r) (sl' r) (mo' r) (nb' r) (bm' r)) (h : x_gr g kd fi se tf ts ac tu nm on sl mo nb bm) : x_gr w kd fi se tf ts ac tu nm' on' sl' mo' nb' bm' := by
  obtain ⟨⟨g0, g1, g2, g3, g6, gr, gb, gs⟩, hxp, htp, hrl, hac, htu⟩ := h
  have e0 := e 0 (by omega)
  have e1 := e 1 (by omega)
  have e2 := e 2 (by omega)
  have e3 := e 3 (by omega)
  have e6 := e 6 (by omega)
  have eh : ∀ j : Nat, 133 ≤ j → w j = g j := fun j hj => e j (by omega)
  have ho : ∀ q : Nat, q < g 0 → q ≠ r → ∀ j : Nat, j < 29 → s_rule w q j = s_rule g q j := fun q hq hqr j hj => by
    unfold s_rule
    exact e _ (by
      rcases Nat.lt_or_gt_of_ne hqr with h | h
      · left; omega
      · right; omega)
  refine ⟨⟨by omega, by omega, by omega, by omega, by omega, fun q hq => ?_, fun b hb => ?_, fun s hs => ?_⟩, ?_, ?_, fun q hq => ?_, fun a ha => ?_, fun i hi k hk => ?_⟩
  · by_cases c : q = r
    · rw [c]; exact hw
    · exact x_rwf_congr (ho q (by omega) c) (gr q (by omega))
  · rw [e0, eh _ (by omega), eh _ (by omega), eh _ (by omega), eh _ (by omega), eh _ (by omega)]; exact gb b (by omega)
  · rw [eh _ (by omega), eh _ (by omega), eh _ (by omega)]; exact gs s (by omega)
  · exact x_p_same e1 e2 g1 g2 (fun j h1 _ => eh j h1) hxp
  · exact x_tp_same e1 e2 g1 g2 (fun j h1 _ => eh j h1) htp
  · by_cases c : q = r
    · rw [c]; exact hx
    · obtain ⟨n1, n2, n3, n4, n5, n6⟩ := hn q c
      rw [n1, n2, n3, n4, n5, n6]
      exact x_rr_congr (ho q (by omega) c) (gr q (by omega)) (hrl q (by omega))
  · rw [hac a ha]; exact (e _ (by omega)).symm
  · rw [e6] at hi ⊢
    rw [htu i hi k hk]; exact (eh _ (by omega)).symm
def x_psh (m : Nat) (ps : Nat → Nat → Nat) (g : Nat → Nat) : Nat → Nat → Nat := fun j => if m < 8 then (if j < m then ps j else g) else if j < 7 then ps (j + 1) else g
/-- the history: eight games, those of them that are kept in their order -/
def x_hi (G : GL) (σ : Nat → va_E) (nx m : Nat) (ps : Nat → Nat → Nat) : Prop := nx < 8 ∧ m ≤ 8 ∧ σ 78 = o2 G 78 (nI nx) (nI m) ∧ σ 79 = q_rn G 2 8 (fun j => some (80 + 18 * j)) ∧ (∀ j : Nat, j < 8 → x_gj G σ (80 + 18 * j)) ∧ ∀ j : Nat, j < m → x_gm G σ (80 + 18 * ((nx + 8 - m + j) % 8)) (ps j)
theorem x_hi_e {G : GL} {σ σ2 : Nat → va_E} {nx m : Nat} {ps : Nat → Nat → Nat} (e : ∀ i : Nat, 78 ≤ i → i ≤ 223 → σ2 i = σ i) (h : x_hi G σ nx m ps) : x_hi G σ2 nx m ps := by
  obtain ⟨h1, h2, h3, h4, h5, h6⟩ := h
  exact ⟨h1, h2, (e _ (by omega) (by omega)).trans h3, (e _ (by omega) (by omega)).trans h4, fun j hj => x_gj_e (fun i a b => e i (by omega) (by omega)) (h5 j hj), fun j hj => x_gm_e (fun i a b => e i (by omega) (by omega)) (h6 j hj)⟩
theorem x_hi_push {G : GL} {σ σ2 : Nat → va_E} {nx m : Nat} {ps : Nat → Nat → Nat} {g : Nat → Nat} (h : x_hi G σ nx m ps) (hg : x_gm G σ2 (80 + 18 * nx) g) (hc : σ2 78 = o2 G 78 (nI ((nx + 1) % 8)) (nI (min (m + 1) 8))) (e : ∀ i : Nat, i ≠ 78 → (i < 80 + 18 * nx ∨ 80 + 18 * nx + 17 < i) → σ2 i = σ i) : x_hi G σ2 ((nx + 1) % 8) (min (m + 1) 8) (x_psh m ps g) := by
  obtain ⟨h1, h2, h3, h4, h5, h6⟩ := h
  refine ⟨Nat.mod_lt _ (by decide), Nat.min_le_right _ _, hc, (e _ (by omega) (by omega)).trans h4, fun j hj => ?_, fun j hj => ?_⟩
  · by_cases c : j = nx
    · rw [c]; exact x_gm_j hg
    · exact x_gj_e (fun i a b => e i (by omega) (by omega)) (h5 j hj)
  · unfold x_psh
    by_cases hm : m < 8
    · rw [if_pos hm]
      by_cases c : j < m
      · rw [if_pos c, show ((nx + 1) % 8 + 8 - min (m + 1) 8 + j) % 8 = (nx + 8 - m + j) % 8 by omega]
        exact x_gm_e (fun i a b => e i (by omega) (by omega)) (h6 j c)
      · rw [if_neg c, show ((nx + 1) % 8 + 8 - min (m + 1) 8 + j) % 8 = nx by omega]
        exact hg
    · rw [if_neg hm]
      by_cases c : j < 7
      · rw [if_pos c, show ((nx + 1) % 8 + 8 - min (m + 1) 8 + j) % 8 = (nx + 8 - m + (j + 1)) % 8 by omega]
        exact x_gm_e (fun i a b => e i (by omega) (by omega)) (h6 (j + 1) (by omega))
      · rw [if_neg c, show ((nx + 1) % 8 + 8 - min (m + 1) 8 + j) % 8 = nx by omega]
        exact hg
theorem x_hi_pop {G : GL} {σ σ2 : Nat → va_E} {nx m : Nat} {ps : Nat → Nat → Nat} (h : x_hi G σ nx m ps) (hm : 0 < m) (hc : σ2 78 = o2 G 78 (nI ((nx + 8 - 1) % 8)) (nI (m - 1))) (e : ∀ i : Nat, 79 ≤ i → i ≤ 223 → σ2 i = σ i) : x_hi G σ2 ((nx + 8 - 1) % 8) (m - 1) ps := by
  obtain ⟨h1, h2, h3, h4, h5, h6⟩ := h
  refine ⟨Nat.mod_lt _ (by decide), by omega, hc, (e _ (by omega) (by omega)).trans h4, fun j hj => x_gj_e (fun i a b => e i (by omega) (by omega)) (h5 j hj), fun j hj => ?_⟩
  rw [show ((nx + 8 - 1) % 8 + 8 - (m - 1) + j) % 8 = (nx + 8 - m + j) % 8 by omega]
  exact x_gm_e (fun i a b => e i (by omega) (by omega)) (h6 j (by omega))
theorem x_hi_clear {G : GL} {σ σ2 : Nat → va_E} {nx m : Nat} {ps : Nat → Nat → Nat} (h : x_hi G σ nx m ps) (hc : σ2 78 = o2 G 78 (nI nx) (nI 0)) (e : ∀ i : Nat, 79 ≤ i → i ≤ 223 → σ2 i = σ i) : x_hi G σ2 nx 0 ps := by
  obtain ⟨h1, h2, h3, h4, h5, h6⟩ := h
  exact ⟨h1, by omega, hc, (e _ (by omega) (by omega)).trans h4, fun j hj => x_gj_e (fun i a b => e i (by omega) (by omega)) (h5 j hj), fun j hj => absurd hj (Nat.not_lt_zero j)⟩
end
