section
theorem x_rr_18 {u w : Nat → Nat} {nm on sl mo nb : Nat} {bm : Nat → Nat} (e : ∀ j : Nat, j < 29 → j ≠ 18 → w j = u j) (hu : s_rwf u) (h : x_rr u nm on sl mo nb bm) : x_rr w nm on (w 18) mo nb bm := by
  obtain ⟨⟨⟨n1, n2⟩, n3⟩, ⟨o1, o2, o3⟩, ⟨s1, s2⟩, rfl, rfl, rfl, hb⟩ := h
  obtain ⟨w0, w9, w18, w19, w20, wo, wb⟩ := hu
  have e0 := e 0 (by decide) (by decide)
  have e9 := e 9 (by decide) (by decide)
  have e20 := e 20 (by decide) (by decide)
  refine ⟨⟨⟨by omega, fun k hk => ?_⟩, ?_⟩, ⟨o1, fun x hx => ?_, by omega⟩, ⟨fun i hi => ?_, fun i j h1 h2 => ?_⟩, rfl, (e 19 (by decide) (by decide)).symm, e20.symm, fun i hi => ?_⟩
  · rw [e (1 + k) (by omega) (by omega)]; exact n2 k (by omega)
  · rw [n3, e0]; exact x_pk_congr _ (fun j hj => (e (1 + j) (by omega) (by omega)).symm)
  · rw [o2 x hx]
    unfold s_only
    rw [e9]
    unfold s_any
    rw [s_first_congr (q := fun i => w (10 + i) == x) (fun j hj => by show (u (10 + j) == x) = (w (10 + j) == x); rw [e (10 + j) (by omega) (by omega)])]
  · rw [e (10 + i) (by omega) (by omega)]; exact s1 i (by omega)
  · rw [e (10 + i) (by omega) (by omega), e (10 + j) (by omega) (by omega)]; exact s2 i j h1 (by omega)
  · rw [e (21 + 2 * i) (by omega) (by omega), e (21 + 2 * i + 1) (by omega) (by omega)]; exact hb i (by omega)
theorem x_rr_19 {u w : Nat → Nat} {nm on sl mo nb : Nat} {bm : Nat → Nat} (e : ∀ j : Nat, j < 29 → j ≠ 19 → w j = u j) (hu : s_rwf u) (h : x_rr u nm on sl mo nb bm) : x_rr w nm on sl (w 19) nb bm := by
  obtain ⟨⟨⟨n1, n2⟩, n3⟩, ⟨o1, o2, o3⟩, ⟨s1, s2⟩, rfl, rfl, rfl, hb⟩ := h
  obtain ⟨w0, w9, w18, w19, w20, wo, wb⟩ := hu
  have e0 := e 0 (by decide) (by decide)
  have e9 := e 9 (by decide) (by decide)
  have e20 := e 20 (by decide) (by decide)
  refine ⟨⟨⟨by omega, fun k hk => ?_⟩, ?_⟩, ⟨o1, fun x hx => ?_, by omega⟩, ⟨fun i hi => ?_, fun i j h1 h2 => ?_⟩, (e 18 (by decide) (by decide)).symm, rfl, e20.symm, fun i hi => ?_⟩
  · rw [e (1 + k) (by omega) (by omega)]; exact n2 k (by omega)
  · rw [n3, e0]; exact x_pk_congr _ (fun j hj => (e (1 + j) (by omega) (by omega)).symm)
  · rw [o2 x hx]
    unfold s_only
    rw [e9]
    unfold s_any
    rw [s_first_congr (q := fun i => w (10 + i) == x) (fun j hj => by show (u (10 + j) == x) = (w (10 + j) == x); rw [e (10 + j) (by omega) (by omega)])]
  · rw [e (10 + i) (by omega) (by omega)]; exact s1 i (by omega)
  · rw [e (10 + i) (by omega) (by omega), e (10 + j) (by omega) (by omega)]; exact s2 i j h1 (by omega)
  · rw [e (21 + 2 * i) (by omega) (by omega), e (21 + 2 * i + 1) (by omega) (by omega)]; exact hb i (by omega)
theorem x_gm_row {G : GL} {σ : Nat → va_E} {gb : Nat} {g w kd fi se tf ts ac tu nm on sl mo nb nm' on' sl' mo' nb' : Nat → Nat} {bm bm' : Nat → Nat → Nat} {r : Nat} (hr : r < g 0) (e : ∀ j : Nat, (j < 17 + 29 * r ∨ 17 + 29 * r + 29 ≤ j) → w j = g j) (hw : s_rwf (s_rule w r))
    (hn : ∀ q : Nat, q ≠ r → nm' q = nm q ∧ on' q = on q ∧ sl' q = sl q ∧ mo' q = mo q ∧ nb' q = nb q ∧ bm' q = bm q) (hx : x_rr (s_rule w r) (nm' r) (on' r) (sl' r) (mo' r) (nb' r) (bm' r)) (h : x_gr g kd fi se tf ts ac tu nm on sl mo nb bm)
    (hc : x_gc G σ gb (g 0) (g 3) (g 4) (g 5) (g 6) (g 1) (g 2) kd fi se tf ts ac tu nm' on' sl' mo' nb' bm') : x_gm G σ gb w :=
  ⟨kd, fi, se, tf, ts, ac, tu, nm', on', sl', mo', nb', bm', by rw [e 0 (by omega), e 1 (by omega), e 2 (by omega), e 3 (by omega), e 4 (by omega), e 5 (by omega), e 6 (by omega)]; exact hc, x_gr_row hr e hw hn hx h⟩
end
