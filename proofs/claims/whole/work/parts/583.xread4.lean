section
variable {f : Nat → Nat} {m : Nat}
theorem rd_d_5 {g : Nat → Nat} {t : Nat} (h : g 1 = 4) : rd_d f m g t = .inl (5, t) := by unfold rd_d; rw [if_pos h]
theorem rd_d_1 {g : Nat → Nat} {t t2 : Nat} (h : ¬ g 1 = 4) (h2 : t2 = tk_nx f m t) (hn : tk_nm f m t2 = false) : rd_d f m g t = .inl (1, t2) := by unfold rd_d; rw [if_neg h, ← h2, if_neg (by rw [hn]; decide)]
theorem rd_d_3 {g : Nat → Nat} {t t2 : Nat} (h : ¬ g 1 = 4) (h2 : t2 = tk_nx f m t) (hn : tk_nm f m t2 = true) (hi : ¬ s_nmi f m g t2 < g 0) : rd_d f m g t = .inl (3, t2) := by unfold rd_d; rw [if_neg h, ← h2, if_pos hn, if_neg hi]
theorem rd_d_gor {g : Nat → Nat} {t t2 t3 r : Nat} (h4 : ¬ g 1 = 4) (h2 : t2 = tk_nx f m t) (hn : tk_nm f m t2 = true) (hr : r < g 0) (hi : s_nmi f m g t2 = r) (h3 : t3 = tk_nx f m t2) : rd_d f m g t = rd_2 f m 0 40 0 40 (fun x y => s_addB g r x y) t3 := by
  rw [rd_d_go h4 h2 hn (by omega) h3, hi]
theorem rd_s_5 {g : Nat → Nat} {t : Nat} (h : g 2 = 4) : rd_s f m g t = .inl (5, t) := by unfold rd_s; rw [if_pos h]
theorem rd_s_go {g : Nat → Nat} {t t2 : Nat} (h : ¬ g 2 = 4) (h2 : t2 = tk_nx f m t) : rd_s f m g t = rd_2 f m 0 60 1 9 (fun x y => s_addS g x y) t2 := by unfold rd_s; rw [if_neg h, ← h2]
theorem rd_f_4 {g : Nat → Nat} {u t : Nat} (h : u = 1) : rd_f f m u g t = .inl (4, t) := by unfold rd_f; rw [if_pos h]
theorem rd_f_e {g : Nat → Nat} {u t t2 : Nat} (h : ¬ u = 1) (h2 : t2 = tk_nx f m t) (hn : ¬ tk_nc f m t2 0 1 = 0) : rd_f f m u g t = .inl (tk_nc f m t2 0 1, t2) := by unfold rd_f; rw [if_neg h, ← h2, if_neg hn]
theorem rd_f_t {g : Nat → Nat} {u t t2 t3 : Nat} (h : ¬ u = 1) (h2 : t2 = tk_nx f m t) (hn : tk_nc f m t2 0 1 = 0) (h3 : t3 = tk_nx f m t2) : rd_f f m u g t = .inr (va_up g 3 (tk_vl f m t2), t3) := by unfold rd_f; rw [if_neg h, ← h2, if_pos hn, ← h3]
/-- a board put behind the others -/
theorem x_p_addB {g kd fi se : Nat → Nat} {r x y : Nat} (h4 : g 1 < 4) (h : x_p g kd fi se) : x_p (s_addB g r x y) (va_up kd (g 1) r) (va_up fi (g 1) x) (va_up se (g 1) y) := by
  have e1 : s_addB g r x y 1 = g 1 + 1 := by unfold s_addB; exact va_up_at
  have e2 : s_addB g r x y 2 = g 2 := by unfold s_addB; rw [va_up_off (by decide), va_up_off (by omega), va_up_off (by omega), va_up_off (by omega), va_up_off (by omega), va_up_off (by omega)]
  have hlo : ∀ j : Nat, (133 ≤ j ∧ j < 133 + 5 * g 1) ∨ 153 ≤ j → s_addB g r x y j = g j := fun j hj => by
    unfold s_addB; rw [va_up_off (by omega), va_up_off (by omega), va_up_off (by omega), va_up_off (by omega), va_up_off (by omega), va_up_off (by omega)]
  have n0 : s_addB g r x y (133 + 5 * g 1 + 0) = r := by unfold s_addB; rw [va_up_off (by omega), va_up_off (by omega), va_up_off (by omega), va_up_off (by omega), va_up_off (by omega)]; exact va_up_at
  have n1 : s_addB g r x y (133 + 5 * g 1 + 1) = x := by unfold s_addB; rw [va_up_off (by omega), va_up_off (by omega), va_up_off (by omega), va_up_off (by omega)]; exact va_up_at
  have n2 : s_addB g r x y (133 + 5 * g 1 + 2) = y := by unfold s_addB; rw [va_up_off (by omega), va_up_off (by omega), va_up_off (by omega)]; exact va_up_at
  refine ⟨fun p hp => ?_, fun s hs => ?_⟩
  · rw [e1] at hp
    by_cases e : p = g 1
    · rw [e, n0, n1, n2]; exact ⟨va_up_at, va_up_at, va_up_at⟩
    · rw [hlo _ (by omega), hlo _ (by omega), hlo _ (by omega), va_up_off e, va_up_off e, va_up_off e]
      exact h.1 p (by omega)
  · rw [e2] at hs
    rw [hlo _ (by omega), hlo _ (by omega), va_up_off (by omega), va_up_off (by omega), va_up_off (by omega)]
    exact h.2 s hs
theorem x_tp_addB {g tf ts : Nat → Nat} {r x y : Nat} (h4 : g 1 < 4) (h : x_tp g tf ts) : x_tp (s_addB g r x y) (va_up tf (g 1) x) (va_up ts (g 1) y) := by
  have e1 : s_addB g r x y 1 = g 1 + 1 := by unfold s_addB; exact va_up_at
  have e2 : s_addB g r x y 2 = g 2 := by unfold s_addB; rw [va_up_off (by decide), va_up_off (by omega), va_up_off (by omega), va_up_off (by omega), va_up_off (by omega), va_up_off (by omega)]
  have hlo : ∀ j : Nat, (133 ≤ j ∧ j < 133 + 5 * g 1) ∨ 153 ≤ j → s_addB g r x y j = g j := fun j hj => by
    unfold s_addB; rw [va_up_off (by omega), va_up_off (by omega), va_up_off (by omega), va_up_off (by omega), va_up_off (by omega), va_up_off (by omega)]
  have n3 : s_addB g r x y (133 + 5 * g 1 + 3) = x := by unfold s_addB; rw [va_up_off (by omega), va_up_off (by omega)]; exact va_up_at
  have n4 : s_addB g r x y (133 + 5 * g 1 + 4) = y := by unfold s_addB; rw [va_up_off (by omega)]; exact va_up_at
  refine ⟨fun p hp => ?_, fun s hs => ?_⟩
  · rw [e1] at hp
    by_cases e : p = g 1
    · rw [e, n3, n4]; exact ⟨va_up_at, va_up_at⟩
    · rw [hlo _ (by omega), hlo _ (by omega), va_up_off e, va_up_off e]
      exact h.1 p (by omega)
  · rw [e2] at hs
    rw [hlo _ (by omega), va_up_off (by omega), va_up_off (by omega)]
    exact h.2 s hs
/-- a stick put behind the others -/
theorem x_p_addS {g kd fi se : Nat → Nat} {x y : Nat} (h1 : g 1 ≤ 4) (h4 : g 2 < 4) (h : x_p g kd fi se) : x_p (s_addS g x y) (va_up kd (4 + g 2) y) (va_up fi (4 + g 2) x) (va_up se (4 + g 2) 0) := by
  have e2 : s_addS g x y 2 = g 2 + 1 := by unfold s_addS; exact va_up_at
  have hlo : ∀ j : Nat, j = 1 ∨ (133 ≤ j ∧ j < 153 + 3 * g 2) → s_addS g x y j = g j := fun j hj => by
    unfold s_addS; rw [va_up_off (by omega), va_up_off (by omega), va_up_off (by omega), va_up_off (by omega)]
  have n0 : s_addS g x y (153 + 3 * g 2 + 0) = x := by unfold s_addS; rw [va_up_off (by omega), va_up_off (by omega), va_up_off (by omega)]; exact va_up_at
  have n1 : s_addS g x y (153 + 3 * g 2 + 1) = y := by unfold s_addS; rw [va_up_off (by omega), va_up_off (by omega)]; exact va_up_at
  refine ⟨fun p hp => ?_, fun s hs => ?_⟩
  · rw [hlo 1 (Or.inl rfl)] at hp
    rw [hlo _ (by omega), hlo _ (by omega), hlo _ (by omega), va_up_off (by omega), va_up_off (by omega), va_up_off (by omega)]
    exact h.1 p hp
  · rw [e2] at hs
    by_cases e : s = g 2
    · rw [e, n0, n1]; exact ⟨va_up_at, va_up_at, va_up_at⟩
    · rw [hlo _ (by omega), hlo _ (by omega), va_up_off (by omega), va_up_off (by omega), va_up_off (by omega)]
      exact h.2 s (by omega)
theorem x_tp_addS {g tf ts : Nat → Nat} {x y : Nat} (h1 : g 1 ≤ 4) (h4 : g 2 < 4) (h : x_tp g tf ts) : x_tp (s_addS g x y) (va_up tf (4 + g 2) x) (va_up ts (4 + g 2) 0) := by
  have e2 : s_addS g x y 2 = g 2 + 1 := by unfold s_addS; exact va_up_at
  have hlo : ∀ j : Nat, j = 1 ∨ (133 ≤ j ∧ j < 153 + 3 * g 2) → s_addS g x y j = g j := fun j hj => by
    unfold s_addS; rw [va_up_off (by omega), va_up_off (by omega), va_up_off (by omega), va_up_off (by omega)]
  have n2 : s_addS g x y (153 + 3 * g 2 + 2) = x := by unfold s_addS; rw [va_up_off (by omega)]; exact va_up_at
  refine ⟨fun p hp => ?_, fun s hs => ?_⟩
  · rw [hlo 1 (Or.inl rfl)] at hp
    rw [hlo _ (by omega), hlo _ (by omega), va_up_off (by omega), va_up_off (by omega)]
    exact h.1 p hp
  · rw [e2] at hs
    by_cases e : s = g 2
    · rw [e, n2]; exact ⟨va_up_at, va_up_at⟩
    · rw [hlo _ (by omega), va_up_off (by omega), va_up_off (by omega)]
      exact h.2 s (by omega)
theorem x_rl_same {g g' nm on sl mo nb : Nat → Nat} {bm : Nat → Nat → Nat} (hw : s_gwf g) (h0 : g' 0 = g 0) (e : ∀ j : Nat, 17 ≤ j → j < 133 → g' j = g j) (h : x_rl g (g 0) nm on sl mo nb bm) : x_rl g' (g' 0) nm on sl mo nb bm := by
  have h04 := hw.1
  intro r hr
  rw [h0] at hr
  exact x_rr_congr (fun j hj => e _ (by omega) (by omega)) (hw.2.2.2.2.2.1 r hr) (h r hr)
theorem s_addB_lo {g : Nat → Nat} {r x y j : Nat} (h : j < 133) (h1 : j ≠ 1) : s_addB g r x y j = g j := by unfold s_addB; rw [va_up_off (by omega), va_up_off (by omega), va_up_off (by omega), va_up_off (by omega), va_up_off (by omega), va_up_off (by omega)]
theorem s_addS_lo {g : Nat → Nat} {x y j : Nat} (h : j < 133) (h1 : j ≠ 2) : s_addS g x y j = g j := by unfold s_addS; rw [va_up_off (by omega), va_up_off (by omega), va_up_off (by omega), va_up_off (by omega)]
theorem x_p_same {g g' kd fi se : Nat → Nat} (h1 : g' 1 = g 1) (h2 : g' 2 = g 2) (hb1 : g 1 ≤ 4) (hb2 : g 2 ≤ 4) (e : ∀ j : Nat, 133 ≤ j → j < 165 → g' j = g j) (h : x_p g kd fi se) : x_p g' kd fi se :=
  ⟨fun p hp => by rw [e _ (by omega) (by omega), e _ (by omega) (by omega), e _ (by omega) (by omega)]; exact h.1 p (by omega), fun s hs => by rw [e _ (by omega) (by omega), e _ (by omega) (by omega)]; exact h.2 s (by omega)⟩
theorem x_tp_same {g g' tf ts : Nat → Nat} (h1 : g' 1 = g 1) (h2 : g' 2 = g 2) (hb1 : g 1 ≤ 4) (hb2 : g 2 ≤ 4) (e : ∀ j : Nat, 133 ≤ j → j < 165 → g' j = g j) (h : x_tp g tf ts) : x_tp g' tf ts :=
  ⟨fun p hp => by rw [e _ (by omega) (by omega), e _ (by omega) (by omega)]; exact h.1 p (by omega), fun s hs => by rw [e _ (by omega) (by omega)]; exact h.2 s (by omega)⟩
/-- a rule read leaves the parts -/
theorem rd_r_parts {g g' : Nat → Nat} {t t' : Nat} (hi : rd_inv g) (hR : rd_r f m g t = .inr (g', t')) : g' 1 = g 1 ∧ g' 2 = g 2 ∧ g' 3 = g 3 ∧ ∀ j : Nat, 133 ≤ j → g' j = g j := by
  have h04 := hi.1.1
  unfold rd_r at hR
  by_cases h1 : g 0 = 4
  · rw [if_pos h1] at hR; cases hR
  · rw [if_neg h1] at hR
    by_cases h2 : tk_nm f m (tk_nx f m t) = true
    · rw [if_pos h2] at hR
      by_cases h3 : s_nmi f m g (tk_nx f m t) < g 0
      · rw [if_pos h3] at hR; cases hR
      · rw [if_neg h3] at hR
        unfold rd_r2 at hR
        obtain ⟨k1, k2⟩ := rd_new_ok hi (by omega) h2
        obtain ⟨g4, t4, e4, hR⟩ := rd_bd_inr hR
        have w4 := rd_o_wf k1 e4
        obtain ⟨g5, t5, e5, hR⟩ := rd_bd_inr hR
        have w5 := rd_w_wf w4.1 (by omega) e5
        obtain ⟨g6, t6, e6, hR⟩ := rd_bd_inr hR
        have w6 := rd_w_wf w5.1 (by omega) e6
        obtain ⟨g7, t7, e7, hR⟩ := rd_bd_inr hR
        have w7 := rd_bL_wf 5 w6.1 e7
        cases hR
        have hs := rw_sm_trans (rw_sm_trans (rw_sm_trans (rw_sm_trans k2 w4.2) w5.2) w6.2) w7.2
        exact ⟨by rw [va_up_off (by decide)]; exact hs _ (Or.inl (by omega)), by rw [va_up_off (by decide)]; exact hs _ (Or.inl (by omega)), by rw [va_up_off (by decide)]; exact hs _ (Or.inl (by omega)), fun j hj => by rw [va_up_off (by omega)]; exact hs _ (Or.inr (by omega))⟩
    · rw [if_neg h2] at hR; cases hR
/-- one statement and its semicolon -/
theorem rd_t_e {n u t : Nat} {g : Nat → Nat} {e : Nat × Nat} (h : ¬ tk_kd f m t = 0) (hR : rd_m f m u g t = .inl e) : rd_t f m (n + 1) u g t = .inl e := by rw [rd_t_s h, hR]; rfl
theorem rd_t_x {n u t t2 : Nat} {g g2 : Nat → Nat} (h : ¬ tk_kd f m t = 0) (hR : rd_m f m u g t = .inr (g2, t2)) (h3 : ¬ tk_kd f m t2 = 3) : rd_t f m (n + 1) u g t = .inl (1, t2) := by
  rw [rd_t_s h, hR]
  show (if tk_kd f m t2 = 3 then _ else _) = _
  rw [if_neg h3]
theorem rd_t_g {n u u2 t t2 t3 : Nat} {g g2 : Nat → Nat} (h : ¬ tk_kd f m t = 0) (hR : rd_m f m u g t = .inr (g2, t2)) (h3 : tk_kd f m t2 = 3) (hu : u2 = rd_u f m u t) (ht : t3 = tk_nx f m t2) : rd_t f m (n + 1) u g t = rd_t f m n u2 g2 t3 := by
  rw [rd_t_s h, hR, hu, ht]
  show (if tk_kd f m t2 = 3 then _ else _) = _
  rw [if_pos h3]
theorem rd_m_r {u t : Nat} {g : Nat → Nat} (h : tk_wd f m t [114, 117, 108, 101] = true) : rd_m f m u g t = rd_r f m g t := by unfold rd_m; rw [if_pos h]
theorem rd_m_d {u t : Nat} {g : Nat → Nat} (h1 : tk_wd f m t [114, 117, 108, 101] = false) (h : tk_wd f m t [98, 111, 97, 114, 100] = true) : rd_m f m u g t = rd_d f m g t := by unfold rd_m; rw [if_neg (by rw [h1]; decide), if_pos h]
theorem rd_m_s {u t : Nat} {g : Nat → Nat} (h1 : tk_wd f m t [114, 117, 108, 101] = false) (h2 : tk_wd f m t [98, 111, 97, 114, 100] = false) (h : tk_wd f m t [115, 116, 105, 99, 107] = true) : rd_m f m u g t = rd_s f m g t := by unfold rd_m; rw [if_neg (by rw [h1]; decide), if_neg (by rw [h2]; decide), if_pos h]
theorem rd_m_f {u t : Nat} {g : Nat → Nat} (h1 : tk_wd f m t [114, 117, 108, 101] = false) (h2 : tk_wd f m t [98, 111, 97, 114, 100] = false) (h3 : tk_wd f m t [115, 116, 105, 99, 107] = false) (h : tk_wd f m t [102, 105, 114, 115, 116] = true) : rd_m f m u g t = rd_f f m u g t := by unfold rd_m; rw [if_neg (by rw [h1]; decide), if_neg (by rw [h2]; decide), if_neg (by rw [h3]; decide), if_pos h]
theorem rd_m_1 {u t : Nat} {g : Nat → Nat} (h1 : tk_wd f m t [114, 117, 108, 101] = false) (h2 : tk_wd f m t [98, 111, 97, 114, 100] = false) (h3 : tk_wd f m t [115, 116, 105, 99, 107] = false) (h4 : tk_wd f m t [102, 105, 114, 115, 116] = false) : rd_m f m u g t = .inl (1, t) := by unfold rd_m; rw [if_neg (by rw [h1]; decide), if_neg (by rw [h2]; decide), if_neg (by rw [h3]; decide), if_neg (by rw [h4]; decide)]
theorem rd_u_0 {u t : Nat} (h : tk_wd f m t [102, 105, 114, 115, 116] = false) : u = rd_u f m u t := by unfold rd_u; rw [if_neg (by rw [h]; decide)]
theorem rd_u_1 {u t : Nat} (h : tk_wd f m t [102, 105, 114, 115, 116] = true) : 1 = rd_u f m u t := by unfold rd_u; rw [if_pos h]
end
