section
def rw_ok (r : Nat) (g : Nat → Nat) : Prop := s_rwf (s_rule g r) ∧ ∀ i : Nat, g i < 2 ^ 31
def rw_sm (r : Nat) (g g' : Nat → Nat) : Prop := ∀ i : Nat, (i < 17 + 29 * r ∨ 17 + 29 * r + 29 ≤ i) → g' i = g i
theorem rw_sm_refl (r : Nat) (g : Nat → Nat) : rw_sm r g g := fun _ _ => rfl
theorem rw_sm_trans {r : Nat} {g h k : Nat → Nat} (h1 : rw_sm r g h) (h2 : rw_sm r h k) : rw_sm r g k := fun i hi => (h2 i hi).trans (h1 i hi)
theorem rw_sm_up {r j v : Nat} {g : Nat → Nat} (hj : j < 29) : rw_sm r g (va_up g (17 + 29 * r + j) v) := by
  intro i hi
  unfold va_up
  rw [if_neg (by omega)]
theorem rw_sm_g0 {r : Nat} {g g' : Nat → Nat} (h : rw_sm r g g') : g' 0 = g 0 := h 0 (Or.inl (by omega))
theorem s_ins_out {r x : Nat} : ∀ (i : Nat) (g : Nat → Nat) (j : Nat), (j < 17 + 29 * r + 10 ∨ 17 + 29 * r + (10 + i) < j) → s_ins r x i g j = g j
  | 0, g, j, h => by
    show va_up g (17 + 29 * r + 10) x j = g j
    unfold va_up; rw [if_neg (by omega)]
  | i + 1, g, j, h => by
    show (if x < g (17 + 29 * r + (10 + i)) then s_ins r x i (va_up g (17 + 29 * r + (10 + (i + 1))) (g (17 + 29 * r + (10 + i)))) else va_up g (17 + 29 * r + (10 + (i + 1))) x) j = g j
    split
    · rw [s_ins_out i _ j (by omega)]
      unfold va_up; rw [if_neg (by omega)]
    · unfold va_up; rw [if_neg (by omega)]
theorem s_ins_lt {r x B : Nat} (hx : x < B) : ∀ (i : Nat) (g : Nat → Nat), (∀ j : Nat, g j < B) → ∀ j : Nat, s_ins r x i g j < B
  | 0, g, h, j => va_up_lt h hx j
  | i + 1, g, h, j => by
    show (if x < g (17 + 29 * r + (10 + i)) then s_ins r x i (va_up g (17 + 29 * r + (10 + (i + 1))) (g (17 + 29 * r + (10 + i)))) else va_up g (17 + 29 * r + (10 + (i + 1))) x) j < B
    split
    · exact s_ins_lt hx i _ (va_up_lt h (h _)) j
    · exact va_up_lt h hx j
theorem s_ins_40 {r x : Nat} (hx : x ≤ 40) : ∀ (i : Nat) (g : Nat → Nat), i ≤ 7 → (∀ j : Nat, j < 8 → g (17 + 29 * r + (10 + j)) ≤ 40) → ∀ j : Nat, j < 8 → s_ins r x i g (17 + 29 * r + (10 + j)) ≤ 40
  | 0, g, hi, h, j, hj => by
    show va_up g (17 + 29 * r + 10) x (17 + 29 * r + (10 + j)) ≤ 40
    unfold va_up
    split
    · exact hx
    · exact h j hj
  | i + 1, g, hi, h, j, hj => by
    show (if x < g (17 + 29 * r + (10 + i)) then s_ins r x i (va_up g (17 + 29 * r + (10 + (i + 1))) (g (17 + 29 * r + (10 + i)))) else va_up g (17 + 29 * r + (10 + (i + 1))) x) (17 + 29 * r + (10 + j)) ≤ 40
    split
    · refine s_ins_40 hx i _ (by omega) (fun j hj => ?_) j hj
      unfold va_up
      split
      · exact h i (by omega)
      · exact h j hj
    · unfold va_up
      split
      · exact hx
      · exact h j hj
theorem s_addO_at (g : Nat → Nat) (r x j : Nat) : s_rule (s_addO g r x) r j = if j = 9 then s_rule g r 9 + 1 else s_rule (s_ins r x (s_rule g r 9) g) r j := by
  unfold s_addO
  have e9 : s_rule (s_ins r x (s_rule g r 9) g) r 9 = s_rule g r 9 := s_ins_out _ _ _ (Or.inl (by omega))
  rw [e9]
  show va_up _ (17 + 29 * r + 9) _ (17 + 29 * r + j) = _
  unfold va_up
  by_cases e : j = 9
  · rw [if_pos (by omega), if_pos e]
  · rw [if_neg (by omega), if_neg e]; rfl
theorem s_addO_wf {r x : Nat} {g : Nat → Nat} (h : rw_ok r g) (h9 : s_rule g r 9 < 8) (hx : x ≤ 40) : rw_ok r (s_addO g r x) ∧ rw_sm r g (s_addO g r x) ∧ s_rule (s_addO g r x) r 9 = s_rule g r 9 + 1 := by
  obtain ⟨⟨w0, w9, w18, w19, w20, wo, wb⟩, hv⟩ := h
  have out : ∀ j : Nat, j ≠ 9 → (j < 10 ∨ 17 < j) → s_rule (s_addO g r x) r j = s_rule g r j := fun j h1 h2 => by
    rw [s_addO_at, if_neg h1]
    exact s_ins_out _ _ _ (by omega)
  have e9 : s_rule (s_addO g r x) r 9 = s_rule g r 9 + 1 := by rw [s_addO_at, if_pos rfl]
  refine ⟨⟨⟨?_, ?_, ?_, ?_, ?_, ?_, ?_⟩, ?_⟩, ?_, e9⟩
  · rw [out 0 (by decide) (Or.inl (by decide))]; exact w0
  · rw [e9]; omega
  · rw [out 18 (by decide) (Or.inr (by decide))]; exact w18
  · rw [out 19 (by decide) (Or.inr (by decide))]; exact w19
  · rw [out 20 (by decide) (Or.inr (by decide))]; exact w20
  · intro i hi
    rw [s_addO_at, if_neg (by omega)]
    exact s_ins_40 hx _ g (by omega) (fun j hj => wo j hj) i hi
  · intro i hi
    rw [out (21 + i) (by omega) (Or.inr (by omega))]; exact wb i hi
  · intro i
    unfold s_addO
    have hl := s_ins_lt (r := r) (show x < 2 ^ 31 by omega) (s_rule g r 9) g hv
    refine va_up_lt hl ?_ i
    have e : s_rule (s_ins r x (s_rule g r 9) g) r 9 = s_rule g r 9 := s_ins_out _ _ _ (Or.inl (by omega))
    rw [e]; omega
  · intro i hi
    unfold s_addO va_up
    rw [if_neg (by omega)]
    exact s_ins_out _ _ _ (by omega)
variable {f : Nat → Nat} {m : Nat}
theorem rd_oN_wf {r : Nat} {g g' : Nat → Nat} {t t' : Nat} (h : rw_ok r g) (hR : rd_oN f m r g t = .inr (g', t')) : rw_ok r g' ∧ rw_sm r g g' ∧ s_rule g' r 9 = s_rule g r 9 + 1 := by
  unfold rd_oN at hR
  by_cases h1 : tk_nc f m t 1 40 = 0
  · rw [if_pos h1] at hR
    by_cases h2 : s_only (s_rule g r) (tk_vl f m t) = true
    · rw [if_pos h2] at hR; cases hR
    · rw [if_neg h2] at hR
      by_cases h3 : s_rule g r 9 = 8
      · rw [if_pos h3] at hR; cases hR
      · rw [if_neg h3] at hR; cases hR
        exact s_addO_wf h (by have := h.1.2.1; omega) (tk_nc_v h1).2
  · rw [if_neg h1] at hR; cases hR
theorem rd_oL_wf {r : Nat} : ∀ (n : Nat) {g g' : Nat → Nat} {t t' : Nat}, rw_ok r g → rd_oL f m r n g t = .inr (g', t') → rw_ok r g' ∧ rw_sm r g g'
  | 0, g, g', t, t', h, hR => by cases hR; exact ⟨h, rw_sm_refl _ _⟩
  | n + 1, g, g', t, t', h, hR => by
    have hR2 : (if tk_kd f m t = 2 then rd_bd (rd_oN f m r g t) (rd_oL f m r n) else .inr (g, t)) = .inr (g', t') := hR
    by_cases h1 : tk_kd f m t = 2
    · rw [if_pos h1] at hR2
      obtain ⟨g1, t1, e1, e2⟩ := rd_bd_inr hR2
      obtain ⟨k1, k2, -⟩ := rd_oN_wf h e1
      obtain ⟨k3, k4⟩ := rd_oL_wf n k1 e2
      exact ⟨k3, rw_sm_trans k2 k4⟩
    · rw [if_neg h1] at hR2; cases hR2; exact ⟨h, rw_sm_refl _ _⟩
theorem rd_o_wf {r : Nat} {g g' : Nat → Nat} {t t' : Nat} (h : rw_ok r g) (hR : rd_o f m r g t = .inr (g', t')) : rw_ok r g' ∧ rw_sm r g g' := by
  unfold rd_o at hR
  by_cases h1 : tk_wd f m t [111, 110, 108, 121] = true
  · rw [if_pos h1] at hR
    obtain ⟨g1, t1, e1, e2⟩ := rd_bd_inr hR
    obtain ⟨k1, k2, -⟩ := rd_oN_wf h e1
    obtain ⟨k3, k4⟩ := rd_oL_wf 9 k1 e2
    exact ⟨k3, rw_sm_trans k2 k4⟩
  · rw [if_neg h1] at hR; cases hR; exact ⟨h, rw_sm_refl _ _⟩
theorem rw_ok_up {r j v : Nat} {g : Nat → Nat} (h : rw_ok r g) (hj : (j = 18 ∧ v ≤ 5) ∨ (j = 19 ∧ v ≤ 40)) : rw_ok r (va_up g (17 + 29 * r + j) v) := by
  obtain ⟨⟨w0, w9, w18, w19, w20, wo, wb⟩, hv⟩ := h
  have at_ : ∀ i : Nat, s_rule (va_up g (17 + 29 * r + j) v) r i = if i = j then v else s_rule g r i := fun i => by
    show va_up g (17 + 29 * r + j) v (17 + 29 * r + i) = _
    unfold va_up
    by_cases e : i = j
    · rw [if_pos (by omega), if_pos e]
    · rw [if_neg (by omega), if_neg e]; rfl
  refine ⟨⟨?_, ?_, ?_, ?_, ?_, ?_, ?_⟩, va_up_lt hv (by omega)⟩
  · rw [at_, if_neg (by omega)]; exact w0
  · rw [at_, if_neg (by omega)]; exact w9
  · rw [at_]; split
    · omega
    · exact w18
  · rw [at_]; split
    · omega
    · exact w19
  · rw [at_, if_neg (by omega)]; exact w20
  · intro i hi; rw [at_, if_neg (by omega)]; exact wo i hi
  · intro i hi; rw [at_, if_neg (by omega)]; exact wb i hi
theorem rd_w_wf {r j lo hi : Nat} {bs : List Nat} {g g' : Nat → Nat} {t t' : Nat} (h : rw_ok r g) (hj : (j = 18 ∧ hi ≤ 5) ∨ (j = 19 ∧ hi ≤ 40)) (hR : rd_w f m bs r j lo hi g t = .inr (g', t')) : rw_ok r g' ∧ rw_sm r g g' := by
  unfold rd_w at hR
  by_cases h1 : tk_wd f m t bs = true
  · rw [if_pos h1] at hR
    by_cases h2 : tk_nc f m (tk_nx f m t) lo hi = 0
    · rw [if_pos h2] at hR; cases hR
      have hv := tk_nc_v h2
      exact ⟨rw_ok_up h (by omega), rw_sm_up (by omega)⟩
    · rw [if_neg h2] at hR; cases hR
  · rw [if_neg h1] at hR; cases hR; exact ⟨h, rw_sm_refl _ _⟩
theorem s_addBr_at (g : Nat → Nat) (r k l j : Nat) (hb : s_rule g r 20 < 4) (hj : j < 29) : s_rule (s_addBr g r k l) r j = if j = 20 then s_rule g r 20 + 1 else if j = 21 + 2 * s_rule g r 20 + 1 then l else if j = 21 + 2 * s_rule g r 20 then k else s_rule g r j := by
  unfold s_addBr
  rw [s_rset_at, s_rset_at, s_rset_at]
theorem s_addBr_wf {r k l : Nat} {g : Nat → Nat} (h : rw_ok r g) (hb : s_rule g r 20 < 4) (hk : k ≤ 40) (hl : l ≤ 40) : rw_ok r (s_addBr g r k l) ∧ rw_sm r g (s_addBr g r k l) ∧ s_rule (s_addBr g r k l) r 20 = s_rule g r 20 + 1 := by
  obtain ⟨⟨w0, w9, w18, w19, w20, wo, wb⟩, hv⟩ := h
  have at_ := fun j hj => s_addBr_at g r k l j hb hj
  refine ⟨⟨⟨?_, ?_, ?_, ?_, ?_, ?_, ?_⟩, ?_⟩, ?_, ?_⟩
  · rw [at_ 0 (by decide), if_neg (by decide), if_neg (by omega), if_neg (by omega)]; exact w0
  · rw [at_ 9 (by decide), if_neg (by decide), if_neg (by omega), if_neg (by omega)]; exact w9
  · rw [at_ 18 (by decide), if_neg (by decide), if_neg (by omega), if_neg (by omega)]; exact w18
  · rw [at_ 19 (by decide), if_neg (by decide), if_neg (by omega), if_neg (by omega)]; exact w19
  · rw [at_ 20 (by decide), if_pos rfl]; omega
  · intro i hi; rw [at_ (10 + i) (by omega), if_neg (by omega), if_neg (by omega), if_neg (by omega)]; exact wo i hi
  · intro i hi
    rw [at_ (21 + i) (by omega), if_neg (by omega)]
    split
    · exact hl
    · split
      · exact hk
      · exact wb i hi
  · unfold s_addBr s_rset
    exact va_up_lt (va_up_lt (va_up_lt hv (by omega)) (by omega)) (by omega)
  · intro i hi
    unfold s_addBr s_rset va_up
    rw [if_neg (by omega), if_neg (by omega), if_neg (by omega)]
  · rw [at_ 20 (by decide), if_pos rfl]
theorem rd_b_wf {r : Nat} {g g' : Nat → Nat} {t t' : Nat} (h : rw_ok r g) (hR : rd_b f m r g t = .inr (g', t')) : rw_ok r g' ∧ rw_sm r g g' ∧ s_rule g' r 20 = s_rule g r 20 + 1 := by
  unfold rd_b at hR
  by_cases h1 : s_rule g r 20 = 4
  · rw [if_pos h1] at hR; cases hR
  · rw [if_neg h1] at hR
    by_cases h2 : tk_nc f m (tk_nx f m t) 0 40 = 0
    · rw [if_pos h2] at hR
      unfold rd_b2 at hR
      by_cases h3 : tk_nc f m (tk_nx f m (tk_nx f m t)) (if tk_vl f m (tk_nx f m t) = 0 then 1 else 0) 40 = 0
      · rw [if_pos h3] at hR
        by_cases h4 : s_barred (s_rule g r) (tk_vl f m (tk_nx f m t)) (tk_vl f m (tk_nx f m (tk_nx f m t))) = true
        · rw [if_pos h4] at hR; cases hR
        · rw [if_neg h4] at hR; cases hR
          exact s_addBr_wf h (by have := h.1.2.2.2.2.1; omega) (tk_nc_v h2).2 (tk_nc_v h3).2
      · rw [if_neg h3] at hR; cases hR
    · rw [if_neg h2] at hR; cases hR
theorem rd_bL_wf {r : Nat} : ∀ (n : Nat) {g g' : Nat → Nat} {t t' : Nat}, rw_ok r g → rd_bL f m r n g t = .inr (g', t') → rw_ok r g' ∧ rw_sm r g g'
  | 0, g, g', t, t', h, hR => by cases hR; exact ⟨h, rw_sm_refl _ _⟩
  | n + 1, g, g', t, t', h, hR => by
    have hR2 : (if tk_wd f m t [98, 97, 114] = true then rd_bd (rd_b f m r g t) (rd_bL f m r n) else .inr (g, t)) = .inr (g', t') := hR
    by_cases h1 : tk_wd f m t [98, 97, 114] = true
    · rw [if_pos h1] at hR2
      obtain ⟨g1, t1, e1, e2⟩ := rd_bd_inr hR2
      obtain ⟨k1, k2, -⟩ := rd_b_wf h e1
      obtain ⟨k3, k4⟩ := rd_bL_wf n k1 e2
      exact ⟨k3, rw_sm_trans k2 k4⟩
    · rw [if_neg h1] at hR2; cases hR2; exact ⟨h, rw_sm_refl _ _⟩
theorem rd_oL_s {r n : Nat} {g g' : Nat → Nat} {t t' : Nat} (h : tk_kd f m t = 2) (hR : rd_oN f m r g t = .inr (g', t')) : rd_oL f m r (n + 1) g t = rd_oL f m r n g' t' := by
  show (if tk_kd f m t = 2 then rd_bd (rd_oN f m r g t) (rd_oL f m r n) else .inr (g, t)) = _
  rw [if_pos h, rd_bd_r hR]
theorem rd_oL_e {r n : Nat} {g : Nat → Nat} {t : Nat} {e : Nat × Nat} (h : tk_kd f m t = 2) (hR : rd_oN f m r g t = .inl e) : rd_oL f m r (n + 1) g t = .inl e := by
  show (if tk_kd f m t = 2 then rd_bd (rd_oN f m r g t) (rd_oL f m r n) else .inr (g, t)) = _
  rw [if_pos h, rd_bd_l hR]
theorem rd_oL_n {r n : Nat} {g : Nat → Nat} {t : Nat} (h : ¬ tk_kd f m t = 2) : rd_oL f m r n g t = .inr (g, t) := by
  cases n with
  | zero => rfl
  | succ n => exact if_neg h
theorem rd_bL_s {r n : Nat} {g g' : Nat → Nat} {t t' : Nat} (h : tk_wd f m t [98, 97, 114] = true) (hR : rd_b f m r g t = .inr (g', t')) : rd_bL f m r (n + 1) g t = rd_bL f m r n g' t' := by
  show (if tk_wd f m t [98, 97, 114] = true then rd_bd (rd_b f m r g t) (rd_bL f m r n) else .inr (g, t)) = _
  rw [if_pos h, rd_bd_r hR]
theorem rd_bL_e {r n : Nat} {g : Nat → Nat} {t : Nat} {e : Nat × Nat} (h : tk_wd f m t [98, 97, 114] = true) (hR : rd_b f m r g t = .inl e) : rd_bL f m r (n + 1) g t = .inl e := by
  show (if tk_wd f m t [98, 97, 114] = true then rd_bd (rd_b f m r g t) (rd_bL f m r n) else .inr (g, t)) = _
  rw [if_pos h, rd_bd_l hR]
theorem rd_bL_n {r n : Nat} {g : Nat → Nat} {t : Nat} (h : ¬ tk_wd f m t [98, 97, 114] = true) : rd_bL f m r n g t = .inr (g, t) := by
  cases n with
  | zero => rfl
  | succ n => exact if_neg h
end
