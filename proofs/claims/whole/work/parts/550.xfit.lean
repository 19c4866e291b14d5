section
def x_tz (u : Nat → Nat) (on sl mo nb : Nat) (bm : Nat → Nat) (n : Nat) (skf slf va sp : Nat → Nat) (gv gs lm vs : Nat) : Prop := x_on u on ∧ sl = u 18 ∧ mo = u 19 ∧ nb = u 20 ∧ x_bm u bm ∧ x_tc (s_A u) n skf slf va sp gv gs lm vs
theorem x_tf_b {u : Nat → Nat} {on sl mo nb : Nat} {bm : Nat → Nat} {n : Nat} {skf slf va sp : Nat → Nat} {gv gs lm vs : Nat} (hw : x_w u) (h : x_tz u on sl mo nb bm n skf slf va sp gv gs lm vs) : on < 2 ^ 41 ∧ sl ≤ 5 ∧ mo ≤ 40 ∧ nb ≤ 5 := by
  obtain ⟨h1, h2, h3, h4, h5, h6⟩ := h
  exact ⟨h1.1, by rw [h2]; exact hw.2.1, by rw [h3]; exact hw.2.2.1, by rw [h4]; exact hw.2.2.2.1⟩
theorem x_bm_lt2 {u bm : Nat → Nat} (hw : x_w u) (h : x_bm u bm) (i : Nat) (hi : i < u 20) : bm i < 2 ^ 31 := by
  have a := h i hi
  have b := hw.2.2.2.2.2 (2 * i) (by omega)
  have c := hw.2.2.2.2.2 (2 * i + 1) (by omega)
  rw [show 21 + (2 * i + 1) = 21 + 2 * i + 1 by omega] at c
  omega
theorem x_bm_lt {u : Nat → Nat} {on sl mo nb : Nat} {bm : Nat → Nat} {n : Nat} {skf slf va sp : Nat → Nat} {gv gs lm vs : Nat} (hw : x_w u) (h : x_tz u on sl mo nb bm n skf slf va sp gv gs lm vs) (i : Nat) (hi : i < nb) : bm i < 2 ^ 31 := by
  obtain ⟨h1, h2, h3, h4, h5, h6⟩ := h
  exact x_bm_lt2 hw h5 i (by omega)
theorem x_only_big {u : Nat → Nat} {x : Nat} (hw : x_w u) (h : 40 < x) : s_only u x = false := by
  have h9 := hw.1
  refine s_any_f (fun i hi => beq_eq_false_iff_ne.mpr (fun z => ?_))
  have := hw.2.2.2.2.1 i (by omega)
  omega
theorem x_A_same {u w : Nat → Nat} {on : Nat} {bm : Nat → Nat} (hu : x_w u) (hw : x_w w) (ou : x_on u on) (ow : x_on w on) (h18 : u 18 = w 18) (h19 : u 19 = w 19) (h20 : u 20 = w 20) (bu : x_bm u bm) (bw : x_bm w bm) : s_A u = s_A w := by
  have eo : ∀ x : Nat, s_only u x = s_only w x := by
    intro x
    by_cases h : x ≤ 40
    · rw [← ou.2.1 x h, ← ow.2.1 x h]
    · rw [x_only_big hu (by omega), x_only_big hw (by omega)]
  have e9 : (0 < u 9) = (0 < w 9) := by
    have a := ou.2.2
    have b := ow.2.2
    exact propext ⟨fun z => by have := mt b.mp; omega, fun z => by have := mt a.mp; omega⟩
  have eb : ∀ k l : Nat, s_barred u k l = s_barred w k l := by
    intro k l
    unfold s_barred s_bar
    rw [h20, s_first_congr (p := s_barp u k l) (q := s_barp w k l) (fun i hi => ?_)]
    have a := bu i (by omega)
    have b := bw i hi
    have c1 := hu.2.2.2.2.2 (2 * i) (by omega)
    have c2 := hu.2.2.2.2.2 (2 * i + 1) (by omega)
    have c3 := hw.2.2.2.2.2 (2 * i) (by omega)
    have c4 := hw.2.2.2.2.2 (2 * i + 1) (by omega)
    rw [show 21 + (2 * i + 1) = 21 + 2 * i + 1 by omega] at c2 c4
    unfold s_barp
    rw [show u (21 + 2 * i) = w (21 + 2 * i) by omega, show u (21 + 2 * i + 1) = w (21 + 2 * i + 1) by omega]
  funext q
  unfold s_A s_al s_forb
  simp only [h18, h19, eo, e9, eb]
theorem x_tf_eqm {u0 u : Nat → Nat} {onT slT moT nbT on : Nat} {bmT bm : Nat → Nat} {n : Nat} {skf slf va sp : Nat → Nat} {gv gs lm vs : Nat} (hw0 : x_w u0) (h0 : x_tz u0 onT slT moT nbT bmT n skf slf va sp gv gs lm vs) (hw : x_w u) (hon : x_on u on) (hbm : x_bm u bm) (he : x_eqm onT slT moT nbT bmT on (u 18) (u 19) (u 20) bm = true) : x_tz u onT slT moT nbT bmT n skf slf va sp gv gs lm vs := by
  obtain ⟨e1, e2, e3, e4, e5⟩ := of_decide_eq_true he
  obtain ⟨h1, h2, h3, h4, h5, h6⟩ := h0
  have hb : x_bm u bmT := fun i hi => (e5 i (by omega)).trans (hbm i hi)
  have hA : s_A u0 = s_A u := x_A_same hw0 hw h1 (e1 ▸ hon) (by omega) (by omega) (by omega) h5 hb
  exact ⟨e1 ▸ hon, e2, e3, e4, hb, hA ▸ h6⟩
theorem x_sum_0 (f : Nat → Nat) : x_tc.x_sum f 0 = 0 := rfl
theorem x_tc_mk {A : Nat → Bool} {skf slf va sp : Nat → Nat} (hs : x_st A skf slf 1681) (hv : ∀ p : Nat, p < 1681 → va p = s_val A p ∧ sp p = s_spn A p) : x_tc A (s_cnt A 1681) skf slf va sp (s_mx va 1681) (s_mx sp 1681) (s_cnt (fun q => va q == 0) 1681) (x_tc.x_sum va 1681) := by
  have es : ∀ n : Nat, n ≤ 1681 → x_tc.x_sum va n = x_tc.x_sum (s_val A) n := by
    intro n
    induction n with
    | zero => intro _; exact (x_sum_0 va).trans (x_sum_0 (s_val A)).symm
    | succ n ih => intro h; rw [x_sum_s, x_sum_s, ih (by omega), (hv n (by omega)).1]
  exact ⟨rfl, hs, hv, s_mx_congr (fun j hj => (hv j hj).1), s_mx_congr (fun j hj => (hv j hj).2), s_cnt_congr (fun j hj => by show (va j == 0) = (s_val A j == 0); rw [(hv j hj).1]), es 1681 (Nat.le_refl _)⟩
theorem x_fill2 {A : Nat → Bool} {va sp : Nat → Nat} {p : Nat} (h : ∀ j : Nat, j < p → va j = s_val A j ∧ sp j = s_spn A j) : ∀ j : Nat, j < p + 1 → va_up va p (s_val A p) j = s_val A j ∧ va_up sp p (s_spn A p) j = s_spn A j := fun j hj => ⟨q_fill (fun j hj => (h j hj).1) rfl j hj, q_fill (fun j hj => (h j hj).2) rfl j hj⟩
theorem va_up_ltb {g : Nat → Nat} {k v B M : Nat} (h : ∀ i : Nat, i < M → g i < B) (hv : v < B) : ∀ i : Nat, i < M → va_up g k v i < B := by
  intro i hi
  unfold va_up
  split
  · exact hv
  · exact h i hi
end
