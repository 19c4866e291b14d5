/-! A TURN OF THE CLASS: what the game holds behind it -/
section
theorem x_forb_congr {u w : Nat → Nat} (h : ∀ j : Nat, j < 29 → w j = u j) (h9 : u 9 ≤ 8) (h20 : u 20 ≤ 4) (k l : Nat) : s_forb w k l = s_forb u k l := by
  have e9 := h 9 (by omega)
  have e18 := h 18 (by omega)
  have e19 := h 19 (by omega)
  have e20 := h 20 (by omega)
  have eo : s_only w (k + l) = s_only u (k + l) := by
    unfold s_only s_any
    rw [e9, s_first_congr fun j hj => by rw [h (10 + j) (by omega)]]
  have eb : s_barred w k l = s_barred u k l := by
    unfold s_barred s_bar
    rw [e20, s_first_congr (p := s_barp w k l) (q := s_barp u k l) fun j hj => by unfold s_barp; rw [h (21 + 2 * j) (by omega), h (21 + 2 * j + 1) (by omega)]]
  unfold s_forb
  rw [e9, e18, e19, eo, eb]
theorem x_part_ag {g h : Nat → Nat} (e : s_ag g h) (hg : s_gwf g) {p : Nat} (hp : p < s_np g) : s_x h p = s_x g p ∧ s_y h p = s_y g p := by
  have h1 := hg.2.1
  have h2 := hg.2.2.1
  unfold s_np at hp
  unfold s_x s_y
  rw [e.2.1]
  by_cases hb : p < g 1
  · simp only [if_pos hb]
    exact ⟨e.2.2.2 _ (by omega) (by omega), e.2.2.2 _ (by omega) (by omega)⟩
  · simp only [if_neg hb]
    exact ⟨e.2.2.2 _ (by omega) (by omega), trivial⟩
theorem x_ref_ag {g h : Nat → Nat} (e : s_ag g h) (hg : s_gwf g) {p : Nat} (hp : p < s_np g) (k l : Nat) : s_ref h p k l = s_ref g p k l := by
  obtain ⟨ex, ey⟩ := x_part_ag e hg hp
  have h1 := hg.2.1
  have h2 := hg.2.2.1
  have h0 := hg.1
  unfold s_np at hp
  unfold s_ref
  rw [ex, ey, e.2.1]
  by_cases hb : p < g 1
  · have hk := (hg.2.2.2.2.2.2.1 p hb).1
    have hu := hg.2.2.2.2.2.1 _ hk
    rw [if_pos hb, e.2.2.2 (133 + 5 * p + 0) (by omega) (by omega), x_forb_congr (u := s_rule g (g (133 + 5 * p + 0))) (fun j hj => s_ag_rule e (by omega) hj) hu.2.1 hu.2.2.2.2.1]
    simp only [if_pos hb]
  · rw [if_neg hb, e.2.2.2 (153 + 3 * (p - g 1) + 1) (by omega) (by omega)]
    simp only [if_neg hb]
theorem x_pv_ag {g h : Nat → Nat} (e : s_ag g h) (hg : s_gwf g) {p : Nat} (hp : p < s_np g) (k l : Nat) : s_pv h p k l = s_pv g p k l := by
  have h1 := hg.2.1
  have h2 := hg.2.2.1
  have h0 := hg.1
  unfold s_np at hp
  unfold s_pv
  rw [e.2.1]
  by_cases hb : p < g 1
  · obtain ⟨hk, b1, b2, -, -⟩ := hg.2.2.2.2.2.2.1 p hb
    have hu := hg.2.2.2.2.2.1 _ hk
    rw [if_pos hb, if_pos hb, e.2.2.2 (133 + 5 * p + 0) (by omega) (by omega), e.2.2.2 (133 + 5 * p + 1) (by omega) (by omega), e.2.2.2 (133 + 5 * p + 2) (by omega) (by omega)]
    exact (s_V_congr (u := s_rule g (g (133 + 5 * p + 0))) (w := s_rule h (g (133 + 5 * p + 0))) (fun j _ hj => (s_ag_rule e (by omega) hj).symm) ⟨hu.2.1, hu.2.2.2.2.1⟩ (by omega)).symm
  · rw [if_neg hb, if_neg hb, e.2.2.2 (153 + 3 * (p - g 1) + 0) (by omega) (by omega), e.2.2.2 (153 + 3 * (p - g 1) + 1) (by omega) (by omega)]
theorem x_np_ag {g h : Nat → Nat} (e : s_ag g h) : s_np h = s_np g := by unfold s_np; rw [e.2.1, e.2.2.1]
theorem x_xs_ag {g h : Nat → Nat} (e : s_ag g h) (hg : s_gwf g) : ∀ n : Nat, n ≤ s_np g → s_xs h n = s_xs g n
  | 0, _ => rfl
  | n + 1, hn => by
    show s_xs h n ^^^ s_pv h n 0 0 = s_xs g n ^^^ s_pv g n 0 0
    rw [x_xs_ag e hg n (by omega), x_pv_ag e hg (show n < s_np g by omega)]
theorem x_tot_ag {g h : Nat → Nat} (e : s_ag g h) (hg : s_gwf g) : s_tot h = s_tot g := by
  unfold s_tot
  rw [x_np_ag e, x_xs_ag e hg _ (Nat.le_refl _)]
theorem x_any_congr {P Q : Nat → Bool} {n : Nat} (h : ∀ j : Nat, j < n → P j = Q j) : s_any P n = s_any Q n := by
  unfold s_any
  rw [s_first_congr h]
theorem x_ok_ag {g h : Nat → Nat} (e : s_ag g h) (hg : s_gwf g) {p : Nat} (hp : p < s_np g) (w : Bool) (k l : Nat) : s_ok h p w k l = s_ok g p w k l := by
  unfold s_ok
  rw [x_ref_ag e hg hp, x_pv_ag e hg hp, x_pv_ag e hg hp, x_tot_ag e hg]
theorem x_has_ag {g h : Nat → Nat} (e : s_ag g h) (hg : s_gwf g) {p : Nat} (hp : p < s_np g) (w : Bool) : s_has h w p = s_has g w p := by
  obtain ⟨ex, ey⟩ := x_part_ag e hg hp
  unfold s_has
  rw [ex, ey]
  exact x_any_congr (fun k _ => x_any_congr (fun l _ => x_ok_ag e hg hp w k l))
theorem x_over_ag {g h : Nat → Nat} (e : s_ag g h) (hg : s_gwf g) : s_over h = s_over g := by
  unfold s_over s_hasAny
  rw [x_np_ag e, x_any_congr (fun p hp => x_has_ag e hg hp false)]
theorem x_play_ag {g : Nat → Nat} {p k l : Nat} (hg : s_gwf g) (hp : p < s_np g) : s_ag (s_take g p k l) (s_play g p k l) :=
  ⟨s_play_mid hg hp 0 (by omega), s_play_mid hg hp 1 (by omega), s_play_mid hg hp 2 (by omega), fun j h1 h2 => s_play_mid hg hp j (by omega)⟩
theorem x_tot_play {g : Nat → Nat} {p k l : Nat} (hg : s_gwf g) (hp : p < s_np g) : s_tot (s_play g p k l) = s_tot (s_take g p k l) := x_tot_ag (x_play_ag hg hp) (s_gwf_take hg hp)
/-- accounts -/
def x_acu (ac : Nat → Nat) (pl w x : Nat) : Nat → Nat := va_up ac (pl * 5 + w) (ac (pl * 5 + w) + x)
def x_acP (ac : Nat → Nat) (pl kl : Nat) (ov : Bool) (tt : Nat) (cw : Bool) : Nat → Nat :=
  if tt = 0 then x_acu (if ov = true then x_acu (x_acu (x_acu ac pl 0 1) pl 1 kl) pl 2 1 else x_acu (x_acu ac pl 0 1) pl 1 kl) pl 3 1
  else if cw = true then x_acu (if ov = true then x_acu (x_acu (x_acu ac pl 0 1) pl 1 kl) pl 2 1 else x_acu (x_acu ac pl 0 1) pl 1 kl) pl 4 1
  else (if ov = true then x_acu (x_acu (x_acu ac pl 0 1) pl 1 kl) pl 2 1 else x_acu (x_acu ac pl 0 1) pl 1 kl)
theorem x_ac_grow {g ac : Nat → Nat} {pl w x : Nat} (hp : pl ≤ 1) (hw : w < 5) (h : x_ac g ac) : x_ac (s_grow g pl w x) (x_acu ac pl w x) := by
  intro a ha
  unfold s_grow x_acu
  by_cases e : a = pl * 5 + w
  · rw [e, va_up_at, show 7 + (pl * 5 + w) = 7 + 5 * pl + w by omega, va_up_at, h _ (by omega), show 7 + (pl * 5 + w) = 7 + 5 * pl + w by omega]
  · rw [va_up_off e, va_up_off (by omega)]; exact h a ha
theorem x_ac_eq {g h ac : Nat → Nat} (e : ∀ j : Nat, 7 ≤ j → j < 17 → h j = g j) (w : x_ac g ac) : x_ac h ac := fun a ha => by rw [e _ (by omega) (by omega)]; exact w a ha
theorem x_grow_comm {g : Nat → Nat} {pl a b x y : Nat} (h : a ≠ b) : s_grow (s_grow g pl a x) pl b y = s_grow (s_grow g pl b y) pl a x := by
  funext j
  unfold s_grow
  rw [va_up_off (show 7 + 5 * pl + b ≠ 7 + 5 * pl + a by omega), va_up_off (show 7 + 5 * pl + a ≠ 7 + 5 * pl + b by omega)]
  by_cases e1 : j = 7 + 5 * pl + b
  · rw [e1, va_up_at, va_up_off (by omega), va_up_at]
  · rw [va_up_off e1]
    by_cases e2 : j = 7 + 5 * pl + a
    · rw [e2, va_up_at, va_up_at]
    · rw [va_up_off e2, va_up_off e2, va_up_off e1]
theorem x_acc_ag {g : Nat → Nat} {pl a b : Nat} (hp : pl ≤ 1) : s_ag g (s_acc g pl a b) :=
  ⟨s_acc_lo (by omega) hp, s_acc_lo (by omega) hp, s_acc_lo (by omega) hp, fun j h1 _ => s_acc_lo (by omega) hp⟩
theorem x_ag_trans {f g h : Nat → Nat} (a : s_ag f g) (b : s_ag g h) : s_ag f h :=
  ⟨b.1.trans a.1, b.2.1.trans a.2.1, b.2.2.1.trans a.2.2.1, fun j h1 h2 => (b.2.2.2 j h1 h2).trans (a.2.2.2 j h1 h2)⟩
theorem x_play_ac {g ac : Nat → Nat} {p k l : Nat} (hg : s_gwf g) (hp : p < s_np g) (h : x_ac g ac) : x_ac (s_play g p k l) (x_acP ac (g 3) (k + l) (s_over (s_take g p k l)) (s_tot (s_take g p k l)) (decide (s_tot g ≠ 0))) := by
  have h3 := hg.2.2.2.1
  have hT := s_gwf_take (k := k) (l := l) hg hp
  have w2 := s_gwf_grow (x := 1) h3 (show 0 ≤ 4 by omega) hT
  have w3 := s_gwf_grow (x := k + l) h3 (show 1 ≤ 4 by omega) w2
  have w4 := s_gwf_acc (ah := s_tot g) (be := s_tot (s_take g p k l)) h3 w3
  have w5 := s_gwf_ovr h3 w4
  have ho : s_over (s_acc (s_grow (s_grow (s_take g p k l) (g 3) 0 1) (g 3) 1 (k + l)) (g 3) (s_tot g) (s_tot (s_take g p k l))) = s_over (s_take g p k l) :=
    x_over_ag (x_ag_trans (x_ag_trans (s_grow_ag h3 (by omega)) (s_grow_ag h3 (by omega))) (x_acc_ag h3)) hT
  have hT9 : x_ac (s_take g p k l) ac := x_ac_eq (fun j h1 h2 => s_take_at (by omega)) h
  have hK := x_ac_grow (x := k + l) h3 (show 1 < 5 by decide) (x_ac_grow (x := 1) h3 (show 0 < 5 by decide) hT9)
  unfold s_play
  refine x_ac_eq (g := s_ovr (s_acc (s_grow (s_grow (s_take g p k l) (g 3) 0 1) (g 3) 1 (k + l)) (g 3) (s_tot g) (s_tot (s_take g p k l))) (g 3)) (fun j h1 h2 => ?_) ?_
  · have e1 : ∀ f : Nat → Nat, ∀ pl, s_turn f pl j = f j := fun f pl => by unfold s_turn va_up; rw [if_neg (by omega), if_neg (by omega)]
    rw [e1, s_note_lo w5.2.2.2.2.1 (by omega) (by omega)]
  · unfold s_ovr
    rw [ho]
    unfold s_acc x_acP
    by_cases ct : s_tot (s_take g p k l) = 0
    · rw [if_pos ct, if_pos ct]
      cases co : s_over (s_take g p k l) with
      | true =>
        rw [if_pos rfl, if_pos rfl, x_grow_comm (by decide)]
        exact x_ac_grow h3 (by decide) (x_ac_grow h3 (by decide) hK)
      | false =>
        rw [if_neg (by decide), if_neg (by decide)]
        exact x_ac_grow h3 (by decide) hK
    · rw [if_neg ct, if_neg ct]
      by_cases cw : s_tot g = 0
      · rw [if_pos cw, decide_eq_false (by omega), if_neg (show ¬ (false = true) by decide)]
        cases co : s_over (s_take g p k l) with
        | true =>
          rw [if_pos rfl, if_pos rfl]
          exact x_ac_grow h3 (by decide) hK
        | false =>
          rw [if_neg (by decide), if_neg (by decide)]
          exact hK
      · rw [if_neg cw, decide_eq_true cw, if_pos rfl]
        cases co : s_over (s_take g p k l) with
        | true =>
          rw [if_pos rfl, if_pos rfl, x_grow_comm (by decide)]
          exact x_ac_grow h3 (by decide) (x_ac_grow h3 (by decide) hK)
        | false =>
          rw [if_neg (by decide), if_neg (by decide)]
          exact x_ac_grow h3 (by decide) hK
/-- the turns kept -/
def x_tuP (tu : Nat → Nat) (pl p k l t : Nat) : Nat → Nat := fun j => if j < 5 then (if j = 0 then pl else if j = 1 then p else if j = 2 then k else if j = 3 then l else t) else tu (j - 5)
theorem x_note_at {g : Nat → Nat} {p k l t : Nat} (h6 : g 6 ≤ 20) (i c : Nat) (hi : i < s_shift g 6 + 1) (hc : c < 5) : s_note g p k l t (165 + 5 * i + c) = if i = s_shift g 6 then (if c = 0 then g 3 else if c = 1 then p else if c = 2 then k else if c = 3 then l else t) else s_shift g (165 + 5 * i + c) := by
  have h9 := s_shift_6 h6
  unfold s_note
  rw [va_up_off (by omega)]
  by_cases e : i = s_shift g 6
  · rw [if_pos e, e]
    match c, hc with
    | 0, _ => rw [va_up_off (by omega), va_up_off (by omega), va_up_off (by omega), va_up_off (by omega), if_pos rfl]; exact va_up_at
    | 1, _ => rw [va_up_off (by omega), va_up_off (by omega), va_up_off (by omega), va_up_at, if_neg (by decide), if_pos rfl]
    | 2, _ => rw [va_up_off (by omega), va_up_off (by omega), va_up_at, if_neg (by decide), if_neg (by decide), if_pos rfl]
    | 3, _ => rw [va_up_off (by omega), va_up_at, if_neg (by decide), if_neg (by decide), if_neg (by decide), if_pos rfl]
    | 4, _ => rw [va_up_at, if_neg (by decide), if_neg (by decide), if_neg (by decide), if_neg (by decide)]
    | c + 5, h => exact absurd h (by omega)
  · rw [if_neg e, va_up_off (by omega), va_up_off (by omega), va_up_off (by omega), va_up_off (by omega), va_up_off (by omega)]
theorem x_tu_note {g tu : Nat → Nat} {p k l t : Nat} (h6 : g 6 ≤ 20) (h : x_tu g tu) : x_tu (s_note g p k l t) (x_tuP tu (g 3) p k l t) := by
  have h9 := s_shift_6 h6
  have e6 : s_note g p k l t 6 = s_shift g 6 + 1 := va_up_at
  have hm : s_shift g 6 = if g 6 = 20 then 19 else g 6 := by
    unfold s_shift
    split
    · exact if_pos rfl
    · rfl
  intro i hi c hc
  rw [e6] at hi ⊢
  rw [x_note_at h6 i c hi hc]
  unfold x_tuP
  by_cases e : i = s_shift g 6
  · rw [if_pos e, show 5 * (s_shift g 6 + 1 - 1 - i) + c = c by omega, if_pos hc]
  · rw [if_neg e, if_neg (by omega)]
    by_cases c6 : g 6 = 20
    · rw [if_pos c6] at hm
      have h8 := h (i + 1) (by omega) c hc
      rw [show 5 * (s_shift g 6 + 1 - 1 - i) + c - 5 = 5 * (g 6 - 1 - (i + 1)) + c by omega, h8]
      unfold s_shift
      rw [if_pos c6]
      show _ = if 165 + 5 * i + c = 6 then 19 else if 165 ≤ 165 + 5 * i + c ∧ 165 + 5 * i + c < 260 then g (165 + 5 * i + c + 5) else g (165 + 5 * i + c)
      rw [if_neg (by omega), if_pos (by omega)]
      congr 1; omega
    · rw [if_neg c6] at hm
      have h8 := h i (by omega) c hc
      rw [show 5 * (s_shift g 6 + 1 - 1 - i) + c - 5 = 5 * (g 6 - 1 - i) + c by omega, h8]
      unfold s_shift
      rw [if_neg c6]
theorem x_play_hi {g : Nat → Nat} {p k l : Nat} (hg : s_gwf g) (hp : p < s_np g) : s_play g p k l 0 = g 0 ∧ s_play g p k l 1 = g 1 ∧ s_play g p k l 2 = g 2 ∧ s_play g p k l 3 = 1 - g 3 ∧ s_play g p k l 4 = g 4 + 1 ∧ s_play g p k l 5 = g 5 ∧ s_play g p k l 6 = min (g 6 + 1) 20 := by
  have h3 := hg.2.2.2.1
  have h6 := hg.2.2.2.2.1
  have hT := s_gwf_take (k := k) (l := l) hg hp
  have w2 := s_gwf_grow (x := 1) h3 (show 0 ≤ 4 by omega) hT
  have w3 := s_gwf_grow (x := k + l) h3 (show 1 ≤ 4 by omega) w2
  have w4 := s_gwf_acc (ah := s_tot g) (be := s_tot (s_take g p k l)) h3 w3
  have w5 := s_gwf_ovr h3 w4
  have eL : ∀ j : Nat, j < 7 → s_ovr (s_acc (s_grow (s_grow (s_take g p k l) (g 3) 0 1) (g 3) 1 (k + l)) (g 3) (s_tot g) (s_tot (s_take g p k l))) (g 3) j = g j := fun j hj => by
    rw [s_ovr_lo (by omega) h3, s_acc_lo (by omega) h3, s_grow_lo (by omega) h3 (by omega), s_grow_lo (by omega) h3 (by omega), s_take_at (by omega)]
  obtain ⟨q1, q2⟩ := s_play_1 (k := k) (l := l) hg hp
  refine ⟨(s_turn_rules hg hp).1, q1, q2, s_play_3 g p k l, ?_, ?_, ?_⟩
  · unfold s_play s_turn
    rw [va_up_off (by omega), va_up_at, s_note_lo w5.2.2.2.2.1 (by omega) (by omega), eL 4 (by omega)]
  · unfold s_play s_turn
    rw [va_up_off (by omega), va_up_off (by omega), s_note_lo w5.2.2.2.2.1 (by omega) (by omega), eL 5 (by omega)]
  · unfold s_play s_turn
    rw [va_up_off (by omega), va_up_off (by omega)]
    show va_up _ 6 _ 6 = _
    rw [va_up_at]
    unfold s_shift
    rw [eL 6 (by omega)]
    by_cases c6 : g 6 = 20
    · rw [if_pos c6]
      show (if (6 : Nat) = 6 then 19 else _) + 1 = _
      rw [if_pos rfl, c6]; rfl
    · rw [if_neg c6, eL 6 (by omega)]; omega
theorem x_play_tu {g tu : Nat → Nat} {p k l : Nat} (hg : s_gwf g) (hp : p < s_np g) (h : x_tu g tu) : x_tu (s_play g p k l) (x_tuP tu (g 3) p k l (s_tot (s_take g p k l))) := by
  have h3 := hg.2.2.2.1
  have h6 := hg.2.2.2.2.1
  have eL : ∀ j : Nat, j < 7 ∨ 165 ≤ j → s_ovr (s_acc (s_grow (s_grow (s_take g p k l) (g 3) 0 1) (g 3) 1 (k + l)) (g 3) (s_tot g) (s_tot (s_take g p k l))) (g 3) j = g j := fun j hj => by
    rw [s_ovr_lo (by omega) h3, s_acc_lo (by omega) h3, s_grow_lo (by omega) h3 (by omega), s_grow_lo (by omega) h3 (by omega)]
    rcases hj with hj | hj
    · exact s_take_at (by omega)
    · exact s_take_hi hg hp hj
  have hb : x_tu (s_ovr (s_acc (s_grow (s_grow (s_take g p k l) (g 3) 0 1) (g 3) 1 (k + l)) (g 3) (s_tot g) (s_tot (s_take g p k l))) (g 3)) tu := by
    intro i hi c hc
    rw [eL 6 (by omega)] at hi ⊢
    rw [eL _ (by omega)]
    exact h i hi c hc
  have hn := x_tu_note (p := p) (k := k) (l := l) (t := s_tot (s_take g p k l)) (by rw [eL 6 (by omega)]; exact h6) hb
  rw [eL 3 (by omega)] at hn
  unfold s_play
  have e1 : ∀ f : Nat → Nat, ∀ pl j : Nat, j ≠ 3 → j ≠ 4 → s_turn f pl j = f j := fun f pl j a b => by unfold s_turn va_up; rw [if_neg a, if_neg b]
  intro i hi c hc
  rw [e1 _ _ _ (by omega) (by omega)] at hi ⊢
  rw [e1 _ _ _ (by omega) (by omega)]
  exact hn i hi c hc
theorem x_gr_play {g kd fi se tf ts ac tu nm on sl mo nb : Nat → Nat} {bm : Nat → Nat → Nat} {p k l : Nat} (hp : p < s_np g) (h : x_gr g kd fi se tf ts ac tu nm on sl mo nb bm) : x_gr (s_play g p k l) kd (va_up fi (x_pl (g 1) p) (fi (x_pl (g 1) p) - k)) (va_up se (x_pl (g 1) p) (se (x_pl (g 1) p) - l)) tf ts (x_acP ac (g 3) (k + l) (s_over (s_take g p k l)) (s_tot (s_take g p k l)) (decide (s_tot g ≠ 0))) (x_tuP tu (g 3) p k l (s_tot (s_take g p k l))) nm on sl mo nb bm := by
  obtain ⟨hgw, hxp, htp, hrl, hac, htu⟩ := h
  have h1 := hgw.2.1
  have h2 := hgw.2.2.1
  obtain ⟨q1, q2⟩ := s_play_1 (k := k) (l := l) hgw hp
  obtain ⟨kb, ks⟩ := s_take_kd (k := k) (l := l) hgw hp
  refine ⟨s_gwf_play hgw hp, x_p_play hgw hp hxp, ⟨fun q hq => ?_, fun q hq => ?_⟩, ?_, x_play_ac hgw hp hac, x_play_tu hgw hp htu⟩
  · rw [q1] at hq
    rw [s_play_mid hgw hp _ (by omega), s_play_mid hgw hp _ (by omega), (kb q (by omega)).2.1, (kb q (by omega)).2.2]
    exact htp.1 q hq
  · rw [q2] at hq
    rw [s_play_mid hgw hp _ (by omega), (ks q (by omega)).2]
    exact htp.2 q hq
  · exact x_rl_same hgw (s_turn_rules hgw hp).1 (s_turn_rules hgw hp).2 hrl
end
