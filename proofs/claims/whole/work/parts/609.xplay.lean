/-! TURNS THE CLASS LOOKS AHEAD -/
section
theorem x_tz_congr {u w : Nat → Nat} {on sl mo nb : Nat} {bm : Nat → Nat} {n : Nat} {skf slf va sp : Nat → Nat} {gv gs lm vs : Nat} (e : ∀ j : Nat, j < 29 → w j = u j) (hu : s_rwf u) (h : x_tz u on sl mo nb bm n skf slf va sp gv gs lm vs) : x_tz w on sl mo nb bm n skf slf va sp gv gs lm vs := by
  obtain ⟨h1, h2, h3, h4, h5, h6⟩ := h
  obtain ⟨w0, w9, w18, w19, w20, wo, wb⟩ := hu
  have e20 := e 20 (by decide)
  have eA : s_A w = s_A u := funext (s_A_congr (fun j _ hj => e j hj) ⟨by rw [e 9 (by decide)]; exact w9, by rw [e20]; exact w20⟩)
  refine ⟨x_on_congr (fun j _ h2 => e j (by omega)) w9 h1, h2.trans (e 18 (by decide)).symm, h3.trans (e 19 (by decide)).symm, h4.trans e20.symm, fun i hi => ?_, by rw [eA]; exact h6⟩
  rw [e (21 + 2 * i) (by omega), e (21 + 2 * i + 1) (by omega)]; exact h5 i (by omega)
theorem s_play_mid {g : Nat → Nat} {p k l : Nat} (h : s_gwf g) (hp : p < s_np g) (j : Nat) (hj : j ≤ 2 ∨ (17 ≤ j ∧ j < 165)) : s_play g p k l j = s_take g p k l j := by
  have h3 := h.2.2.2.1
  unfold s_play
  have e1 : ∀ f : Nat → Nat, ∀ pl, s_turn f pl j = f j := fun f pl => by unfold s_turn va_up; rw [if_neg (by omega), if_neg (by omega)]
  have w1 := s_gwf_take (k := k) (l := l) h hp
  have w2 := s_gwf_grow (x := 1) h3 (show 0 ≤ 4 by omega) w1
  have w3 := s_gwf_grow (x := k + l) h3 (show 1 ≤ 4 by omega) w2
  have w4 := s_gwf_acc (ah := s_tot g) (be := s_tot (s_take g p k l)) h3 w3
  have w5 := s_gwf_ovr h3 w4
  rw [e1, s_note_lo w5.2.2.2.2.1 (by omega) (by omega)]
  have e2 : ∀ f : Nat → Nat, s_ovr f (g 3) j = f j := fun f => by
    unfold s_ovr
    split
    · exact s_grow_lo (by omega) h3 (by omega)
    · rfl
  have e3 : ∀ f : Nat → Nat, ∀ a b, s_acc f (g 3) a b j = f j := fun f a b => by
    unfold s_acc
    split
    · exact s_grow_lo (by omega) h3 (by omega)
    · split
      · rfl
      · exact s_grow_lo (by omega) h3 (by omega)
  rw [e2, e3, s_grow_lo (by omega) h3 (by omega), s_grow_lo (by omega) h3 (by omega)]
theorem s_play_3 (g : Nat → Nat) (p k l : Nat) : s_play g p k l 3 = 1 - g 3 := by
  unfold s_play s_turn va_up
  rw [if_pos rfl]
/-- the parts told, after a move -/
theorem x_p_take {g kd fi se : Nat → Nat} {p k l : Nat} (hg : s_gwf g) (hp : p < s_np g) (h : x_p g kd fi se) : x_p (s_take g p k l) kd (va_up fi (x_pl (g 1) p) (fi (x_pl (g 1) p) - k)) (va_up se (x_pl (g 1) p) (se (x_pl (g 1) p) - l)) := by
  have h1 := hg.2.1
  have h2 := hg.2.2.1
  unfold s_np at hp
  have e1 : s_take g p k l 1 = g 1 := s_take_at (by omega)
  have e2 : s_take g p k l 2 = g 2 := s_take_at (by omega)
  refine ⟨fun q hq => ?_, fun q hq => ?_⟩
  · rw [e1] at hq
    obtain ⟨b1, b2, b3⟩ := h.1 q hq
    by_cases hb : p < g 1
    · rw [x_pl_b hb]
      have ht : ∀ j : Nat, s_take g p k l j = if j = 133 + 5 * p + 2 then g (133 + 5 * p + 2) - l else if j = 133 + 5 * p + 1 then g (133 + 5 * p + 1) - k else g j := fun j => by
        unfold s_take; rw [if_pos hb]; unfold va_up; rfl
      rw [ht, ht, ht, if_neg (by omega), if_neg (by omega)]
      by_cases hqp : q = p
      · subst hqp
        rw [if_neg (by omega), if_pos rfl, if_pos rfl, va_up_at, va_up_at]
        exact ⟨b1, by rw [b2], by rw [b3]⟩
      · rw [if_neg (by omega), if_neg (by omega), if_neg (by omega), if_neg (by omega), va_up_off hqp, va_up_off hqp]
        exact ⟨b1, b2, b3⟩
    · rw [x_pl_s hb, va_up_off (by omega), va_up_off (by omega)]
      have ht : ∀ j : Nat, j < 153 → s_take g p k l j = g j := fun j hj => by
        unfold s_take; rw [if_neg hb]; unfold va_up; rw [if_neg (by omega)]
      rw [ht _ (by omega), ht _ (by omega), ht _ (by omega)]
      exact ⟨b1, b2, b3⟩
  · rw [e2] at hq
    obtain ⟨b1, b2, b3⟩ := h.2 q hq
    by_cases hb : p < g 1
    · rw [x_pl_b hb, va_up_off (by omega), va_up_off (by omega)]
      have ht : ∀ j : Nat, 153 ≤ j → s_take g p k l j = g j := fun j hj => by
        unfold s_take; rw [if_pos hb]; unfold va_up; rw [if_neg (by omega), if_neg (by omega)]
      rw [ht _ (by omega), ht _ (by omega)]
      exact ⟨b1, b2, b3⟩
    · rw [x_pl_s hb]
      have ht : ∀ j : Nat, s_take g p k l j = if j = 153 + 3 * (p - g 1) + 0 then g (153 + 3 * (p - g 1) + 0) - k else g j := fun j => by
        unfold s_take; rw [if_neg hb]; unfold va_up; rfl
      rw [ht, ht, if_neg (by omega)]
      by_cases hqp : q = p - g 1
      · subst hqp
        rw [if_pos rfl, show 4 + (p - g 1) = 4 + p - g 1 by omega, va_up_at, va_up_at]
        rw [show 4 + (p - g 1) = 4 + p - g 1 by omega] at b1 b2 b3
        exact ⟨b1, by rw [b2], by omega⟩
      · rw [if_neg (by omega), va_up_off (by omega), va_up_off (by omega)]
        exact ⟨b1, b2, b3⟩
theorem x_p_play {g kd fi se : Nat → Nat} {p k l : Nat} (hg : s_gwf g) (hp : p < s_np g) (h : x_p g kd fi se) : x_p (s_play g p k l) kd (va_up fi (x_pl (g 1) p) (fi (x_pl (g 1) p) - k)) (va_up se (x_pl (g 1) p) (se (x_pl (g 1) p) - l)) := by
  obtain ⟨a, b⟩ := x_p_take (k := k) (l := l) hg hp h
  have e : ∀ j : Nat, (j ≤ 2 ∨ (17 ≤ j ∧ j < 165)) → s_play g p k l j = s_take g p k l j := s_play_mid hg hp
  have e1 : s_take g p k l 1 = g 1 := s_take_at (by omega)
  have e2 : s_take g p k l 2 = g 2 := s_take_at (by omega)
  have h1 := hg.2.1
  have h2 := hg.2.2.1
  refine ⟨fun q hq => ?_, fun q hq => ?_⟩
  · rw [e 1 (by omega)] at hq
    rw [e _ (by omega), e _ (by omega), e _ (by omega)]
    exact a q hq
  · rw [e 2 (by omega)] at hq
    rw [e _ (by omega), e _ (by omega)]
    exact b q hq
theorem x_TF_rules {g w : Nat → Nat} {m : Nat} {on sl mo nb n0 gv gs lm vs : Nat → Nat} {bm sk s2 va sp : Nat → Nat → Nat} (hg : s_gwf g) (hm : m ≤ g 1) (e : ∀ j : Nat, 17 ≤ j → j < 133 → w j = g j) (ek : ∀ b : Nat, b < 4 → w (133 + 5 * b + 0) = g (133 + 5 * b + 0)) (h : x_TF g m on sl mo nb n0 gv gs lm vs bm sk s2 va sp) : x_TF w m on sl mo nb n0 gv gs lm vs bm sk s2 va sp := by
  intro b hb
  have h1 := hg.2.1
  have hk := (hg.2.2.2.2.2.2.1 b (by omega)).1
  have h0 := hg.1
  rw [ek b (by omega)]
  exact x_tz_congr (fun j hj => by unfold s_rule; exact e _ (by omega) (by omega)) (hg.2.2.2.2.2.1 _ hk) (h b hb)
theorem x_TF_take {g : Nat → Nat} {m p k l : Nat} {on sl mo nb n0 gv gs lm vs : Nat → Nat} {bm sk s2 va sp : Nat → Nat → Nat} (hg : s_gwf g) (hp : p < s_np g) (hm : m ≤ g 1) (h : x_TF g m on sl mo nb n0 gv gs lm vs bm sk s2 va sp) : x_TF (s_take g p k l) m on sl mo nb n0 gv gs lm vs bm sk s2 va sp :=
  x_TF_rules hg hm (fun j _ hj => s_take_at hj) (fun b hb => ((s_take_kd hg hp).1 b hb).1) h
theorem x_TF_play {g : Nat → Nat} {m p k l : Nat} {on sl mo nb n0 gv gs lm vs : Nat → Nat} {bm sk s2 va sp : Nat → Nat → Nat} (hg : s_gwf g) (hp : p < s_np g) (hm : m ≤ g 1) (h : x_TF g m on sl mo nb n0 gv gs lm vs bm sk s2 va sp) : x_TF (s_play g p k l) m on sl mo nb n0 gv gs lm vs bm sk s2 va sp :=
  x_TF_rules hg hm (s_turn_rules hg hp).2 (fun b hb => by rw [s_play_mid hg hp _ (by omega)]; exact ((s_take_kd hg hp).1 b hb).1) h
theorem s_play_1 {g : Nat → Nat} {p k l : Nat} (hg : s_gwf g) (hp : p < s_np g) : s_play g p k l 1 = g 1 ∧ s_play g p k l 2 = g 2 := by
  rw [s_play_mid hg hp _ (by omega), s_play_mid hg hp _ (by omega)]
  exact ⟨s_take_at (by omega), s_take_at (by omega)⟩
theorem x_it_1 {g : Nat → Nat} (hg : s_gwf g) : ∀ n : Nat, s_it g n 1 = g 1 ∧ s_it g n 2 = g 2
  | 0 => ⟨rfl, rfl⟩
  | n + 1 => by
    have ih := x_it_1 hg n
    unfold s_it
    split
    · next ha =>
      have := s_play_1 (k := s_ak (s_it g n)) (l := s_al2 (s_it g n)) (s_gwf_it hg n) (s_adv_ok ha).1
      rw [this.1, this.2]; exact ih
    · exact ih
theorem x_it_3 {g : Nat → Nat} (hg : s_gwf g) : ∀ n : Nat, (∀ j : Nat, j < n → s_adv (s_it g j) = true) → s_it g n 3 = (g 3 + n) % 2
  | 0, _ => by
    have h3 := hg.2.2.2.1
    show g 3 = _
    omega
  | n + 1, h => by
    have ih := x_it_3 hg n (fun j hj => h j (by omega))
    have h3 := (s_gwf_it hg n).2.2.2.1
    rw [s_it_s (h n (by omega)), s_play_3, ih]
    omega
theorem x_fn_adv {g : Nat → Nat} {m j : Nat} (h : j < s_fn g m) : s_adv (s_it g j) = true := by
  have := s_first_no _ m j h
  simpa using this
theorem x_winner {g : Nat → Nat} (hg : s_gwf g) (m : Nat) : (g 3 + s_fn g m + 1) % 2 = 1 - s_it g (s_fn g m) 3 := by
  rw [x_it_3 hg _ (fun j hj => x_fn_adv hj)]
  omega
theorem x_fn_end {g : Nat → Nat} {i m : Nat} (hi : i ≤ m) (h : ∀ j : Nat, j < i → s_adv (s_it g j) = true) (he : i = m ∨ s_adv (s_it g i) = false) : s_fn g m = i := by
  unfold s_fn
  by_cases hm : i = m
  · subst hm
    exact s_first_none (fun j hj => by rw [h j hj]; rfl)
  · exact s_first_eq (by omega) (by rw [he.resolve_left hm]; rfl) (fun j hj => by rw [h j hj]; rfl)
theorem x_take_b {g : Nat → Nat} {p k l : Nat} (hb : p < g 1) (j : Nat) : s_take g p k l j = if j = 133 + 5 * p + 2 then g (133 + 5 * p + 2) - l else if j = 133 + 5 * p + 1 then g (133 + 5 * p + 1) - k else g j := by
  unfold s_take; rw [if_pos hb]; unfold va_up; rfl
theorem x_take_s {g : Nat → Nat} {p k l : Nat} (hb : ¬ p < g 1) (j : Nat) : s_take g p k l j = if j = 153 + 3 * (p - g 1) + 0 then g (153 + 3 * (p - g 1) + 0) - k else g j := by
  unfold s_take; rw [if_neg hb]; unfold va_up; rfl
theorem x_pv_take {g : Nat → Nat} {p k l q : Nat} (hg : s_gwf g) (hp : p < s_np g) (hq : q < s_np g) : s_pv (s_take g p k l) q 0 0 = if q = p then s_pv g p k l else s_pv g q 0 0 := by
  have h1 := hg.2.1
  have h2 := hg.2.2.1
  have h0 := hg.1
  unfold s_np at hp hq
  have e1 : s_take g p k l 1 = g 1 := s_take_at (by omega)
  unfold s_pv
  rw [e1]
  by_cases hb : q < g 1
  · have hbd := hg.2.2.2.2.2.2.1 q hb
    have hu := hg.2.2.2.2.2.1 _ hbd.1
    have hV : ∀ x : Nat, x < 1681 → s_V (s_rule (s_take g p k l) (g (133 + 5 * q + 0))) x = s_V (s_rule g (g (133 + 5 * q + 0))) x := fun x hx =>
      (s_V_congr (u := s_rule g (g (133 + 5 * q + 0))) (w := s_rule (s_take g p k l) (g (133 + 5 * q + 0))) (fun j _ hj => by unfold s_rule; exact (s_take_at (by omega)).symm) ⟨hu.2.1, hu.2.2.2.2.1⟩ hx).symm
    rw [if_pos hb, if_pos hb]
    by_cases hqp : q = p
    · subst hqp
      rw [if_pos rfl, if_pos hb, x_take_b hb, x_take_b hb, x_take_b hb, if_neg (by omega), if_neg (by omega), if_neg (by omega), if_pos rfl, if_pos rfl, Nat.sub_zero, Nat.sub_zero]
      exact hV _ (by omega)
    · rw [if_neg hqp]
      have e3 : ∀ j : Nat, (j = 133 + 5 * q + 0 ∨ j = 133 + 5 * q + 1 ∨ j = 133 + 5 * q + 2) → s_take g p k l j = g j := fun j hj => by
        by_cases hpb : p < g 1
        · rw [x_take_b hpb, if_neg (by omega), if_neg (by omega)]
        · rw [x_take_s hpb, if_neg (by omega)]
      rw [e3 _ (Or.inl rfl), e3 _ (Or.inr (Or.inl rfl)), e3 _ (Or.inr (Or.inr rfl))]
      exact hV _ (by omega)
  · rw [if_neg hb, if_neg hb]
    by_cases hqp : q = p
    · subst hqp
      rw [if_pos rfl, if_neg hb, x_take_s hb, x_take_s hb, if_pos rfl, if_neg (by omega), Nat.sub_zero]
    · rw [if_neg hqp]
      have e3 : ∀ j : Nat, (j = 153 + 3 * (q - g 1) + 0 ∨ j = 153 + 3 * (q - g 1) + 1) → s_take g p k l j = g j := fun j hj => by
        by_cases hpb : p < g 1
        · rw [x_take_b hpb, if_neg (by omega), if_neg (by omega)]
        · rw [x_take_s hpb, if_neg (by omega)]
      rw [e3 _ (Or.inl rfl), e3 _ (Or.inr rfl)]
theorem x_xor_sw (a b c : Nat) : (a ^^^ b) ^^^ b ^^^ c = a ^^^ c := by rw [Nat.xor_assoc a b b, Nat.xor_self, Nat.xor_zero]
theorem x_xs_take {g : Nat → Nat} {p k l : Nat} (hg : s_gwf g) (hp : p < s_np g) : ∀ n : Nat, n ≤ s_np g → s_xs (s_take g p k l) n = if p < n then (s_xs g n ^^^ s_pv g p 0 0) ^^^ s_pv g p k l else s_xs g n
  | 0, _ => by rw [if_neg (Nat.not_lt_zero p)]; rfl
  | n + 1, hn => by
    have ih := x_xs_take (k := k) (l := l) hg hp n (by omega)
    show s_xs (s_take g p k l) n ^^^ s_pv (s_take g p k l) n 0 0 = _
    rw [ih, x_pv_take hg hp (show n < s_np g by omega)]
    show _ = if p < n + 1 then ((s_xs g n ^^^ s_pv g n 0 0) ^^^ s_pv g p 0 0) ^^^ s_pv g p k l else s_xs g n ^^^ s_pv g n 0 0
    by_cases h1 : n = p
    · subst h1
      rw [if_neg (Nat.lt_irrefl n), if_pos rfl, if_pos (by omega), Nat.xor_assoc (s_xs g n) (s_pv g n 0 0) (s_pv g n 0 0), Nat.xor_self, Nat.xor_zero]
    · rw [if_neg h1]
      by_cases h2 : p < n
      · rw [if_pos h2, if_pos (by omega)]
        rw [Nat.xor_assoc, Nat.xor_assoc, Nat.xor_assoc, Nat.xor_assoc]
        congr 1
        rw [← Nat.xor_assoc, ← Nat.xor_assoc, Nat.xor_comm (s_pv g p 0 0 ^^^ s_pv g p k l) (s_pv g n 0 0), ← Nat.xor_assoc]
      · rw [if_neg h2, if_neg (by omega)]
theorem x_tot_take {g : Nat → Nat} {p k l : Nat} (hg : s_gwf g) (hp : p < s_np g) : s_tot (s_take g p k l) = ((s_tot g) ^^^ (s_pv g p 0 0)) ^^^ (s_pv g p k l) := by
  have e1 : s_take g p k l 1 = g 1 := s_take_at (by omega)
  have e2 : s_take g p k l 2 = g 2 := s_take_at (by omega)
  unfold s_tot
  rw [show s_np (s_take g p k l) = s_np g by unfold s_np; rw [e1, e2], x_xs_take hg hp _ (Nat.le_refl _), if_pos hp]
end
