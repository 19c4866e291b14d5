/-! THE CLASS'S TABLES BY RULES, and what they tell of parts -/
section
def x_pt {α : Type} (f : Nat → α) (i : Nat) (v : α) : Nat → α := fun j => if j = i then v else f j
theorem x_pt_at {α : Type} {f : Nat → α} {i : Nat} {v : α} : x_pt f i v i = v := if_pos rfl
theorem x_pt_ne {α : Type} {f : Nat → α} {i j : Nat} {v : α} (h : j ≠ i) : x_pt f i v j = f j := if_neg h
/-- every table, if it is fitted at all, is fitted to a rule -/
def x_TI (fl on sl mo nb n0 gv gs lm vs : Nat → Nat) (bm sk s2 va sp : Nat → Nat → Nat) : Prop := ∀ r : Nat, r < 4 → fl r ≤ 1 ∧ (∀ q : Nat, q < 1681 → sp r q < 1681) ∧ (fl r = 1 → ∃ u : Nat → Nat, x_w u ∧ x_tz u (on r) (sl r) (mo r) (nb r) (bm r) (n0 r) (sk r) (s2 r) (va r) (sp r) (gv r) (gs r) (lm r) (vs r))
/-- the tables of the first boards' rules are those of the game -/
def x_TF (g : Nat → Nat) (m : Nat) (on sl mo nb n0 gv gs lm vs : Nat → Nat) (bm sk s2 va sp : Nat → Nat → Nat) : Prop := ∀ b : Nat, b < m → x_tz (s_rule g (g (133 + 5 * b + 0))) (on (g (133 + 5 * b + 0))) (sl (g (133 + 5 * b + 0))) (mo (g (133 + 5 * b + 0))) (nb (g (133 + 5 * b + 0))) (bm (g (133 + 5 * b + 0))) (n0 (g (133 + 5 * b + 0))) (sk (g (133 + 5 * b + 0))) (s2 (g (133 + 5 * b + 0))) (va (g (133 + 5 * b + 0))) (sp (g (133 + 5 * b + 0))) (gv (g (133 + 5 * b + 0))) (gs (g (133 + 5 * b + 0))) (lm (g (133 + 5 * b + 0))) (vs (g (133 + 5 * b + 0)))
section
variable {fl on sl mo nb n0 gv gs lm vs : Nat → Nat} {bm sk s2 va sp : Nat → Nat → Nat} {g : Nat → Nat} {m r : Nat}
theorem x_TI_set (h : x_TI fl on sl mo nb n0 gv gs lm vs bm sk s2 va sp) {u : Nat → Nat} (hw : x_w u) {on3 sl3 mo3 nb3 n3 gv3 gs3 lm3 vs3 : Nat} {bm3 kf lf va3 sp3 : Nat → Nat} (ht : x_tz u on3 sl3 mo3 nb3 bm3 n3 kf lf va3 sp3 gv3 gs3 lm3 vs3) (hsb : ∀ j : Nat, j < 1681 → sp3 j < 1681) :
    x_TI (x_pt fl r 1) (x_pt on r on3) (x_pt sl r sl3) (x_pt mo r mo3) (x_pt nb r nb3) (x_pt n0 r n3) (x_pt gv r gv3) (x_pt gs r gs3) (x_pt lm r lm3) (x_pt vs r vs3) (x_pt bm r bm3) (x_pt sk r kf) (x_pt s2 r lf) (x_pt va r va3) (x_pt sp r sp3) := by
  intro q hq
  by_cases e : q = r
  · subst e
    simp only [x_pt_at]
    exact ⟨Nat.le_refl _, hsb, fun _ => ⟨u, hw, ht⟩⟩
  · simp only [x_pt_ne e]
    exact h q hq
theorem x_TF_set (h : x_TF g m on sl mo nb n0 gv gs lm vs bm sk s2 va sp) {on3 sl3 mo3 nb3 n3 gv3 gs3 lm3 vs3 : Nat} {bm3 kf lf va3 sp3 : Nat → Nat} (ht : x_tz (s_rule g r) on3 sl3 mo3 nb3 bm3 n3 kf lf va3 sp3 gv3 gs3 lm3 vs3) :
    x_TF g m (x_pt on r on3) (x_pt sl r sl3) (x_pt mo r mo3) (x_pt nb r nb3) (x_pt n0 r n3) (x_pt gv r gv3) (x_pt gs r gs3) (x_pt lm r lm3) (x_pt vs r vs3) (x_pt bm r bm3) (x_pt sk r kf) (x_pt s2 r lf) (x_pt va r va3) (x_pt sp r sp3) := by
  intro b hb
  by_cases e : g (133 + 5 * b + 0) = r
  · simp only [e, x_pt_at]
    exact ht
  · simp only [x_pt_ne e]
    exact h b hb
theorem x_TF_s (h : x_TF g m on sl mo nb n0 gv gs lm vs bm sk s2 va sp) (ht : x_tz (s_rule g (g (133 + 5 * m + 0))) (on (g (133 + 5 * m + 0))) (sl (g (133 + 5 * m + 0))) (mo (g (133 + 5 * m + 0))) (nb (g (133 + 5 * m + 0))) (bm (g (133 + 5 * m + 0))) (n0 (g (133 + 5 * m + 0))) (sk (g (133 + 5 * m + 0))) (s2 (g (133 + 5 * m + 0))) (va (g (133 + 5 * m + 0))) (sp (g (133 + 5 * m + 0))) (gv (g (133 + 5 * m + 0))) (gs (g (133 + 5 * m + 0))) (lm (g (133 + 5 * m + 0))) (vs (g (133 + 5 * m + 0)))) : x_TF g (m + 1) on sl mo nb n0 gv gs lm vs bm sk s2 va sp := by
  intro b hb
  by_cases e : b = m
  · subst e; exact ht
  · exact h b (by omega)
theorem x_TF_0 : x_TF g 0 on sl mo nb n0 gv gs lm vs bm sk s2 va sp := fun b hb => absurd hb (Nat.not_lt_zero b)
/-- what a fitted table holds -/
theorem x_TF_v (h : x_TF g m on sl mo nb n0 gv gs lm vs bm sk s2 va sp) {b : Nat} (hb : b < m) {p : Nat} (hp : p < 1681) : va (g (133 + 5 * b + 0)) p = s_V (s_rule g (g (133 + 5 * b + 0))) p := ((h b hb).2.2.2.2.2.2.2.1 p hp).1
theorem x_TF_n (h : x_TF g m on sl mo nb n0 gv gs lm vs bm sk s2 va sp) {b : Nat} (hb : b < m) : n0 (g (133 + 5 * b + 0)) = s_cnt (s_A (s_rule g (g (133 + 5 * b + 0)))) 1681 ∧ x_st (s_A (s_rule g (g (133 + 5 * b + 0)))) (sk (g (133 + 5 * b + 0))) (s2 (g (133 + 5 * b + 0))) 1681 := ⟨(h b hb).2.2.2.2.2.1, (h b hb).2.2.2.2.2.2.1⟩
end
/-- a move of a part to a value, or any move: t is one more than the value, 0 for any -/
def x_okt (g : Nat → Nat) (p t k l : Nat) : Bool := (s_ref g p k l == 0) && (decide (t = 0) || (s_pv g p k l + 1 == t))
theorem x_okt_0 (g : Nat → Nat) (p : Nat) : x_okt g p 0 = s_ok g p false := by
  funext k l; unfold x_okt s_ok; simp
theorem x_okt_w (g : Nat → Nat) (p : Nat) : x_okt g p ((s_tot g ^^^ s_pv g p 0 0) + 1) = s_ok g p true := by
  funext k l
  unfold x_okt s_ok
  congr 1
  rw [decide_eq_false (Nat.succ_ne_zero _), Bool.false_or, Bool.not_true, Bool.false_or]
  exact s_bool_ext (by simp only [beq_iff_eq]; omega)
theorem s_cnt_0 {P : Nat → Bool} {n : Nat} (h : ∀ j : Nat, j < n → P j = false) : s_cnt P n = 0 := by
  induction n with
  | zero => rfl
  | succ n ih => rw [s_cnt_f (h n (by omega))]; exact ih (fun j hj => h j (by omega))
theorem s_cnt_add (P : Nat → Bool) (a : Nat) : ∀ b : Nat, s_cnt P (a + b) = s_cnt P a + s_cnt (fun l => P (a + l)) b
  | 0 => rfl
  | b + 1 => by
    show s_cnt P (a + b) + (if P (a + b) = true then 1 else 0) = s_cnt P a + (s_cnt (fun l => P (a + l)) b + (if P (a + b) = true then 1 else 0))
    rw [s_cnt_add P a b]; omega
theorem x_cnt_rows (P : Nat → Bool) : ∀ K : Nat, s_cnt P (41 * K) = s_cc (fun k l => P (41 * k + l)) K 41
  | 0 => rfl
  | K + 1 => by rw [show 41 * (K + 1) = 41 * K + 41 by omega, s_cnt_add, x_cnt_rows P K]; rfl
theorem s_cc_congr {P Q : Nat → Nat → Bool} {L : Nat} : ∀ {K : Nat}, (∀ k, k < K → ∀ l, l < L → P k l = Q k l) → s_cc P K L = s_cc Q K L
  | 0, _ => rfl
  | K + 1, h => by rw [s_cc_s, s_cc_s, s_cc_congr (fun k hk => h k (by omega)), s_cnt_congr (fun l hl => h K (by omega) l hl)]
theorem s_cc_rows {P : Nat → Nat → Bool} {L K : Nat} : ∀ {M : Nat}, K ≤ M → (∀ k, K ≤ k → k < M → ∀ l, l < L → P k l = false) → s_cc P M L = s_cc P K L
  | 0, h, _ => by rw [show K = 0 by omega]
  | M + 1, h, hz => by
    by_cases e : K = M + 1
    · rw [e]
    · rw [s_cc_s, s_cnt_0 (fun l hl => hz M (by omega) (by omega) l hl), Nat.add_zero]
      exact s_cc_rows (by omega) (fun k h1 h2 => hz k h1 (by omega))
theorem s_cc_cols {P : Nat → Nat → Bool} {L M : Nat} (hL : L ≤ M) : ∀ {K : Nat}, (∀ k, k < K → ∀ l, L ≤ l → l < M → P k l = false) → s_cc P K M = s_cc P K L
  | 0, _ => rfl
  | K + 1, h => by
    rw [s_cc_s, s_cc_s, s_cc_cols hL (fun k hk => h k (by omega)), x_cnt_skip (P := P K) M hL (fun q h1 h2 => h K (by omega) q h1 h2)]
/-- a board's move, as the table tells it -/
theorem x_lt_okt {g : Nat → Nat} {va : Nat → Nat} {p t k l : Nat} (hg : s_gwf g) (hp : p < s_np g) (hb : p < g 1) (hva : ∀ j : Nat, j < 1681 → va j = s_V (s_rule g (s_kind g p)) j) (hl : l ≤ 40) (hk : k ≤ 40) :
    x_lt (s_A (s_rule g (s_kind g p))) va (s_x g p * 41 + s_y g p) t (41 * k + l) = (decide (k ≤ s_x g p ∧ l ≤ s_y g p) && x_okt g p t k l) := by
  obtain ⟨hx, hy, -, h4, -⟩ := s_part hg hp
  obtain ⟨hx4, hkd⟩ := h4 hb
  have e1 : s_x g p * 41 + s_y g p = 41 * s_x g p + s_y g p := by omega
  unfold x_lt
  rw [e1, s_mv_kl hy hl]
  by_cases hin : k ≤ s_x g p ∧ l ≤ s_y g p
  · rw [decide_eq_true hin, Bool.true_and, Bool.true_and]
    have eA : s_A (s_rule g (s_kind g p)) (41 * k + l) = (s_ref g p k l == 0) := by
      have e2 : (41 * k + l) / 41 = k := by omega
      have e3 : (41 * k + l) % 41 = l := by omega
      unfold s_A s_al
      rw [e2, e3]
      by_cases h0 : k = 0 ∧ l = 0
      · rw [s_ref_1 h0, decide_eq_false (by omega)]; rfl
      · rw [x_ref_b h0 (by omega) hb]
        exact s_bool_ext (by simp only [decide_eq_true_eq, beq_iff_eq]; omega)
    have eV : va (41 * s_x g p + s_y g p - (41 * k + l)) = s_pv g p k l := by
      rw [hva _ (by omega)]
      unfold s_pv
      rw [if_pos hb, ← s_kind_b hb]
      have hx' : s_x g p = g (133 + 5 * p + 1) := by unfold s_x; rw [if_pos hb]
      have hy' : s_y g p = g (133 + 5 * p + 2) := by unfold s_y; rw [if_pos hb]
      rw [← hx', ← hy']
      congr 1; omega
    unfold x_okt
    rw [eA, eV]
  · rw [decide_eq_false hin, Bool.false_and, Bool.false_and, Bool.false_and]
theorem x_okt_in {g : Nat → Nat} {p t k l : Nat} (h : x_okt g p t k l = true) : k ≤ s_x g p ∧ l ≤ s_y g p ∧ s_ref g p k l = 0 := by
  unfold x_okt at h
  rw [Bool.and_eq_true, beq_iff_eq] at h
  have h1 := h.1
  unfold s_ref at h1
  split at h1
  · cases h1
  · split at h1
    · cases h1
    · exact ⟨by omega, by omega, h.1⟩
/-- a board's moves counted -/
theorem x_moves_b {g : Nat → Nat} {va : Nat → Nat} {p t : Nat} (hg : s_gwf g) (hp : p < s_np g) (hb : p < g 1) (hva : ∀ j : Nat, j < 1681 → va j = s_V (s_rule g (s_kind g p)) j) :
    s_cnt (x_lt (s_A (s_rule g (s_kind g p))) va (s_x g p * 41 + s_y g p) t) 1681 = s_cc (x_okt g p t) (s_x g p + 1) (s_y g p + 1) := by
  obtain ⟨hx, hy, -, h4, -⟩ := s_part hg hp
  obtain ⟨hx4, hkd⟩ := h4 hb
  rw [show 1681 = 41 * 41 from rfl, x_cnt_rows, s_cc_congr (Q := fun k l => decide (k ≤ s_x g p ∧ l ≤ s_y g p) && x_okt g p t k l) (fun k hk l hl => x_lt_okt hg hp hb hva (by omega) (by omega))]
  rw [s_cc_rows (K := s_x g p + 1) (by omega) (fun k h1 h2 l hl => by rw [decide_eq_false (by omega), Bool.false_and]), s_cc_cols (L := s_y g p + 1) (by omega) (fun k hk l h1 h2 => by rw [decide_eq_false (by omega), Bool.false_and])]
  exact s_cc_congr (fun k hk l hl => by rw [decide_eq_true ⟨by omega, by omega⟩, Bool.true_and])
/-- a stick's move -/
theorem x_okt_s {g : Nat → Nat} {p t k : Nat} (hb : ¬ p < g 1) (hk : k ≤ s_x g p) : x_okt g p t k 0 = (decide (1 ≤ k ∧ k ≤ s_kind g p) && (decide (t = 0) || ((s_x g p - k) % (s_kind g p + 1) + 1 == t))) := by
  have hx' : s_x g p = g (153 + 3 * (p - g 1) + 0) := by unfold s_x; rw [if_neg hb]
  unfold x_okt
  congr 1
  · by_cases h0 : k = 0
    · rw [s_ref_1 ⟨h0, rfl⟩, decide_eq_false (by omega)]; rfl
    · rw [x_ref_s (by omega) (by omega) hb]
      by_cases h1 : s_kind g p < k
      · rw [if_pos h1, decide_eq_false (by omega)]; rfl
      · rw [if_neg h1, decide_eq_true ⟨by omega, by omega⟩]; rfl
  · unfold s_pv
    rw [if_neg hb, ← s_kind_s hb, hx']
theorem s_y_s {g : Nat → Nat} {p : Nat} (hb : ¬ p < g 1) : s_y g p = 0 := by unfold s_y; rw [if_neg hb]
/-- a stick's moves counted, from 1 on -/
theorem x_moves_s {g : Nat → Nat} {p t q : Nat} (hb : ¬ p < g 1) (hq : 1 ≤ q) (hz : q ≤ s_x g p + 1) (hend : s_kind g p < q ∨ s_x g p < q) :
    s_cc (x_okt g p t) (s_x g p + 1) (s_y g p + 1) = s_cnt (fun k => x_okt g p t k 0) q := by
  rw [s_y_s hb]
  have e : ∀ K : Nat, s_cc (x_okt g p t) K 1 = s_cnt (fun k => x_okt g p t k 0) K := by
    intro K
    induction K with
    | zero => rfl
    | succ K ih =>
      rw [s_cc_s, ih]
      show _ = s_cnt (fun k => x_okt g p t k 0) K + (if x_okt g p t K 0 = true then 1 else 0)
      show _ + (0 + (if x_okt g p t K 0 = true then 1 else 0)) = _
      omega
  rw [e, x_cnt_skip (m := q) _ hz (fun k h1 h2 => by rw [x_okt_s hb (by omega), decide_eq_false (by omega), Bool.false_and])]
end
section
def x_hm (g : Nat → Nat) (p t : Nat) : Bool := s_any (fun k => s_any (x_okt g p t k) (s_y g p + 1)) (s_x g p + 1)
def x_hk (g : Nat → Nat) (p t : Nat) : Nat := s_fk (x_okt g p t) (s_x g p + 1) (s_y g p + 1)
def x_hl (g : Nat → Nat) (p t : Nat) : Nat := s_fl (x_okt g p t) (s_x g p + 1) (s_y g p + 1)
theorem x_hm_0 (g : Nat → Nat) (p : Nat) : x_hm g p 0 = s_has g false p ∧ x_hk g p 0 = s_k1 g false p ∧ x_hl g p 0 = s_l1 g false p := by
  unfold x_hm x_hk x_hl
  rw [x_okt_0]
  exact ⟨rfl, rfl, rfl⟩
theorem x_hm_w (g : Nat → Nat) (p : Nat) : x_hm g p ((s_tot g ^^^ s_pv g p 0 0) + 1) = s_has g true p ∧ x_hk g p ((s_tot g ^^^ s_pv g p 0 0) + 1) = s_k1 g true p ∧ x_hl g p ((s_tot g ^^^ s_pv g p 0 0) + 1) = s_l1 g true p := by
  unfold x_hm x_hk x_hl
  rw [x_okt_w]
  exact ⟨rfl, rfl, rfl⟩
theorem x_find_b {g : Nat → Nat} {va : Nat → Nat} {p t j : Nat} (hg : s_gwf g) (hp : p < s_np g) (hb : p < g 1) (hva : ∀ j : Nat, j < 1681 → va j = s_V (s_rule g (s_kind g p)) j) (hj : j < 1681) (hy : x_lt (s_A (s_rule g (s_kind g p))) va (s_x g p * 41 + s_y g p) t j = true) (hf : ∀ q : Nat, q < j → x_lt (s_A (s_rule g (s_kind g p))) va (s_x g p * 41 + s_y g p) t q = false) :
    x_hm g p t = true ∧ x_hk g p t = j / 41 ∧ x_hl g p t = j % 41 := by
  obtain ⟨hx, hy40, -, h4, -⟩ := s_part hg hp
  obtain ⟨hx4, hkd⟩ := h4 hb
  have ej : j = 41 * (j / 41) + j % 41 := by omega
  rw [ej, x_lt_okt hg hp hb hva (by omega) (by omega), Bool.and_eq_true, decide_eq_true_eq] at hy
  obtain ⟨⟨h1, h2⟩, h3⟩ := hy
  have hn : ∀ k l : Nat, 41 * k + l < j → k ≤ s_x g p → l ≤ s_y g p → x_okt g p t k l = false := fun k l q1 q2 q3 => by
    have := hf _ q1
    rw [x_lt_okt hg hp hb hva (by omega) (by omega), decide_eq_true ⟨q2, q3⟩, Bool.true_and] at this
    exact this
  refine ⟨s_any_t (show j / 41 < s_x g p + 1 by omega) (s_any_t (show j % 41 < s_y g p + 1 by omega) h3), ?_⟩
  exact s_fk_eq (show j / 41 < s_x g p + 1 by omega) (show j % 41 < s_y g p + 1 by omega) h3 (fun k' hk' => s_any_f (fun l' hl' => hn _ _ (by omega) (by omega) (by omega))) (fun l' hl' => hn _ _ (by omega) (by omega) (by omega))
theorem x_find_0 {g : Nat → Nat} {va : Nat → Nat} {p t : Nat} (hg : s_gwf g) (hp : p < s_np g) (hb : p < g 1) (hva : ∀ j : Nat, j < 1681 → va j = s_V (s_rule g (s_kind g p)) j) (hf : ∀ q : Nat, q < 1681 → x_lt (s_A (s_rule g (s_kind g p))) va (s_x g p * 41 + s_y g p) t q = false) : x_hm g p t = false := by
  obtain ⟨hx, hy40, -, h4, -⟩ := s_part hg hp
  obtain ⟨hx4, hkd⟩ := h4 hb
  refine s_any_f (fun k hk => s_any_f (fun l hl => ?_))
  have := hf (41 * k + l) (by omega)
  rw [x_lt_okt hg hp hb hva (by omega) (by omega), decide_eq_true ⟨by omega, by omega⟩, Bool.true_and] at this
  exact this
theorem x_find_s1 {g : Nat → Nat} {p t k : Nat} (hb : ¬ p < g 1) (hk : k ≤ s_x g p) (hok : x_okt g p t k 0 = true) (hno : ∀ q : Nat, q < k → x_okt g p t q 0 = false) : x_hm g p t = true ∧ x_hk g p t = k ∧ x_hl g p t = 0 := by
  have ey := s_y_s hb
  refine ⟨s_any_t (show k < s_x g p + 1 by omega) (s_any_t (show 0 < s_y g p + 1 by omega) hok), ?_⟩
  refine s_fk_eq (show k < s_x g p + 1 by omega) (show 0 < s_y g p + 1 by omega) hok (fun k' hk' => s_any_f (fun l' hl' => ?_)) (fun l' hl' => absurd hl' (Nat.not_lt_zero l'))
  rw [show l' = 0 by omega]; exact hno k' hk'
theorem x_find_s0 {g : Nat → Nat} {p t m : Nat} (hb : ¬ p < g 1) (h1 : 1 ≤ m) (hend : s_kind g p < m ∨ s_x g p < m) (hno : ∀ q : Nat, q < m → x_okt g p t q 0 = false) : x_hm g p t = false := by
  have ey := s_y_s hb
  refine s_any_f (fun k hk => s_any_f (fun l hl => ?_))
  rw [show l = 0 by omega]
  by_cases e : k < m
  · exact hno k e
  · rw [x_okt_s hb (by omega), decide_eq_false (by omega), Bool.false_and]
theorem x_pv_b {g : Nat → Nat} {va : Nat → Nat} {p : Nat} (hg : s_gwf g) (hp : p < s_np g) (hb : p < g 1) (hva : ∀ j : Nat, j < 1681 → va j = s_V (s_rule g (s_kind g p)) j) : va (s_x g p * 41 + s_y g p) = s_pv g p 0 0 := by
  obtain ⟨hx, hy40, -, h4, -⟩ := s_part hg hp
  obtain ⟨hx4, hkd⟩ := h4 hb
  rw [hva _ (by omega)]
  unfold s_pv
  have hx' : s_x g p = g (133 + 5 * p + 1) := by unfold s_x; rw [if_pos hb]
  have hy' : s_y g p = g (133 + 5 * p + 2) := by unfold s_y; rw [if_pos hb]
  rw [if_pos hb, ← s_kind_b hb, ← hx', ← hy']
  congr 1; omega
theorem x_pv_s {g : Nat → Nat} {p : Nat} (hb : ¬ p < g 1) : s_x g p % (s_kind g p + 1) = s_pv g p 0 0 := by
  unfold s_pv s_x
  rw [if_neg hb, if_neg hb, ← s_kind_s hb]
  rfl
/-! with a total that isn't 0 there is a winning move -/
theorem x_xs_bit {g : Nat → Nat} {i : Nat} : ∀ n : Nat, (s_xs g n).testBit i = true → ∃ p : Nat, p < n ∧ (s_pv g p 0 0).testBit i = true
  | 0, h => by
    have e : s_xs g 0 = 0 := rfl
    rw [e, Nat.zero_testBit] at h
    cases h
  | n + 1, h => by
    have e : s_xs g (n + 1) = s_xs g n ^^^ s_pv g n 0 0 := rfl
    rw [e, Nat.testBit_xor] at h
    cases e1 : (s_pv g n 0 0).testBit i with
    | true => exact ⟨n, by omega, e1⟩
    | false =>
      rw [e1, Bool.xor_false] at h
      obtain ⟨p, h1, h2⟩ := x_xs_bit n h
      exact ⟨p, by omega, h2⟩
theorem x_top_bit {t : Nat} (h : t ≠ 0) : ∃ i : Nat, t.testBit i = true ∧ ∀ j : Nat, i < j → t.testBit j = false := by
  refine ⟨t.log2, Nat.testBit_log2 h, fun j hj => ?_⟩
  exact Nat.testBit_lt_two_pow (Nat.lt_of_lt_of_le Nat.lt_log2_self (Nat.pow_le_pow_right (by decide) hj))
theorem x_lt_bit {n m : Nat} (i : Nat) (hn : n.testBit i = false) (hm : m.testBit i = true) (h : ∀ j : Nat, i < j → n.testBit j = m.testBit j) : n < m := by
  have e : n / 2 ^ (i + 1) = m / 2 ^ (i + 1) := Nat.eq_of_testBit_eq (fun j => by rw [Nat.testBit_div_two_pow, Nat.testBit_div_two_pow]; exact h _ (by omega))
  have h1 : n % 2 ^ (i + 1) < 2 ^ i := Nat.lt_pow_two_of_testBit _ (fun j hj => by
    rw [Nat.testBit_mod_two_pow]
    by_cases c : j = i
    · rw [c, hn, Bool.and_false]
    · rw [decide_eq_false (by omega), Bool.false_and])
  have h2 : m % 2 ^ (i + 1) ≥ 2 ^ i := Nat.ge_two_pow_of_testBit (by rw [Nat.testBit_mod_two_pow, hm, decide_eq_true (by omega)]; rfl)
  have h3 := Nat.div_add_mod n (2 ^ (i + 1))
  have h4 := Nat.div_add_mod m (2 ^ (i + 1))
  rw [e] at h3
  omega
theorem x_win_part {g : Nat → Nat} (h : s_tot g ≠ 0) : ∃ p : Nat, p < s_np g ∧ s_tot g ^^^ s_pv g p 0 0 < s_pv g p 0 0 := by
  obtain ⟨i, h1, h2⟩ := x_top_bit h
  obtain ⟨p, hp, hb⟩ := x_xs_bit (s_np g) h1
  refine ⟨p, hp, x_lt_bit i (by rw [Nat.testBit_xor, h1, hb]; rfl) hb (fun j hj => by rw [Nat.testBit_xor, h2 j hj, Bool.false_xor])⟩
theorem x_win {g : Nat → Nat} (hg : s_gwf g) (h : s_tot g ≠ 0) : s_hasAny g true = true := by
  obtain ⟨p, hp, hlt⟩ := x_win_part h
  refine s_any_t hp ?_
  obtain ⟨hx, hy40, -, h4, h5⟩ := s_part hg hp
  by_cases hb : p < g 1
  · obtain ⟨hx4, hkd⟩ := h4 hb
    have epv : s_pv g p 0 0 = s_V (s_rule g (s_kind g p)) (s_x g p * 41 + s_y g p) := (x_pv_b (va := s_V (s_rule g (s_kind g p))) hg hp hb (fun _ _ => rfl)).symm
    have hlt2 := hlt
    rw [epv] at hlt2
    have hpq : s_x g p * 41 + s_y g p < 1681 := by omega
    obtain ⟨q, hq1, hq2, hq3, hq4⟩ := s_val_reach (s_A0 (s_rule g (s_kind g p))) hpq (show s_tot g ^^^ s_pv g p 0 0 < s_val (s_A (s_rule g (s_kind g p))) (s_x g p * 41 + s_y g p) by rw [epv]; exact hlt2)
    have hlt3 : x_lt (s_A (s_rule g (s_kind g p))) (s_V (s_rule g (s_kind g p))) (s_x g p * 41 + s_y g p) ((s_tot g ^^^ s_pv g p 0 0) + 1) (41 * (q / 41) + q % 41) = true := by
      rw [show 41 * (q / 41) + q % 41 = q by omega, x_lt_mv hq1]
      show (_ || (s_val (s_A (s_rule g (s_kind g p))) (s_x g p * 41 + s_y g p - q) + 1 == _)) = true
      rw [hq4, beq_self_eq_true, Bool.or_true]
    rw [x_lt_okt hg hp hb (fun _ _ => rfl) (by omega) (by omega), x_okt_w, Bool.and_eq_true, decide_eq_true_eq] at hlt3
    exact s_any_t (show q / 41 < s_x g p + 1 by omega) (s_any_t (show q % 41 < s_y g p + 1 by omega) hlt3.2)
  · obtain ⟨hy0, hk1⟩ := h5 hb
    have epv := x_pv_s hb
    have hl2 : s_pv g p 0 0 < s_kind g p + 1 := by rw [← epv]; exact Nat.mod_lt _ (Nat.succ_pos _)
    have hl3 : s_pv g p 0 0 ≤ s_x g p := by rw [← epv]; exact Nat.mod_le _ _
    have hw := x_okt_w g p
    generalize hv : s_tot g ^^^ s_pv g p 0 0 = v at hlt hw
    have hm : (s_x g p - (s_pv g p 0 0 - v)) % (s_kind g p + 1) = v := by
      have hd := Nat.div_add_mod (s_x g p) (s_kind g p + 1)
      rw [epv] at hd
      have e : s_x g p - (s_pv g p 0 0 - v) = v + (s_kind g p + 1) * (s_x g p / (s_kind g p + 1)) := by omega
      rw [e, Nat.add_mul_mod_self_left]
      exact Nat.mod_eq_of_lt (by omega)
    have hok : x_okt g p (v + 1) (s_pv g p 0 0 - v) 0 = true := by
      rw [x_okt_s hb (by omega), decide_eq_true ⟨by omega, by omega⟩, hm, beq_self_eq_true, Bool.or_true]; rfl
    rw [hw] at hok
    exact s_any_t (show s_pv g p 0 0 - v < s_x g p + 1 by omega) (s_any_t (show 0 < s_y g p + 1 by omega) hok)
theorem x_aw {g : Nat → Nat} (hg : s_gwf g) : s_aw g = decide (s_tot g ≠ 0) := by
  unfold s_aw
  by_cases h : s_tot g ≠ 0
  · rw [x_win hg h, Bool.and_true]
  · rw [decide_eq_false h, Bool.false_and]
end
section
/-- the look for advice: parts before p have no move; or it was found -/
def x_ad (g : Nat → Nat) (w : Bool) (p it : Nat) (a b c : Int32) : Prop := (it = 0 ∧ ∀ q : Nat, q < p → s_has g w q = false) ∨ (it = 1 ∧ s_hasAny g w = true ∧ a = nI (s_p1 g w) ∧ b = nI (s_k1 g w (s_p1 g w)) ∧ c = nI (s_l1 g w (s_p1 g w)))
theorem x_ad_0 (g : Nat → Nat) (w : Bool) (a b c : Int32) : x_ad g w 0 0 a b c := Or.inl ⟨rfl, fun q h => absurd h (Nat.not_lt_zero q)⟩
theorem x_ad_f {g : Nat → Nat} {w : Bool} {p it : Nat} {a b c a2 b2 c2 : Int32} (h : x_ad g w p it a b c) (h0 : it = 0) (hn : s_has g w p = false) : x_ad g w (p + 1) 0 a2 b2 c2 := by
  rcases h with ⟨-, h⟩ | ⟨h1, -⟩
  · exact Or.inl ⟨rfl, lt_s h hn⟩
  · omega
theorem x_ad_t {g : Nat → Nat} {w : Bool} {p it : Nat} {a b c a2 b2 c2 : Int32} (h : x_ad g w p it a b c) (h0 : it = 0) (hp : p < s_np g) (hy : s_has g w p = true) (ea : a2 = nI p) (eb : b2 = nI (s_k1 g w p)) (ec : c2 = nI (s_l1 g w p)) : x_ad g w (p + 1) 1 a2 b2 c2 := by
  rcases h with ⟨-, h⟩ | ⟨h1, -⟩
  · have e : s_p1 g w = p := s_first_eq hp hy h
    exact Or.inr ⟨rfl, s_any_t hp hy, by rw [e]; exact ea, by rw [e]; exact eb, by rw [e]; exact ec⟩
  · omega
theorem x_ad_e {g : Nat → Nat} {w : Bool} {p it : Nat} {a b c : Int32} (h : x_ad g w p it a b c) (hi : it ≤ 1) (hw : s_aw g = w) (he : s_np g ≤ p ∨ ¬ it = 0) : nI it = q_b (s_adv g) ∧ (s_adv g = true → a = nI (s_ap g) ∧ b = nI (s_ak g) ∧ c = nI (s_al2 g)) := by
  unfold s_adv s_ap s_ak s_al2 s_ap
  rw [hw]
  rcases h with ⟨h1, h⟩ | ⟨h1, h2, h3⟩
  · have e : s_hasAny g w = false := s_any_f (fun q hq => h q (by omega))
    rw [e, h1]
    exact ⟨rfl, fun z => by cases z⟩
  · rw [h2, h1]
    exact ⟨rfl, fun _ => h3⟩
end
