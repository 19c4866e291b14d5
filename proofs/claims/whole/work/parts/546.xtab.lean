section
/-! THE CLASS'S TABLES: its steps in their order, its marks, farthest and nearest -/
def x_st (A : Nat → Bool) (sk sl : Nat → Nat) (m : Nat) : Prop := ∀ j : Nat, j < m → A j = true → sk (s_cnt A j) = j / 41 ∧ sl (s_cnt A j) = j % 41
theorem x_next {A : Nat → Bool} {M : Nat} : ∀ (d m i : Nat), d = M - m → s_cnt A m = i → i < s_cnt A M → ∃ j : Nat, m ≤ j ∧ j < M ∧ A j = true ∧ s_cnt A j = i ∧ ∀ q : Nat, m ≤ q → q < j → A q = false := by
  intro d
  induction d with
  | zero =>
    intro m i hd hc hi
    have := s_cnt_mono (P := A) (show M ≤ m by omega)
    omega
  | succ d ih =>
    intro m i hd hc hi
    cases h : A m with
    | true => exact ⟨m, Nat.le_refl _, by omega, h, hc, fun q h1 h2 => by omega⟩
    | false =>
      obtain ⟨j, h1, h2, h3, h4, h5⟩ := ih (m + 1) i (by omega) (by rw [s_cnt_f h]; exact hc) hi
      refine ⟨j, by omega, h2, h3, h4, fun q q1 q2 => ?_⟩
      by_cases e : q = m
      · rw [e]; exact h
      · exact h5 q (by omega) q2
theorem x_none {A : Nat → Bool} {m M : Nat} (hm : s_cnt A M ≤ s_cnt A m) : ∀ q : Nat, m ≤ q → q < M → A q = false := by
  intro q h1 h2
  cases h : A q with
  | false => rfl
  | true =>
    have a := s_cnt_mono (P := A) h1
    have b := s_cnt_lt h2 h
    omega
theorem x_mv_na {A : Nat → Bool} {p q : Nat} (h : A q = false) : s_mv A p q = false := by unfold s_mv; rw [h, Bool.and_false]
theorem x_mv_t {A : Nat → Bool} {x y q : Nat} (hy : y ≤ 40) (h1 : q / 41 ≤ x) (h2 : q % 41 ≤ y) (h : A q = true) : s_mv A (x * 41 + y) q = true := by
  unfold s_mv; rw [h, Bool.and_true]; exact decide_eq_true ⟨by omega, by omega⟩
theorem x_mv_f {A : Nat → Bool} {x y q : Nat} (hy : y ≤ 40) (h : x < q / 41 ∨ y < q % 41) : s_mv A (x * 41 + y) q = false := by
  unfold s_mv; rw [decide_eq_false (by omega), Bool.false_and]
def x_mkd (A : Nat → Bool) (t : Nat → Nat) (p m mc : Nat) (mk : Nat → Nat) : Prop := ∀ v : Nat, v < 1681 → mk v ≤ mc ∧ (mk v = mc ↔ s_rch A t p m v = true)
theorem x_mk_0 {A : Nat → Bool} {t mk : Nat → Nat} {p mc : Nat} (h : ∀ v : Nat, v < 1681 → mk v ≤ mc) : x_mkd A t p 0 (mc + 1) mk := by
  intro v hv
  have := h v hv
  rw [s_rch_0]
  exact ⟨by omega, ⟨fun e => by omega, fun e => by cases e⟩⟩
theorem x_mk_step {A : Nat → Bool} {t mk : Nat → Nat} {p m mc w : Nat} (h : x_mkd A t p m mc mk) (hq : s_mv A p m = true) (hw : w = t (p - m)) : x_mkd A t p (m + 1) mc (va_up mk w mc) := by
  intro v hv
  rw [s_rch_step, hq, Bool.true_and, Bool.or_eq_true, beq_iff_eq]
  by_cases e : v = w
  · subst e
    simp [va_up, hw]
  · simp only [va_up, if_neg e]
    have := h v hv
    refine ⟨this.1, this.2.trans ⟨Or.inl, fun z => z.resolve_right (fun z => e (by rw [hw]; exact z.symm))⟩⟩
theorem x_mk_skip {A : Nat → Bool} {t mk : Nat → Nat} {p m m' mc : Nat} (h : x_mkd A t p m mc mk) (hm : m ≤ m') (hq : ∀ q : Nat, m ≤ q → q < m' → s_mv A p q = false) : x_mkd A t p m' mc mk := by
  intro v hv
  rw [s_rch_skip hm hq]
  exact h v hv
/-- one more than the greatest span that a move leads to -/
def x_far (A : Nat → Bool) (S : Nat → Nat) (p : Nat) : Nat → Nat
  | 0 => 0
  | m + 1 => if s_mv A p m = true then max (x_far A S p m) (S (p - m) + 1) else x_far A S p m
def x_nl (A : Nat → Bool) (V S : Nat → Nat) (p : Nat) : Nat → Nat
  | 0 => 1681
  | m + 1 => if s_mv A p m = true ∧ V (p - m) = 0 ∧ S (p - m) < x_nl A V S p m then S (p - m) else x_nl A V S p m
theorem x_far_skip {A : Nat → Bool} {S : Nat → Nat} {p m : Nat} : ∀ m' : Nat, m ≤ m' → (∀ q : Nat, m ≤ q → q < m' → s_mv A p q = false) → x_far A S p m' = x_far A S p m
  | 0, h, _ => by rw [show m = 0 by omega]
  | m' + 1, h, hno => by
    by_cases hm : m = m' + 1
    · rw [hm]
    · rw [x_far, if_neg (by rw [hno m' (by omega) (by omega)]; decide)]
      exact x_far_skip m' (by omega) (fun q h1 h2 => hno q h1 (by omega))
theorem x_nl_skip {A : Nat → Bool} {V S : Nat → Nat} {p m : Nat} : ∀ m' : Nat, m ≤ m' → (∀ q : Nat, m ≤ q → q < m' → s_mv A p q = false) → x_nl A V S p m' = x_nl A V S p m
  | 0, h, _ => by rw [show m = 0 by omega]
  | m' + 1, h, hno => by
    by_cases hm : m = m' + 1
    · rw [hm]
    · rw [x_nl, if_neg (by rw [hno m' (by omega) (by omega)]; rintro ⟨z, -⟩; cases z)]
      exact x_nl_skip m' (by omega) (fun q h1 h2 => hno q h1 (by omega))
theorem x_far_best {A : Nat → Bool} {V S : Nat → Nat} {p : Nat} (hV : V p = 0) : ∀ m : Nat, s_best A V S p m = x_far A S p m
  | 0 => rfl
  | m + 1 => by unfold s_best x_far; rw [x_far_best hV m, if_pos hV]
theorem x_nl_best {A : Nat → Bool} {V S : Nat → Nat} {p : Nat} (hV : ¬ V p = 0) (hS : ∀ q : Nat, S q < 1681) : ∀ m : Nat, x_nl A V S p m ≤ 1681 ∧ s_best A V S p m = if x_nl A V S p m = 1681 then 0 else x_nl A V S p m + 1
  | 0 => ⟨Nat.le_refl _, rfl⟩
  | m + 1 => by
    obtain ⟨h1, h2⟩ := x_nl_best (A := A) hV hS m
    unfold s_best x_nl
    have h3 := hS (p - m)
    by_cases hq : s_mv A p m = true
    · rw [if_pos hq, if_neg hV, h2]
      by_cases hz : V (p - m) = 0
      · by_cases hl : S (p - m) < x_nl A V S p m
        · rw [if_pos (c := s_mv A p m = true ∧ V (p - m) = 0 ∧ S (p - m) < x_nl A V S p m) ⟨hq, hz, hl⟩]
          refine ⟨by omega, ?_⟩
          have hx : (if x_nl A V S p m = 1681 then 0 else x_nl A V S p m + 1) = 0 ∨ S (p - m) + 1 < (if x_nl A V S p m = 1681 then 0 else x_nl A V S p m + 1) := by split <;> omega
          rw [if_neg (show ¬ S (p - m) = 1681 by omega), if_pos ⟨hz, hx⟩]
        · rw [if_neg (c := s_mv A p m = true ∧ V (p - m) = 0 ∧ S (p - m) < x_nl A V S p m) (by rintro ⟨-, -, z⟩; exact hl z)]
          refine ⟨h1, ?_⟩
          rw [if_neg]
          rintro ⟨-, z⟩
          split at z <;> omega
      · rw [if_neg (c := s_mv A p m = true ∧ V (p - m) = 0 ∧ S (p - m) < x_nl A V S p m) (by rintro ⟨-, z, -⟩; exact hz z), if_neg (by rintro ⟨z, -⟩; exact hz z)]
        exact ⟨h1, rfl⟩
    · rw [if_neg hq, if_neg (c := s_mv A p m = true ∧ V (p - m) = 0 ∧ S (p - m) < x_nl A V S p m) (by rintro ⟨z, -⟩; exact hq z)]
      exact ⟨h1, h2⟩
theorem x_nl_lt {A : Nat → Bool} {V S : Nat → Nat} {p q : Nat} (hq : s_mv A p q = true) (hz : V (p - q) = 0) (hS : ∀ q : Nat, S q < 1681) : ∀ m : Nat, q < m → x_nl A V S p m < 1681
  | 0, h => absurd h (Nat.not_lt_zero q)
  | m + 1, h => by
    have h3 := hS (p - m)
    unfold x_nl
    by_cases e : q = m
    · rw [← e]
      by_cases hl : S (p - q) < x_nl A V S p q
      · rw [if_pos ⟨hq, hz, hl⟩]; exact hS _
      · rw [if_neg (by rintro ⟨-, -, z⟩; exact hl z)]
        have := hS (p - q)
        omega
    · have := x_nl_lt (A := A) (p := p) hq hz hS m (by omega)
      split <;> omega
/-- what the class writes as a span is the reference's -/
theorem x_span {A : Nat → Bool} (h0 : A 0 = false) {va sp : Nat → Nat} {p : Nat} (hp : p < 1681) (hv : ∀ j : Nat, j < p → va j = s_val A j ∧ sp j = s_spn A j) (hv0 : ∀ j : Nat, j < 1681 → sp j < 1681) : s_spn A p = if s_val A p = 0 then x_far A sp p 1681 else x_nl A va sp p 1681 + 1 := by
  obtain ⟨S2, hS2, hSl⟩ : ∃ S2 : Nat → Nat, (∀ j : Nat, j < p → S2 j = sp j) ∧ ∀ q : Nat, S2 q < 1681 := by
    refine ⟨fun j => if j < p then sp j else 0, fun j hj => if_pos hj, fun q => ?_⟩
    show (if q < p then sp q else 0) < 1681
    split
    · exact hv0 q (by omega)
    · decide
  obtain ⟨V2, hV2, eV⟩ : ∃ V2 : Nat → Nat, (∀ j : Nat, j < p → V2 j = va j) ∧ V2 p = s_val A p := ⟨fun j => if j < p then va j else s_val A j, fun j hj => if_pos hj, if_neg (Nat.lt_irrefl p)⟩
  have e1 := s_spn_eq (p := p) (V := V2) (S := S2) h0 (fun j hj => by
    by_cases e : j < p
    · rw [hV2 j e]; exact (hv j e).1
    · rw [show j = p by omega]; exact eV) (fun j hj => by rw [hS2 j hj]; exact (hv j hj).2)
  have ef : ∀ m : Nat, x_far A S2 p m = x_far A sp p m := by
    intro m
    induction m with
    | zero => rfl
    | succ m ih =>
      unfold x_far
      rw [ih]
      by_cases hq : s_mv A p m = true
      · have h4 := s_mv_pos h0 hq
        have h5 := s_mv_le hq
        rw [if_pos hq, if_pos hq, hS2 (p - m) (by omega)]
      · rw [if_neg hq, if_neg hq]
  have en : ∀ m : Nat, x_nl A V2 S2 p m = x_nl A va sp p m := by
    intro m
    induction m with
    | zero => rfl
    | succ m ih =>
      unfold x_nl
      rw [ih]
      by_cases hq : s_mv A p m = true
      · have h4 := s_mv_pos h0 hq
        have h5 := s_mv_le hq
        rw [hS2 (p - m) (by omega), hV2 (p - m) (by omega)]
      · rw [if_neg (by rintro ⟨z, -⟩; exact hq z), if_neg (by rintro ⟨z, -⟩; exact hq z)]
  rw [← e1]
  by_cases hz : s_val A p = 0
  · rw [if_pos hz, x_far_best (by rw [eV]; exact hz), ef]
  · rw [if_neg hz, (x_nl_best (by rw [eV]; exact hz) hSl 1681).2, en]
    obtain ⟨q, q1, q2, q3, q4⟩ := s_val_reach h0 hp (show 0 < s_val A p by omega)
    have hl : x_nl A va sp p 1681 < 1681 := by
      rw [← en]
      refine x_nl_lt q1 ?_ hSl 1681 (by omega)
      rw [hV2 _ (by omega), (hv _ (by omega)).1]; exact q4
    rw [if_neg (by omega)]
variable {G : GL} {K : KC} {Q : State → Prop} {kc ks : Nat} {ex : Bool} {n : Nat} {pc : Nat} {ls : List (Option Value)} {st : List Value} {σ : Nat → va_E} {own : String} {b : ByteArray} {nL : Nat} {ret : Option FieldType} {R : Room} {hh : List (Nat × Nat × Nat × Nat)}
theorem q_dLe2 {x y : Nat} (hx : x < 2 ^ 31) (hy : y < 2 ^ 31) : nI y ≤ q_d x ↔ y + 1 ≤ x := by
  rw [Int32.le_iff_toInt_le, q_dInt hx, nI_toInt hy]; omega
theorem A_icmp_leNM (g : Gd G K own b nL ret R hh) {x y : Nat} {off : Int} {tgt : Nat} (d : decode b pc = .ok (.if_icmp .le off, 3)) (hx : x < 2 ^ 31) (hy : y < 2 ^ 31) (ht : (pc : Int) + off = (tgt : Int)) (kt : x + 1 ≤ y → AJ G K Q kc ks ex n tgt ls st σ) (kf : ¬ x + 1 ≤ y → AJ G K Q kc ks ex n (pc + 3) ls st σ) : AJ G K Q kc ks ex n pc ls (.int (q_d y) :: .int (nI x) :: st) σ := A_icmp_le g d ht (q_iff (q_dLe2 hy hx) kt) (q_ifn (q_dLe2 hy hx) kf)
/-- what a table holds of a rule with the moves A -/
def x_tc (A : Nat → Bool) (n : Nat) (skf slf va sp : Nat → Nat) (gv gs lm vs : Nat) : Prop := n = s_cnt A 1681 ∧ x_st A skf slf 1681 ∧ (∀ p : Nat, p < 1681 → va p = s_val A p ∧ sp p = s_spn A p) ∧ gv = s_mx (s_val A) 1681 ∧ gs = s_mx (s_spn A) 1681 ∧ lm = s_cnt (fun p => s_val A p == 0) 1681 ∧ vs = x_sum (s_val A) 1681
where
  x_sum (f : Nat → Nat) : Nat → Nat
    | 0 => 0
    | p + 1 => x_sum f p + f p
end
section
theorem x_least {A : Nat → Bool} {t rf : Nat → Nat} {p mc l : Nat} (hmk : x_mkd A t p 1681 mc rf) (hl : l ≤ 1681) (hall : ∀ v : Nat, v < l → s_rch A t p 1681 v = true) (he : 1681 ≤ l ∨ ¬ rf l = mc) : s_mex A t p = l := by
  unfold s_mex
  by_cases e : l = 1681
  · rw [e]
    refine s_first_none (fun j hj => ?_)
    rw [hall j (by omega)]; rfl
  · refine s_first_eq (by omega) ?_ (fun j hj => by rw [hall j hj]; rfl)
    have h := (hmk l (by omega)).2
    cases z : s_rch A t p 1681 l with
    | false => rfl
    | true => exact absurd (h.mpr z) (he.resolve_left (by omega))
theorem x_sum_s {f : Nat → Nat} {p : Nat} : x_tc.x_sum f (p + 1) = x_tc.x_sum f p + f p := rfl
theorem x_sum_le {f : Nat → Nat} {m : Nat} : ∀ {n : Nat}, (∀ j : Nat, j < n → f j ≤ m) → x_tc.x_sum f n ≤ n * m
  | 0, _ => Nat.zero_le _
  | n + 1, h => by
    have a := x_sum_le (f := f) (m := m) (n := n) (fun j hj => h j (by omega))
    have b := h n (by omega)
    rw [x_sum_s, Nat.succ_mul]; omega
end
section
theorem x_A_t {u : Nat → Nat} {k l : Nat} (hl : l ≤ 40) (h0 : 0 < k + l) (h : s_forb u k l = 0) : s_A u (41 * k + l) = true := by
  unfold s_A s_al
  rw [show (41 * k + l) / 41 = k by omega, show (41 * k + l) % 41 = l by omega]
  exact decide_eq_true ⟨h0, h⟩
theorem x_A_f {u : Nat → Nat} {k l : Nat} (hl : l ≤ 40) (h : k + l = 0 ∨ ¬ s_forb u k l = 0) : s_A u (41 * k + l) = false := by
  unfold s_A s_al
  rw [show (41 * k + l) / 41 = k by omega, show (41 * k + l) % 41 = l by omega]
  exact decide_eq_false (by rintro ⟨a, b⟩; rcases h with h | h; omega; exact h b)
theorem x_st_t {A : Nat → Bool} {kf lf : Nat → Nat} {k l n1 : Nat} (h : x_st A kf lf (41 * k + l)) (hn : n1 = s_cnt A (41 * k + l)) (hA : A (41 * k + l) = true) (hk : k ≤ 40) (hl : l ≤ 40) : x_st A (va_up kf n1 k) (va_up lf n1 l) (41 * k + (l + 1)) := by
  intro j hj hAj
  by_cases e : j = 41 * k + l
  · rw [e, ← hn]
    unfold va_up
    rw [if_pos rfl, if_pos rfl]
    exact ⟨by omega, by omega⟩
  · have a := s_cnt_lt (P := A) (show j < 41 * k + l by omega) hAj
    unfold va_up
    rw [if_neg (by omega), if_neg (by omega)]
    exact h j (by omega) hAj
theorem x_st_f {A : Nat → Bool} {kf lf : Nat → Nat} {k l : Nat} (h : x_st A kf lf (41 * k + l)) (hA : A (41 * k + l) = false) : x_st A kf lf (41 * k + (l + 1)) := by
  intro j hj hAj
  by_cases e : j = 41 * k + l
  · rw [e, hA] at hAj; cases hAj
  · exact h j (by omega) hAj
end
