/-! WHAT A GAME OF THE CLASS HOLDS, as the reference's row tells it; and how reading builds it -/
section
/-- ONLY's numbers stand in order -/
def x_os (u : Nat → Nat) : Prop := (∀ i : Nat, i < u 9 → 1 ≤ u (10 + i) ∧ u (10 + i) ≤ 40) ∧ ∀ i j : Nat, i < j → j < u 9 → u (10 + i) < u (10 + j)
def x_rr (u : Nat → Nat) (nm on sl mo nb : Nat) (bm : Nat → Nat) : Prop := x_nmr u nm ∧ x_on u on ∧ x_os u ∧ sl = u 18 ∧ mo = u 19 ∧ nb = u 20 ∧ x_bm u bm
def x_rl (g : Nat → Nat) (R : Nat) (nm on sl mo nb : Nat → Nat) (bm : Nat → Nat → Nat) : Prop := ∀ r : Nat, r < R → x_rr (s_rule g r) (nm r) (on r) (sl r) (mo r) (nb r) (bm r)
def x_tp (g tf ts : Nat → Nat) : Prop := (∀ p : Nat, p < g 1 → tf p = g (133 + 5 * p + 3) ∧ ts p = g (133 + 5 * p + 4)) ∧ ∀ s : Nat, s < g 2 → tf (4 + s) = g (153 + 3 * s + 2) ∧ ts (4 + s) = 0
def x_ac (g ac : Nat → Nat) : Prop := ∀ a : Nat, a < 10 → ac a = g (7 + a)
def x_tu (g tu : Nat → Nat) : Prop := ∀ i : Nat, i < g 6 → ∀ k : Nat, k < 5 → tu (5 * (g 6 - 1 - i) + k) = g (165 + 5 * i + k)
def x_gr (g kd fi se tf ts ac tu nm on sl mo nb : Nat → Nat) (bm : Nat → Nat → Nat) : Prop := s_gwf g ∧ x_p g kd fi se ∧ x_tp g tf ts ∧ x_rl g (g 0) nm on sl mo nb bm ∧ x_ac g ac ∧ x_tu g tu
theorem x_rr_congr {u w : Nat → Nat} {nm on sl mo nb : Nat} {bm : Nat → Nat} (e : ∀ j : Nat, j < 29 → w j = u j) (hu : s_rwf u) (h : x_rr u nm on sl mo nb bm) : x_rr w nm on sl mo nb bm := by
  obtain ⟨⟨⟨n1, n2⟩, n3⟩, ⟨o1, o2, o3⟩, ⟨s1, s2⟩, rfl, rfl, rfl, hb⟩ := h
  obtain ⟨w0, w9, w18, w19, w20, wo, wb⟩ := hu
  have e0 := e 0 (by decide)
  have e9 := e 9 (by decide)
  have e20 := e 20 (by decide)
  refine ⟨⟨⟨by omega, fun k hk => ?_⟩, ?_⟩, ⟨o1, fun x hx => ?_, by omega⟩, ⟨fun i hi => ?_, fun i j h1 h2 => ?_⟩, (e 18 (by decide)).symm, (e 19 (by decide)).symm, e20.symm, fun i hi => ?_⟩
  · rw [e (1 + k) (by omega)]; exact n2 k (by omega)
  · rw [n3, e0]; exact x_pk_congr _ (fun j hj => (e (1 + j) (by omega)).symm)
  · rw [o2 x hx]
    unfold s_only
    rw [e9]
    unfold s_any
    rw [s_first_congr (q := fun i => w (10 + i) == x) (fun j hj => by show (u (10 + j) == x) = (w (10 + j) == x); rw [e (10 + j) (by omega)])]
  · rw [e (10 + i) (by omega)]; exact s1 i (by omega)
  · rw [e (10 + i) (by omega), e (10 + j) (by omega)]; exact s2 i j h1 (by omega)
  · rw [e (21 + 2 * i) (by omega), e (21 + 2 * i + 1) (by omega)]; exact hb i (by omega)
theorem x_rl_rs {g nm on sl mo nb : Nat → Nat} {bm : Nat → Nat → Nat} (h : x_rl g (g 0) nm on sl mo nb bm) : x_rs g nm on bm := fun r hr => ⟨(h r hr).2.1, (h r hr).2.2.2.2.2.2⟩
/-- a number put into its place among those in order -/
theorem x_ins {r x : Nat} : ∀ (i : Nat) (g : Nat → Nat), (∀ a b : Nat, a < b → b < i → g (17 + 29 * r + (10 + a)) < g (17 + 29 * r + (10 + b))) → (∀ a : Nat, a < i → g (17 + 29 * r + (10 + a)) ≠ x) →
    ∃ p : Nat, p ≤ i ∧ (∀ j : Nat, j < p → g (17 + 29 * r + (10 + j)) < x) ∧ (∀ j : Nat, p ≤ j → j < i → x < g (17 + 29 * r + (10 + j))) ∧ (∀ j : Nat, j < p → s_ins r x i g (17 + 29 * r + (10 + j)) = g (17 + 29 * r + (10 + j))) ∧ s_ins r x i g (17 + 29 * r + (10 + p)) = x ∧ ∀ j : Nat, p ≤ j → j < i → s_ins r x i g (17 + 29 * r + (10 + (j + 1))) = g (17 + 29 * r + (10 + j))
  | 0, g, _, _ => ⟨0, Nat.le_refl _, fun j h => absurd h (Nat.not_lt_zero j), fun j _ h => absurd h (Nat.not_lt_zero j), fun j h => absurd h (Nat.not_lt_zero j), by show va_up g (17 + 29 * r + 10) x (17 + 29 * r + 10) = x; exact va_up_at, fun j _ h => absurd h (Nat.not_lt_zero j)⟩
  | i + 1, g, hs, hx => by
    have hdef : s_ins r x (i + 1) g = if x < g (17 + 29 * r + (10 + i)) then s_ins r x i (va_up g (17 + 29 * r + (10 + (i + 1))) (g (17 + 29 * r + (10 + i)))) else va_up g (17 + 29 * r + (10 + (i + 1))) x := rfl
    by_cases c : x < g (17 + 29 * r + (10 + i))
    · rw [if_pos c] at hdef
      have hg : ∀ j : Nat, j < i + 1 → va_up g (17 + 29 * r + (10 + (i + 1))) (g (17 + 29 * r + (10 + i))) (17 + 29 * r + (10 + j)) = g (17 + 29 * r + (10 + j)) := fun j hj => va_up_off (by omega)
      obtain ⟨p, p1, p2, p3, p4, p5, p6⟩ := x_ins i (va_up g (17 + 29 * r + (10 + (i + 1))) (g (17 + 29 * r + (10 + i)))) (fun a b h1 h2 => by rw [hg a (by omega), hg b (by omega)]; exact hs a b h1 (by omega)) (fun a ha => by rw [hg a (by omega)]; exact hx a (by omega))
      refine ⟨p, by omega, fun j hj => ?_, fun j h1 h2 => ?_, fun j hj => ?_, ?_, fun j h1 h2 => ?_⟩
      · have := p2 j hj; rw [hg j (by omega)] at this; exact this
      · by_cases e : j = i
        · rw [e]; exact c
        · have := p3 j h1 (by omega); rw [hg j (by omega)] at this; exact this
      · rw [hdef, p4 j hj, hg j (by omega)]
      · rw [hdef]; exact p5
      · rw [hdef]
        by_cases e : j = i
        · rw [e, s_ins_out _ _ _ (Or.inr (by omega))]; exact va_up_at
        · rw [p6 j h1 (by omega), hg j (by omega)]
    · rw [if_neg c] at hdef
      have hne := hx i (by omega)
      refine ⟨i + 1, Nat.le_refl _, fun j hj => ?_, fun j h1 h2 => by omega, fun j hj => ?_, ?_, fun j h1 h2 => by omega⟩
      · by_cases e : j = i
        · rw [e]; omega
        · have := hs j i (by omega) (by omega); omega
      · rw [hdef]; exact va_up_off (by omega)
      · rw [hdef]; exact va_up_at
theorem x_only_iff {u : Nat → Nat} {x : Nat} : s_only u x = true ↔ ∃ i : Nat, i < u 9 ∧ u (10 + i) = x := by
  unfold s_only
  rw [s_any_iff]
  constructor
  · rintro ⟨k, h1, h2⟩; exact ⟨k, h1, beq_iff_eq.mp h2⟩
  · rintro ⟨k, h1, h2⟩; exact ⟨k, h1, beq_iff_eq.mpr h2⟩
/-- one more number of ONLY -/
theorem x_on_add {g : Nat → Nat} {r on x : Nat} (ho : x_on (s_rule g r) on) (hs : x_os (s_rule g r)) (hn : s_only (s_rule g r) x = false) (hx : 1 ≤ x ∧ x ≤ 40) : x_on (s_rule (s_addO g r x) r) (on ||| 2 ^ x) ∧ x_os (s_rule (s_addO g r x) r) := by
  have hx9 : ∀ a : Nat, a < s_rule g r 9 → g (17 + 29 * r + (10 + a)) ≠ x := fun a ha e => by
    have : s_only (s_rule g r) x = true := x_only_iff.mpr ⟨a, ha, e⟩
    rw [hn] at this; cases this
  obtain ⟨p, p1, p2, p3, p4, p5, p6⟩ := x_ins (r := r) (x := x) (s_rule g r 9) g (fun a b h1 h2 => hs.2 a b h1 h2) hx9
  have e9 : s_rule (s_addO g r x) r 9 = s_rule g r 9 + 1 := by rw [s_addO_at, if_pos rfl]
  have ej : ∀ j : Nat, s_rule (s_addO g r x) r (10 + j) = s_ins r x (s_rule g r 9) g (17 + 29 * r + (10 + j)) := fun j => by rw [s_addO_at, if_neg (by omega)]; rfl
  have at_ : ∀ j : Nat, j < s_rule g r 9 + 1 → s_rule (s_addO g r x) r (10 + j) = if j < p then s_rule g r (10 + j) else if j = p then x else s_rule g r (10 + (j - 1)) := fun j hj => by
    rw [ej]
    by_cases h1 : j < p
    · rw [if_pos h1, p4 j h1]; rfl
    · rw [if_neg h1]
      by_cases h2 : j = p
      · rw [if_pos h2, h2, p5]
      · rw [if_neg h2]
        have := p6 (j - 1) (by omega) (by omega)
        rw [show j - 1 + 1 = j by omega] at this
        rw [this]; rfl
  have hset : ∀ y : Nat, s_only (s_rule (s_addO g r x) r) y = (decide (y = x) || s_only (s_rule g r) y) := fun y => by
    refine s_bool_ext ?_
    rw [Bool.or_eq_true, decide_eq_true_eq, x_only_iff, x_only_iff, e9]
    constructor
    · rintro ⟨i, h1, h2⟩
      rw [at_ i h1] at h2
      by_cases c1 : i < p
      · rw [if_pos c1] at h2; exact Or.inr ⟨i, by omega, h2⟩
      · rw [if_neg c1] at h2
        by_cases c2 : i = p
        · rw [if_pos c2] at h2; exact Or.inl h2.symm
        · rw [if_neg c2] at h2; exact Or.inr ⟨i - 1, by omega, h2⟩
    · rintro (h | ⟨i, h1, h2⟩)
      · exact ⟨p, by omega, by rw [at_ p (by omega), if_neg (by omega), if_pos rfl]; exact h.symm⟩
      · by_cases c1 : i < p
        · exact ⟨i, by omega, by rw [at_ i (by omega), if_pos c1]; exact h2⟩
        · exact ⟨i + 1, by omega, by rw [at_ (i + 1) (by omega), if_neg (by omega), if_neg (by omega), show i + 1 - 1 = i by omega]; exact h2⟩
  refine ⟨⟨?_, fun y hy => ?_, ?_⟩, fun i hi => ?_, fun i j h1 h2 => ?_⟩
  · exact Nat.or_lt_two_pow ho.1 (Nat.pow_lt_pow_right (by decide) (by omega))
  · rw [hset, Nat.testBit_or, Nat.testBit_two_pow, ho.2.1 y hy, Bool.or_comm]
    congr 1
    exact s_bool_ext (by rw [decide_eq_true_eq, decide_eq_true_eq]; omega)
  · rw [e9]
    refine ⟨fun z => by omega, fun z => ?_⟩
    have h1 : (on ||| 2 ^ x).testBit x = false := by rw [z]; exact Nat.zero_testBit x
    rw [Nat.testBit_or, Nat.testBit_two_pow_self, Bool.or_true] at h1
    cases h1
  · rw [e9] at hi
    rw [at_ i hi]
    by_cases c1 : i < p
    · rw [if_pos c1]; exact hs.1 i (by omega)
    · rw [if_neg c1]
      by_cases c2 : i = p
      · rw [if_pos c2]; exact hx
      · rw [if_neg c2]; exact hs.1 (i - 1) (by omega)
  · rw [e9] at h2
    have q2 : ∀ j : Nat, j < p → s_rule g r (10 + j) < x := p2
    have q3 : ∀ j : Nat, p ≤ j → j < s_rule g r 9 → x < s_rule g r (10 + j) := p3
    rw [at_ i (by omega), at_ j h2]
    by_cases c1 : i < p
    · rw [if_pos c1]
      by_cases c3 : j < p
      · rw [if_pos c3]; exact hs.2 i j h1 (by omega)
      · rw [if_neg c3]
        by_cases c4 : j = p
        · rw [if_pos c4]; exact q2 i c1
        · rw [if_neg c4]; exact hs.2 i (j - 1) (by omega) (by omega)
    · rw [if_neg c1, if_neg (show ¬ j < p by omega), if_neg (show ¬ j = p by omega)]
      by_cases c2 : i = p
      · rw [if_pos c2]; exact q3 (j - 1) (by omega) (by omega)
      · rw [if_neg c2]; exact hs.2 (i - 1) (j - 1) (by omega) (by omega)
/-- one more bar -/
theorem x_bm_add {g bm : Nat → Nat} {r k l : Nat} (hb : s_rule g r 20 < 4) (h : x_bm (s_rule g r) bm) : x_bm (s_rule (s_addBr g r k l) r) (va_up bm (s_rule g r 20) (k * 41 + l)) := by
  intro i hi
  rw [s_addBr_at g r k l 20 hb (by omega), if_pos rfl] at hi
  rw [s_addBr_at g r k l (21 + 2 * i) hb (by omega), s_addBr_at g r k l (21 + 2 * i + 1) hb (by omega)]
  by_cases e : i = s_rule g r 20
  · rw [e, va_up_at, if_neg (by omega), if_neg (by omega), if_pos rfl, if_neg (by omega), if_pos rfl]; omega
  · rw [va_up_off e, if_neg (by omega), if_neg (by omega), if_neg (by omega), if_neg (by omega), if_neg (by omega), if_neg (by omega)]
    exact h i (by omega)
/-- the rule of a name -/
theorem x_nmeq {f g : Nat → Nat} {m t r nm : Nat} (hn : tk_nm f m t = true) (h : x_nmr (s_rule g r) nm) : nm = x_tn f m t ↔ s_nmeq f m g t r = true := by
  rw [x_nmr_inj h (x_tn_r hn)]
  have e0 : x_nu f m t 0 = tk_be f m t - t := rfl
  have e1 : s_rule g r 0 = g (17 + 29 * r) := rfl
  have hr : ∀ j : Nat, s_rule g r (1 + j) = g (17 + 29 * r + 1 + j) := fun j => by show g (17 + 29 * r + (1 + j)) = _; congr 1; omega
  unfold s_nmeq
  rw [decide_eq_true_eq, e0, e1]
  constructor
  · rintro ⟨h1, h2⟩
    exact ⟨h1, fun j hj => by have := h2 j (by omega); rw [hr, x_nu_s] at this; exact this⟩
  · rintro ⟨h1, h2⟩
    exact ⟨h1, fun j hj => by rw [hr, x_nu_s]; exact h2 j (by omega)⟩
theorem x_nmi_t {f g : Nat → Nat} {m t r : Nat} {nm : Nat → Nat} (hn : tk_nm f m t = true) (h : ∀ r : Nat, r < g 0 → x_nmr (s_rule g r) (nm r)) (hr : r < g 0) (he : nm r = x_tn f m t) (hno : ∀ j : Nat, j < r → nm j = x_tn f m t → False) : s_nmi f m g t = r :=
  s_first_eq hr ((x_nmeq hn (h r hr)).mp he) (fun j hj => Bool.eq_false_iff.mpr (fun z => hno j hj ((x_nmeq hn (h j (by omega))).mpr z)))
theorem x_nmi_f {f g : Nat → Nat} {m t : Nat} {nm : Nat → Nat} (hn : tk_nm f m t = true) (h : ∀ r : Nat, r < g 0 → x_nmr (s_rule g r) (nm r)) (hno : ∀ j : Nat, j < g 0 → nm j = x_tn f m t → False) : ¬ s_nmi f m g t < g 0 := by
  intro z
  exact hno _ z ((x_nmeq hn (h _ z)).mpr (s_first_yes _ _ z))
end
section
variable {f : Nat → Nat} {m : Nat}
/-- reading leaves turns, games and accounts as they begin -/
def rd_k (g : Nat → Nat) : Prop := ∀ i : Nat, 4 ≤ i → i < 17 → g i = if i = 5 then 1 else 0
theorem rd_m_k {g g' : Nat → Nat} {u t t' : Nat} (hi : rd_inv g) (hk : rd_k g) (hR : rd_m f m u g t = .inr (g', t')) : rd_k g' := by
  have h04 := hi.1.1
  unfold rd_m at hR
  by_cases c1 : tk_wd f m t [114, 117, 108, 101] = true
  · rw [if_pos c1] at hR
    unfold rd_r at hR
    by_cases h1 : g 0 = 4
    · rw [if_pos h1] at hR; cases hR
    · rw [if_neg h1] at hR
      by_cases h2 : tk_nm f m (tk_nx f m t) = true
      · rw [if_pos h2] at hR
        by_cases h3 : s_nmi f m g (tk_nx f m t) < g 0
        · rw [if_pos h3] at hR; cases hR
        · rw [if_neg h3] at hR
          unfold rd_r2 at hR
          obtain ⟨k1, k2⟩ := rd_new_ok hi (by omega) h2
          obtain ⟨g4, t4, e4, hR⟩ := rd_bd_inr hR
          have w4 := rd_o_wf k1 e4
          obtain ⟨g5, t5, e5, hR⟩ := rd_bd_inr hR
          have w5 := rd_w_wf w4.1 (by omega) e5
          obtain ⟨g6, t6, e6, hR⟩ := rd_bd_inr hR
          have w6 := rd_w_wf w5.1 (by omega) e6
          obtain ⟨g7, t7, e7, hR⟩ := rd_bd_inr hR
          have w7 := rd_bL_wf 5 w6.1 e7
          cases hR
          have hs := rw_sm_trans (rw_sm_trans (rw_sm_trans (rw_sm_trans k2 w4.2) w5.2) w6.2) w7.2
          intro i h5 h6
          rw [va_up_off (by omega), hs i (Or.inl (by omega))]
          exact hk i h5 h6
      · rw [if_neg h2] at hR; cases hR
  · rw [if_neg c1] at hR
    by_cases c2 : tk_wd f m t [98, 111, 97, 114, 100] = true
    · rw [if_pos c2] at hR
      unfold rd_d at hR
      by_cases h1 : g 1 = 4
      · rw [if_pos h1] at hR; cases hR
      · rw [if_neg h1] at hR
        by_cases h2 : tk_nm f m (tk_nx f m t) = true
        · rw [if_pos h2] at hR
          by_cases h3 : s_nmi f m g (tk_nx f m t) < g 0
          · rw [if_pos h3] at hR
            obtain ⟨x, y, -, -, rfl⟩ := rd_2_inr hR
            intro i h5 h6
            unfold s_addB
            rw [va_up_off (by omega), va_up_off (by omega), va_up_off (by omega), va_up_off (by omega), va_up_off (by omega), va_up_off (by omega)]
            exact hk i h5 h6
          · rw [if_neg h3] at hR; cases hR
        · rw [if_neg h2] at hR; cases hR
    · rw [if_neg c2] at hR
      by_cases c3 : tk_wd f m t [115, 116, 105, 99, 107] = true
      · rw [if_pos c3] at hR
        unfold rd_s at hR
        by_cases h1 : g 2 = 4
        · rw [if_pos h1] at hR; cases hR
        · rw [if_neg h1] at hR
          obtain ⟨x, y, -, -, rfl⟩ := rd_2_inr hR
          intro i h5 h6
          unfold s_addS
          rw [va_up_off (by omega), va_up_off (by omega), va_up_off (by omega), va_up_off (by omega)]
          exact hk i h5 h6
      · rw [if_neg c3] at hR
        by_cases c4 : tk_wd f m t [102, 105, 114, 115, 116] = true
        · rw [if_pos c4] at hR
          unfold rd_f at hR
          by_cases h1 : u = 1
          · rw [if_pos h1] at hR; cases hR
          · rw [if_neg h1] at hR
            by_cases h2 : tk_nc f m (tk_nx f m t) 0 1 = 0
            · rw [if_pos h2] at hR; cases hR
              intro i h5 h6
              rw [va_up_off (by omega)]
              exact hk i h5 h6
            · rw [if_neg h2] at hR; cases hR
        · rw [if_neg c4] at hR; cases hR
theorem rd_k_0 : rd_k rd_g0 := fun _ _ _ => rfl
end
