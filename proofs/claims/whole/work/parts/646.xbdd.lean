/-! BARS STAY DISTINCT in what the calls make of a game -/
section
def x_gbd (g : Nat → Nat) : Prop := ∀ r : Nat, r < g 0 → x_bdd (s_rule g r)
theorem x_bdd_congr {u w : Nat → Nat} (e : ∀ j : Nat, 20 ≤ j → j < 29 → w j = u j) (h4 : u 20 ≤ 4) (h : x_bdd u) : x_bdd w := by
  intro i j hij hj
  have e20 := e 20 (by decide) (by decide)
  rw [e20] at hj
  rw [e (21 + 2 * i) (by omega) (by omega), e (21 + 2 * j) (by omega) (by omega), e (21 + 2 * i + 1) (by omega) (by omega), e (21 + 2 * j + 1) (by omega) (by omega)]
  exact h i j hij hj
theorem x_gbd_same {g w : Nat → Nat} (hg : s_gwf g) (h0 : w 0 = g 0) (e : ∀ j : Nat, 17 ≤ j → j < 133 → w j = g j) (h : x_gbd g) : x_gbd w := by
  intro r hr
  rw [h0] at hr
  have h4 := hg.1
  exact x_bdd_congr (fun j _ hj => by unfold s_rule; exact e _ (by omega) (by omega)) (hg.2.2.2.2.2.1 r hr).2.2.2.2.1 (h r hr)
theorem x_gbd_row {g w : Nat → Nat} {r : Nat} (hg : s_gwf g) (hr : r < g 0) (e : ∀ j : Nat, (j < 17 + 29 * r ∨ 17 + 29 * r + 29 ≤ j) → w j = g j) (hb : x_bdd (s_rule w r)) (h : x_gbd g) : x_gbd w := by
  intro q hq
  rw [e 0 (by omega)] at hq
  by_cases c : q = r
  · rw [c]; exact hb
  · refine x_bdd_congr (fun j _ hj => ?_) (hg.2.2.2.2.2.1 q hq).2.2.2.2.1 (h q hq)
    unfold s_rule
    exact e _ (by
      rcases Nat.lt_or_gt_of_ne c with h | h
      · left; omega
      · right; omega)
theorem x_gbd_set {g : Nat → Nat} {r j v : Nat} (hg : s_gwf g) (hr : r < g 0) (hj : j = 18 ∨ j = 19) (h : x_gbd g) : x_gbd (s_rset g r j v) := by
  refine x_gbd_row hg hr (fun i hi => va_up_off (by omega)) ?_ h
  exact x_bdd_congr (fun i h1 _ => by rw [s_rset_at, if_neg (by omega)]) (hg.2.2.2.2.2.1 r hr).2.2.2.2.1 (h r hr)
theorem x_gbd_play {g : Nat → Nat} {p k l : Nat} (hg : s_gwf g) (hp : p < s_np g) (h : x_gbd g) : x_gbd (s_play g p k l) := x_gbd_same hg (s_turn_rules hg hp).1 (s_turn_rules hg hp).2 h
theorem x_gbd_it {g : Nat → Nat} (hg : s_gwf g) (n : Nat) (h : x_gbd g) : x_gbd (s_it g n) := x_gbd_same hg (s_it_rules hg n).1 (s_it_rules hg n).2 h
theorem x_gbd_again {g : Nat → Nat} {p : Nat} (hg : s_gwf g) (h : x_gbd g) : x_gbd (s_again g p) :=
  x_gbd_same hg (x_ag_lo (by omega) (by omega) hg.2.1 hg.2.2.1) (fun j _ _ => x_ag_lo (by omega) (by omega) hg.2.1 hg.2.2.1) h
theorem x_gbd_bar {g : Nat → Nat} {r k l : Nat} {s : Bool} (hg : s_gwf g) (hr : r < g 0) (hs : s = true → s_barred (s_rule g r) k l = false → s_rule g r 20 < 4) (h : x_gbd g) : x_gbd (s_barG g r s k l) := by
  have h4 := (hg.2.2.2.2.2.1 r hr).2.2.2.2.1
  unfold s_barG
  by_cases c : s = true
  · rw [if_pos c]
    by_cases b : s_barred (s_rule g r) k l = true
    · rw [if_pos b]; exact h
    · have b2 : s_barred (s_rule g r) k l = false := by cases hh : s_barred (s_rule g r) k l with
        | true => exact absurd hh b
        | false => rfl
      rw [if_neg b]
      exact x_gbd_row hg hr (x_addBr_sm (hs c b2)) (x_isA_bdd (x_addBr_isA (hs c b2)).1 b2 (h r hr)) h
  · rw [if_neg c]
    by_cases b : s_barred (s_rule g r) k l = true
    · rw [if_pos b]
      have hi := (x_bar_at b).1
      exact x_gbd_row hg hr (x_dropB_sm h4 (by omega)) (x_isD_bdd (x_dropB_isD h4 hi).1 hi (h r hr)) h
    · rw [if_neg b]; exact h
end
