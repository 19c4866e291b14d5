/-! BARS ARE DISTINCT as a text is read: the steps within a rule -/
section
variable {f : Nat → Nat} {m : Nat}
theorem x_bd_oN {r t t' : Nat} {g g' : Nat → Nat} (h : rw_ok r g) (hb : x_bdd (s_rule g r)) (hR : rd_oN f m r g t = .inr (g', t')) : x_bdd (s_rule g' r) := by
  have h9 := h.1.2.1
  have h20 := h.1.2.2.2.2.1
  unfold rd_oN at hR
  split at hR
  · split at hR
    · cases hR
    · split at hR
      · cases hR
      · next hne =>
        cases hR
        refine x_bdd_congr (fun j h1 h2 => ?_) h20 hb
        rw [s_addO_at, if_neg (by omega)]
        exact s_ins_out _ _ _ (Or.inr (by omega))
  · cases hR
theorem x_bd_w {bs : List Nat} {r j lo hi t t' : Nat} {g g' : Nat → Nat} (h : rw_ok r g) (hj : j = 18 ∨ j = 19) (hb : x_bdd (s_rule g r)) (hR : rd_w f m bs r j lo hi g t = .inr (g', t')) : x_bdd (s_rule g' r) := by
  unfold rd_w at hR
  split at hR
  · split at hR
    · cases hR
      refine x_bdd_congr (fun i h1 h2 => ?_) h.1.2.2.2.2.1 hb
      exact va_up_off (by omega)
    · cases hR
  · cases hR; exact hb
theorem x_bd_b {r t t' : Nat} {g g' : Nat → Nat} (h : rw_ok r g) (hb : x_bdd (s_rule g r)) (hR : rd_b f m r g t = .inr (g', t')) : x_bdd (s_rule g' r) := by
  have h20 := h.1.2.2.2.2.1
  unfold rd_b at hR
  split at hR
  · cases hR
  · next hne =>
    split at hR
    · generalize tk_vl f m (tk_nx f m t) = k at hR
      generalize tk_nx f m (tk_nx f m t) = t3 at hR
      by_cases hn : tk_nc f m t3 (if k = 0 then 1 else 0) 40 = 0
      · cases hb2 : s_barred (s_rule g r) k (tk_vl f m t3) with
        | true => rw [rd_b2_2 hn hb2] at hR; cases hR
        | false =>
          rw [rd_b2_3 hn hb2 rfl] at hR
          cases hR
          exact x_isA_bdd (x_addBr_isA (by omega)).1 hb2 hb
      · rw [rd_b2_1 hn] at hR; cases hR
    · cases hR
theorem x_bd_oL {r : Nat} : ∀ (n : Nat) {g g' : Nat → Nat} {t t' : Nat}, rw_ok r g → x_bdd (s_rule g r) → rd_oL f m r n g t = .inr (g', t') → x_bdd (s_rule g' r)
  | 0, g, g', t, t', _, hb, hR => by cases hR; exact hb
  | n + 1, g, g', t, t', h, hb, hR => by
    have hR2 : (if tk_kd f m t = 2 then rd_bd (rd_oN f m r g t) (rd_oL f m r n) else .inr (g, t)) = .inr (g', t') := hR
    by_cases h1 : tk_kd f m t = 2
    · rw [if_pos h1] at hR2
      obtain ⟨g1, t1, e1, e2⟩ := rd_bd_inr hR2
      exact x_bd_oL n (rd_oN_wf h e1).1 (x_bd_oN h hb e1) e2
    · rw [if_neg h1] at hR2; cases hR2; exact hb
theorem x_bd_o {r t t' : Nat} {g g' : Nat → Nat} (h : rw_ok r g) (hb : x_bdd (s_rule g r)) (hR : rd_o f m r g t = .inr (g', t')) : x_bdd (s_rule g' r) := by
  unfold rd_o at hR
  split at hR
  · obtain ⟨g1, t1, e1, e2⟩ := rd_bd_inr hR
    exact x_bd_oL 9 (rd_oN_wf h e1).1 (x_bd_oN h hb e1) e2
  · cases hR; exact hb
theorem x_bd_bL {r : Nat} : ∀ (n : Nat) {g g' : Nat → Nat} {t t' : Nat}, rw_ok r g → x_bdd (s_rule g r) → rd_bL f m r n g t = .inr (g', t') → x_bdd (s_rule g' r)
  | 0, g, g', t, t', _, hb, hR => by cases hR; exact hb
  | n + 1, g, g', t, t', h, hb, hR => by
    have hR2 : (if tk_wd f m t [98, 97, 114] = true then rd_bd (rd_b f m r g t) (rd_bL f m r n) else .inr (g, t)) = .inr (g', t') := hR
    by_cases h1 : tk_wd f m t [98, 97, 114] = true
    · rw [if_pos h1] at hR2
      obtain ⟨g1, t1, e1, e2⟩ := rd_bd_inr hR2
      exact x_bd_bL n (rd_b_wf h e1).1 (x_bd_b h hb e1) e2
    · rw [if_neg h1] at hR2; cases hR2; exact hb
end
