/-! BARS ARE DISTINCT in what a text tells -/
section
variable {f : Nat → Nat} {m : Nat}
theorem x_bd_r {g g' : Nat → Nat} {t t' : Nat} (hi : rd_inv g) (hb : x_gbd g) (hR : rd_r f m g t = .inr (g', t')) : x_gbd g' := by
  have h04 := hi.1.1
  unfold rd_r at hR
  by_cases h1 : g 0 = 4
  · rw [if_pos h1] at hR; cases hR
  · rw [if_neg h1] at hR
    by_cases h2 : tk_nm f m (tk_nx f m t) = true
    · rw [if_pos h2] at hR
      by_cases h3 : s_nmi f m g (tk_nx f m t) < g 0
      · rw [if_pos h3] at hR; cases hR
      · rw [if_neg h3] at hR
        unfold rd_r2 at hR
        obtain ⟨k1, k2⟩ := rd_new_ok hi (by omega) h2
        have hn8 := (of_decide_eq_true h2).2
        have hb0 : x_bdd (s_rule (rd_new f m g (tk_nx f m t)) (g 0)) := by
          intro i j _ hj
          have e : s_rule (rd_new f m g (tk_nx f m t)) (g 0) 20 = 0 := by
            show rd_new f m g (tk_nx f m t) (17 + 29 * g 0 + 20) = 0
            rw [rd_new_at hi.2.2 (by omega) (by decide) (by decide) hn8]; rfl
          rw [e] at hj
          exact absurd hj (Nat.not_lt_zero j)
        obtain ⟨g4, t4, e4, hR⟩ := rd_bd_inr hR
        have w4 := rd_o_wf k1 e4
        have b4 := x_bd_o k1 hb0 e4
        obtain ⟨g5, t5, e5, hR⟩ := rd_bd_inr hR
        have w5 := rd_w_wf w4.1 (by omega) e5
        have b5 := x_bd_w w4.1 (Or.inl rfl) b4 e5
        obtain ⟨g6, t6, e6, hR⟩ := rd_bd_inr hR
        have w6 := rd_w_wf w5.1 (by omega) e6
        have b6 := x_bd_w w5.1 (Or.inr rfl) b5 e6
        obtain ⟨g7, t7, e7, hR⟩ := rd_bd_inr hR
        have w7 := rd_bL_wf 5 w6.1 e7
        have b7 := x_bd_bL 5 w6.1 b6 e7
        cases hR
        have hs := rw_sm_trans (rw_sm_trans (rw_sm_trans (rw_sm_trans k2 w4.2) w5.2) w6.2) w7.2
        have e0 := rw_sm_g0 hs
        intro r hr
        rw [show va_up g7 0 (g7 0 + 1) 0 = g7 0 + 1 from va_up_at, e0] at hr
        by_cases c : r = g 0
        · rw [c]
          refine x_bdd_congr (fun j _ _ => ?_) w7.1.1.2.2.2.2.1 b7
          exact va_up_off (by omega)
        · refine x_bdd_congr (fun j _ hj => ?_) (hi.1.2.2.2.2.2.1 r (by omega)).2.2.2.2.1 (hb r (by omega))
          show va_up g7 0 (g7 0 + 1) (17 + 29 * r + j) = g (17 + 29 * r + j)
          rw [va_up_off (by omega)]
          exact hs _ (Or.inl (by omega))
    · rw [if_neg h2] at hR; cases hR
theorem x_bd_d {g g' : Nat → Nat} {t t' : Nat} (hi : rd_inv g) (hb : x_gbd g) (hR : rd_d f m g t = .inr (g', t')) : x_gbd g' := by
  have h1 := hi.1.2.1
  unfold rd_d at hR
  by_cases h4 : g 1 = 4
  · rw [if_pos h4] at hR; cases hR
  · rw [if_neg h4] at hR
    by_cases h2 : tk_nm f m (tk_nx f m t) = true
    · rw [if_pos h2] at hR
      by_cases h3 : s_nmi f m g (tk_nx f m t) < g 0
      · rw [if_pos h3] at hR
        obtain ⟨x, y, hx, hy, rfl⟩ := rd_2_inr hR
        have out : ∀ i : Nat, i ≠ 1 → i < 133 → s_addB g (s_nmi f m g (tk_nx f m t)) x y i = g i := fun i h h2 => by
          unfold s_addB
          rw [va_up_off h, va_up_off (by omega), va_up_off (by omega), va_up_off (by omega), va_up_off (by omega), va_up_off (by omega)]
        exact x_gbd_same hi.1 (out 0 (by decide) (by decide)) (fun j a b => out j (by omega) b) hb
      · rw [if_neg h3] at hR; cases hR
    · rw [if_neg h2] at hR; cases hR
theorem x_bd_s {g g' : Nat → Nat} {t t' : Nat} (hi : rd_inv g) (hb : x_gbd g) (hR : rd_s f m g t = .inr (g', t')) : x_gbd g' := by
  have h1 := hi.1.2.2.1
  unfold rd_s at hR
  by_cases h4 : g 2 = 4
  · rw [if_pos h4] at hR; cases hR
  · rw [if_neg h4] at hR
    obtain ⟨x, y, hx, hy, rfl⟩ := rd_2_inr hR
    have out : ∀ i : Nat, i ≠ 2 → i < 133 → s_addS g x y i = g i := fun i h h2 => by
      unfold s_addS
      rw [va_up_off h, va_up_off (by omega), va_up_off (by omega), va_up_off (by omega)]
    exact x_gbd_same hi.1 (out 0 (by decide) (by decide)) (fun j a b => out j (by omega) b) hb
theorem x_bd_f {g g' : Nat → Nat} {u t t' : Nat} (hi : rd_inv g) (hb : x_gbd g) (hR : rd_f f m u g t = .inr (g', t')) : x_gbd g' := by
  unfold rd_f at hR
  by_cases h4 : u = 1
  · rw [if_pos h4] at hR; cases hR
  · rw [if_neg h4] at hR
    by_cases h2 : tk_nc f m (tk_nx f m t) 0 1 = 0
    · rw [if_pos h2] at hR; cases hR
      exact x_gbd_same hi.1 (va_up_off (by decide)) (fun j a b => va_up_off (by omega)) hb
    · rw [if_neg h2] at hR; cases hR
theorem x_bd_m {g g' : Nat → Nat} {u t t' : Nat} (hi : rd_inv g) (hb : x_gbd g) (hR : rd_m f m u g t = .inr (g', t')) : x_gbd g' := by
  unfold rd_m at hR
  split at hR
  · exact x_bd_r hi hb hR
  · split at hR
    · exact x_bd_d hi hb hR
    · split at hR
      · exact x_bd_s hi hb hR
      · split at hR
        · exact x_bd_f hi hb hR
        · cases hR
theorem x_bd_t : ∀ (n : Nat) {g g' : Nat → Nat} {u t t' : Nat}, rd_inv g → x_gbd g → rd_t f m n u g t = .inr (g', t') → x_gbd g'
  | 0, g, g', u, t, t', h, hb, hR => by cases hR; exact hb
  | n + 1, g, g', u, t, t', h, hb, hR => by
    by_cases h1 : tk_kd f m t = 0
    · rw [rd_t_n h1] at hR
      split at hR
      · cases hR; exact hb
      · cases hR
    · rw [rd_t_s h1] at hR
      obtain ⟨g2, t2, e1, e2⟩ := rd_bd_inr hR
      split at e2
      · exact x_bd_t n (rd_m_inv h e1) (x_bd_m h hb e1) e2
      · cases e2
theorem x_bd_all {g' : Nat → Nat} {t' : Nat} (hR : rd_all f m = .inr (g', t')) : x_gbd g' :=
  x_bd_t (m + 1) rd_inv_0 (fun r hr => absurd hr (Nat.not_lt_zero r)) hR
end
