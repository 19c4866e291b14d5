section
variable {f : Nat → Nat} {m : Nat}
theorem rd_d_parts {g g' : Nat → Nat} {t t' : Nat} (hR : rd_d f m g t = .inr (g', t')) : ∀ j : Nat, j < 133 → j ≠ 1 → g' j = g j := by
  unfold rd_d at hR
  by_cases h1 : g 1 = 4
  · rw [if_pos h1] at hR; cases hR
  · rw [if_neg h1] at hR
    by_cases h2 : tk_nm f m (tk_nx f m t) = true
    · rw [if_pos h2] at hR
      by_cases h3 : s_nmi f m g (tk_nx f m t) < g 0
      · rw [if_pos h3] at hR
        obtain ⟨x, y, -, -, rfl⟩ := rd_2_inr hR
        exact fun j hj hj1 => s_addB_lo hj hj1
      · rw [if_neg h3] at hR; cases hR
    · rw [if_neg h2] at hR; cases hR
theorem rd_s_parts {g g' : Nat → Nat} {t t' : Nat} (hR : rd_s f m g t = .inr (g', t')) : ∀ j : Nat, j < 133 → j ≠ 2 → g' j = g j := by
  unfold rd_s at hR
  by_cases h1 : g 2 = 4
  · rw [if_pos h1] at hR; cases hR
  · rw [if_neg h1] at hR
    obtain ⟨x, y, -, -, rfl⟩ := rd_2_inr hR
    exact fun j hj hj1 => s_addS_lo hj hj1
/-- the end of the text -/
theorem rd_t_ok {n i u t : Nat} {g : Nat → Nat} (hi : i ≤ n) (h : tk_kd f m t = 0) (h0 : 0 < g 0) : rd_t f m (n + 1 - i) u g t = .inr (g, t) := by
  rw [show n + 1 - i = (n - i) + 1 by omega, rd_t_n h, if_pos h0]
theorem rd_t_no {n i u t : Nat} {g : Nat → Nat} (hi : i ≤ n) (h : tk_kd f m t = 0) (h0 : g 0 = 0) : rd_t f m (n + 1 - i) u g t = .inl (1, t) := by
  rw [show n + 1 - i = (n - i) + 1 by omega, rd_t_n h, if_neg (by omega)]
theorem rd_t_fu {n i u t : Nat} {g : Nat → Nat} {R : PR} (hi : i ≤ n) (h : rd_t f m ((n - i) + 1) u g t = R) : rd_t f m (n + 1 - i) u g t = R := by
  rw [show n + 1 - i = (n - i) + 1 by omega]; exact h
end
section
variable {f : Nat → Nat} {m : Nat}
theorem tk_nx_ge (f : Nat → Nat) (m t : Nat) : t ≤ tk_nx f m t := Nat.le_trans tk_be_ge (tk_st_ge f m _)
theorem rd_oN_ge {r t t' : Nat} {g g' : Nat → Nat} (hR : rd_oN f m r g t = .inr (g', t')) : t ≤ t' := by
  unfold rd_oN at hR
  split at hR
  · split at hR
    · cases hR
    · split at hR
      · cases hR
      · cases hR; exact tk_nx_ge f m t
  · cases hR
theorem rd_oL_ge {r : Nat} : ∀ (n : Nat) {g g' : Nat → Nat} {t t' : Nat}, rd_oL f m r n g t = .inr (g', t') → t ≤ t'
  | 0, g, g', t, t', hR => by cases hR; exact Nat.le_refl _
  | n + 1, g, g', t, t', hR => by
    have hR2 : (if tk_kd f m t = 2 then rd_bd (rd_oN f m r g t) (rd_oL f m r n) else .inr (g, t)) = .inr (g', t') := hR
    by_cases h1 : tk_kd f m t = 2
    · rw [if_pos h1] at hR2
      obtain ⟨g1, t1, e1, e2⟩ := rd_bd_inr hR2
      exact Nat.le_trans (rd_oN_ge e1) (rd_oL_ge n e2)
    · rw [if_neg h1] at hR2; cases hR2; exact Nat.le_refl _
theorem rd_o_ge {r t t' : Nat} {g g' : Nat → Nat} (hR : rd_o f m r g t = .inr (g', t')) : t ≤ t' := by
  unfold rd_o at hR
  split at hR
  · obtain ⟨g1, t1, e1, e2⟩ := rd_bd_inr hR
    exact Nat.le_trans (tk_nx_ge f m t) (Nat.le_trans (rd_oN_ge e1) (rd_oL_ge 9 e2))
  · cases hR; exact Nat.le_refl _
theorem rd_w_ge {bs : List Nat} {r j lo hi t t' : Nat} {g g' : Nat → Nat} (hR : rd_w f m bs r j lo hi g t = .inr (g', t')) : t ≤ t' := by
  unfold rd_w at hR
  split at hR
  · split at hR
    · cases hR; exact Nat.le_trans (tk_nx_ge f m t) (tk_nx_ge f m _)
    · cases hR
  · cases hR; exact Nat.le_refl _
theorem rd_b2_ge {r k t t' : Nat} {g g' : Nat → Nat} (hR : rd_b2 f m r k g t = .inr (g', t')) : t ≤ t' := by
  by_cases hn : tk_nc f m t (if k = 0 then 1 else 0) 40 = 0
  · cases hb : s_barred (s_rule g r) k (tk_vl f m t) with
    | true => rw [rd_b2_2 hn hb] at hR; cases hR
    | false => rw [rd_b2_3 hn hb rfl] at hR; cases hR; exact tk_nx_ge f m t
  · rw [rd_b2_1 hn] at hR; cases hR
theorem rd_b_ge {r t t' : Nat} {g g' : Nat → Nat} (hR : rd_b f m r g t = .inr (g', t')) : t ≤ t' := by
  by_cases h : s_rule g r 20 = 4
  · rw [rd_b_1 h] at hR; cases hR
  · by_cases hn : tk_nc f m (tk_nx f m t) 0 40 = 0
    · rw [rd_b_3 h rfl hn rfl] at hR
      exact Nat.le_trans (Nat.le_trans (tk_nx_ge f m t) (tk_nx_ge f m _)) (rd_b2_ge hR)
    · rw [rd_b_2 h rfl hn] at hR; cases hR
theorem rd_bL_ge {r : Nat} : ∀ (n : Nat) {g g' : Nat → Nat} {t t' : Nat}, rd_bL f m r n g t = .inr (g', t') → t ≤ t'
  | 0, g, g', t, t', hR => by cases hR; exact Nat.le_refl _
  | n + 1, g, g', t, t', hR => by
    have hR2 : (if tk_wd f m t [98, 97, 114] = true then rd_bd (rd_b f m r g t) (rd_bL f m r n) else .inr (g, t)) = .inr (g', t') := hR
    by_cases h1 : tk_wd f m t [98, 97, 114] = true
    · rw [if_pos h1] at hR2
      obtain ⟨g1, t1, e1, e2⟩ := rd_bd_inr hR2
      exact Nat.le_trans (rd_b_ge e1) (rd_bL_ge n e2)
    · rw [if_neg h1] at hR2; cases hR2; exact Nat.le_refl _
theorem rd_r_ge {t t' : Nat} {g g' : Nat → Nat} (hR : rd_r f m g t = .inr (g', t')) : t ≤ t' := by
  unfold rd_r at hR
  split at hR
  · cases hR
  · split at hR
    · split at hR
      · cases hR
      · unfold rd_r2 at hR
        obtain ⟨g4, t4, e4, hR⟩ := rd_bd_inr hR
        obtain ⟨g5, t5, e5, hR⟩ := rd_bd_inr hR
        obtain ⟨g6, t6, e6, hR⟩ := rd_bd_inr hR
        obtain ⟨g7, t7, e7, hR⟩ := rd_bd_inr hR
        have h1 := rd_o_ge e4
        have h2 := rd_w_ge e5
        have h3 := rd_w_ge e6
        have h4 := rd_bL_ge 5 e7
        have h5 := tk_nx_ge f m t
        have h6 := tk_nx_ge f m (tk_nx f m t)
        cases hR
        omega
    · cases hR
theorem rd_2_ge {a b c d t t' : Nat} {k : Nat → Nat → (Nat → Nat)} {g' : Nat → Nat} (hR : rd_2 f m a b c d k t = .inr (g', t')) : t ≤ t' := by
  unfold rd_2 at hR
  split at hR
  · split at hR
    · cases hR; exact Nat.le_trans (tk_nx_ge f m t) (tk_nx_ge f m _)
    · cases hR
  · cases hR
theorem rd_m_ge {u t t' : Nat} {g g' : Nat → Nat} (hR : rd_m f m u g t = .inr (g', t')) : t ≤ t' := by
  unfold rd_m at hR
  split at hR
  · exact rd_r_ge hR
  · split at hR
    · unfold rd_d at hR
      split at hR
      · cases hR
      · split at hR
        · split at hR
          · exact Nat.le_trans (Nat.le_trans (tk_nx_ge f m t) (tk_nx_ge f m _)) (rd_2_ge hR)
          · cases hR
        · cases hR
    · split at hR
      · unfold rd_s at hR
        split at hR
        · cases hR
        · exact Nat.le_trans (tk_nx_ge f m t) (rd_2_ge hR)
      · split at hR
        · unfold rd_f at hR
          split at hR
          · cases hR
          · split at hR
            · cases hR; exact Nat.le_trans (tk_nx_ge f m t) (tk_nx_ge f m _)
            · cases hR
        · cases hR
end
