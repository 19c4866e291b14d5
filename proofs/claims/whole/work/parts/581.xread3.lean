section
variable {f : Nat → Nat} {m : Nat}
theorem x_nmr_congr {u w : Nat → Nat} {nm : Nat} (e : ∀ j : Nat, j < 9 → w j = u j) (h : x_nmr u nm) : x_nmr w nm := by
  obtain ⟨⟨n1, n2⟩, n3⟩ := h
  have e0 := e 0 (by decide)
  refine ⟨⟨by omega, fun k hk => ?_⟩, ?_⟩
  · rw [e (1 + k) (by omega)]; exact n2 k (by omega)
  · rw [n3, e0]; exact x_pk_congr _ (fun j hj => (e (1 + j) (by omega)).symm)
/-- the row of a new rule -/
theorem x_new {g : Nat → Nat} {t : Nat} (hi : rd_inv g) (h4 : g 0 < 4) (hn : tk_nm f m t = true) :
    x_nmr (s_rule (rd_new f m g t) (g 0)) (x_tn f m t) ∧ x_on (s_rule (rd_new f m g t) (g 0)) 0 ∧ x_os (s_rule (rd_new f m g t) (g 0)) ∧ s_rule (rd_new f m g t) (g 0) 9 = 0 ∧ s_rule (rd_new f m g t) (g 0) 18 = 1 ∧ s_rule (rd_new f m g t) (g 0) 19 = 40 ∧ s_rule (rd_new f m g t) (g 0) 20 = 0 := by
  have hd := of_decide_eq_true hn
  have at_ : ∀ j : Nat, j < 29 → 9 ≤ j → s_rule (rd_new f m g t) (g 0) j = if j = 19 then 40 else if j = 18 then 1 else 0 := fun j h1 h2 => rd_new_at hi.2.2 h4 h1 h2 hd.2
  have e9 := at_ 9 (by decide) (by decide)
  have e18 := at_ 18 (by decide) (by decide)
  have e19 := at_ 19 (by decide) (by decide)
  have e20 := at_ 20 (by decide) (by decide)
  refine ⟨x_nmr_congr (u := fun j => if j < 9 then s_rule (rd_new f m g t) (g 0) j else 0) (fun j hj => by show _ = if j < 9 then _ else _; rw [if_pos hj]) ?_, ⟨by decide, fun x hx => ?_, ?_⟩, ⟨fun i hi2 => ?_, fun i j h1 h2 => ?_⟩, e9, e18, e19, e20⟩
  · have hl : ∀ j : Nat, j < tk_be f m t - t → s_rule (rd_new f m g t) (g 0) (1 + j) = f (t + j) - 97 + 1 := fun j hj => by
      show rd_new f m g t (17 + 29 * g 0 + (1 + j)) = _
      unfold rd_new s_pnm
      rw [va_up_off (by omega), va_up_off (by omega), s_pnk_i, if_neg (by omega), if_pos (by omega)]
      congr 3; omega
    have h0 : s_rule (rd_new f m g t) (g 0) 0 = tk_be f m t - t := rd_new_0
    have hq := x_tn_r hn
    refine ⟨⟨?_, fun k hk => ?_⟩, ?_⟩
    · show (if 0 < 9 then s_rule (rd_new f m g t) (g 0) 0 else 0) ≤ 8
      rw [if_pos (by decide), h0]; exact hd.2
    · have hk2 : k < tk_be f m t - t := by
        have : (if 0 < 9 then s_rule (rd_new f m g t) (g 0) 0 else 0) = tk_be f m t - t := by rw [if_pos (by decide), h0]
        rw [← this]; exact hk
      show 1 ≤ (if 1 + k < 9 then _ else _) ∧ (if 1 + k < 9 then _ else _) ≤ 26
      rw [if_pos (by omega), hl k hk2, ← x_nu_s f m t k]
      exact hq.1.2 k hk2
    · show x_tn f m t = x_pk _ (if 0 < 9 then s_rule (rd_new f m g t) (g 0) 0 else 0)
      rw [if_pos (by decide), h0]
      exact x_pk_congr _ (fun j hj => by
        show x_nu f m t (1 + j) = if 1 + j < 9 then s_rule (rd_new f m g t) (g 0) (1 + j) else 0
        rw [if_pos (by omega), hl j hj, x_nu_s])
  · rw [Nat.zero_testBit]
    unfold s_only
    rw [e9]; rfl
  · rw [e9]; exact ⟨fun _ => rfl, fun _ => rfl⟩
  · rw [e9] at hi2; exact absurd hi2 (Nat.not_lt_zero i)
  · rw [e9] at h2; exact absurd h2 (Nat.not_lt_zero j)
/-- the rules, the new one read -/
theorem x_rl_new {g g5 nm on sl mo nb : Nat → Nat} {bm : Nat → Nat → Nat} (hi : rd_inv g) (h4 : g 0 < 4) (hs : rw_sm (g 0) g g5) (h : x_rl g (g 0) nm on sl mo nb bm) {a b c d e : Nat} {z : Nat → Nat} (hx : x_rr (s_rule g5 (g 0)) a b c d e z) (hok : rw_ok (g 0) g5) :
    x_rl (va_up g5 0 (g5 0 + 1)) (va_up g5 0 (g5 0 + 1) 0) (x_pt nm (g 0) a) (x_pt on (g 0) b) (x_pt sl (g 0) c) (x_pt mo (g 0) d) (x_pt nb (g 0) e) (x_pt bm (g 0) z) := by
  have e0 : g5 0 = g 0 := rw_sm_g0 hs
  intro r hr
  rw [va_up_at, e0] at hr
  have er : ∀ j : Nat, j < 29 → s_rule (va_up g5 0 (g5 0 + 1)) r j = s_rule g5 r j := fun j _ => by
    show va_up g5 0 _ (17 + 29 * r + j) = g5 (17 + 29 * r + j)
    exact va_up_off (by omega)
  by_cases c2 : r = g 0
  · rw [c2] at er ⊢
    simp only [x_pt_at]
    exact x_rr_congr er hok.1 hx
  · simp only [x_pt_ne c2]
    exact x_rr_congr (fun j hj => (er j hj).trans (s_rule_sm hs c2 hj)) (hi.1.2.2.2.2.2.1 r (by omega)) (h r (by omega))
theorem rd_r_5 {g : Nat → Nat} {t : Nat} (h : g 0 = 4) : rd_r f m g t = .inl (5, t) := by unfold rd_r; rw [if_pos h]
theorem rd_r_1 {g : Nat → Nat} {t t2 : Nat} (h : ¬ g 0 = 4) (h2 : t2 = tk_nx f m t) (hn : tk_nm f m t2 = false) : rd_r f m g t = .inl (1, t2) := by unfold rd_r; rw [if_neg h, ← h2, if_neg (by rw [hn]; decide)]
theorem rd_r_4 {g : Nat → Nat} {t t2 : Nat} (h : ¬ g 0 = 4) (h2 : t2 = tk_nx f m t) (hn : tk_nm f m t2 = true) (hi : s_nmi f m g t2 < g 0) : rd_r f m g t = .inl (4, t2) := by unfold rd_r; rw [if_neg h, ← h2, if_pos hn, if_pos hi]
theorem rd_r2_1 {r t : Nat} {g : Nat → Nat} {e : Nat × Nat} (h1 : rd_o f m r g t = .inl e) : rd_r2 f m r g t = .inl e := by unfold rd_r2; rw [h1]; rfl
theorem rd_r2_2 {r t t2 : Nat} {g g2 : Nat → Nat} {e : Nat × Nat} (h1 : rd_o f m r g t = .inr (g2, t2)) (h2 : rd_w f m [115, 108, 97, 99, 107] r 18 0 5 g2 t2 = .inl e) : rd_r2 f m r g t = .inl e := by
  unfold rd_r2; rw [rd_bd_r h1, h2]; rfl
theorem rd_r2_3 {r t t2 t3 : Nat} {g g2 g3 : Nat → Nat} {e : Nat × Nat} (h1 : rd_o f m r g t = .inr (g2, t2)) (h2 : rd_w f m [115, 108, 97, 99, 107] r 18 0 5 g2 t2 = .inr (g3, t3)) (h3 : rd_w f m [109, 111, 115, 116] r 19 1 40 g3 t3 = .inl e) : rd_r2 f m r g t = .inl e := by
  unfold rd_r2; rw [rd_bd_r h1, rd_bd_r h2, h3]; rfl
theorem rd_r2_4 {r t t2 t3 t4 : Nat} {g g2 g3 g4 : Nat → Nat} {e : Nat × Nat} (h1 : rd_o f m r g t = .inr (g2, t2)) (h2 : rd_w f m [115, 108, 97, 99, 107] r 18 0 5 g2 t2 = .inr (g3, t3)) (h3 : rd_w f m [109, 111, 115, 116] r 19 1 40 g3 t3 = .inr (g4, t4)) (h4 : rd_bL f m r 5 g4 t4 = .inl e) : rd_r2 f m r g t = .inl e := by
  unfold rd_r2; rw [rd_bd_r h1, rd_bd_r h2, rd_bd_r h3, h4]; rfl
theorem rd_r2_5 {r t t2 t3 t4 t5 : Nat} {g g2 g3 g4 g5 : Nat → Nat} (h1 : rd_o f m r g t = .inr (g2, t2)) (h2 : rd_w f m [115, 108, 97, 99, 107] r 18 0 5 g2 t2 = .inr (g3, t3)) (h3 : rd_w f m [109, 111, 115, 116] r 19 1 40 g3 t3 = .inr (g4, t4)) (h4 : rd_bL f m r 5 g4 t4 = .inr (g5, t5)) : rd_r2 f m r g t = .inr (va_up g5 0 (g5 0 + 1), t5) := by
  unfold rd_r2; rw [rd_bd_r h1, rd_bd_r h2, rd_bd_r h3, rd_bd_r h4]
end
