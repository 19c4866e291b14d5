section
variable {f : Nat → Nat} {m : Nat}
theorem rd_o_1 {r t t2 : Nat} {g : Nat → Nat} {e : Nat × Nat} (h : tk_wd f m t [111, 110, 108, 121] = true) (h2 : t2 = tk_nx f m t) (hR : rd_oN f m r g t2 = .inl e) : rd_o f m r g t = .inl e := by
  unfold rd_o
  rw [if_pos h, ← h2, hR]; rfl
theorem rd_o_2 {r t t2 t3 : Nat} {g g2 : Nat → Nat} (h : tk_wd f m t [111, 110, 108, 121] = true) (h2 : t2 = tk_nx f m t) (hR : rd_oN f m r g t2 = .inr (g2, t3)) : rd_o f m r g t = rd_oL f m r 9 g2 t3 := by
  unfold rd_o
  rw [if_pos h, ← h2, hR]; rfl
theorem x_wd_no {t : Nat} {bs : List Nat} (h : ¬ tk_kd f m t = 1) : tk_wd f m t bs = false := tk_wd_f1 (fun z => h z.1)
theorem rd_w_no {bs : List Nat} {r j lo hi t : Nat} {g : Nat → Nat} (h : tk_wd f m t bs = false) : rd_w f m bs r j lo hi g t = .inr (g, t) := by
  unfold rd_w; rw [if_neg (by rw [h]; decide)]
theorem rd_w_e {bs : List Nat} {r j lo hi t t2 : Nat} {g : Nat → Nat} (h : tk_wd f m t bs = true) (h2 : t2 = tk_nx f m t) (hn : ¬ tk_nc f m t2 lo hi = 0) : rd_w f m bs r j lo hi g t = .inl (tk_nc f m t2 lo hi, t2) := by
  unfold rd_w; rw [if_pos h, ← h2, if_neg hn]
theorem rd_w_t {bs : List Nat} {r j lo hi t t2 t3 : Nat} {g : Nat → Nat} (h : tk_wd f m t bs = true) (h2 : t2 = tk_nx f m t) (hn : tk_nc f m t2 lo hi = 0) (h3 : t3 = tk_nx f m t2) : rd_w f m bs r j lo hi g t = .inr (va_up g (17 + 29 * r + j) (tk_vl f m t2), t3) := by
  unfold rd_w; rw [if_pos h, ← h2, if_pos hn, ← h3]
theorem s_rule_up {g : Nat → Nat} {r j v i : Nat} : s_rule (va_up g (17 + 29 * r + j) v) r i = if i = j then v else s_rule g r i := by
  show va_up g (17 + 29 * r + j) v (17 + 29 * r + i) = _
  by_cases e : i = j
  · rw [e, if_pos rfl]; exact va_up_at
  · rw [if_neg e]; exact va_up_off (by omega)
/-- the second number of a bar, when it isn't one at all -/
theorem x_nc_k {t k : Nat} (h : ¬ tk_nc f m t 0 40 = 0) : tk_nc f m t (if k = 0 then 1 else 0) 40 = tk_nc f m t 0 40 := by
  rw [x_nc, x_nc] at *
  by_cases c : x_kd f m t = 2
  · rw [if_pos c] at *
    by_cases c2 : 0 ≤ tk_vl f m t ∧ tk_vl f m t ≤ 40
    · rw [if_pos c2] at h; exact absurd rfl h
    · rw [if_neg c2, if_neg (by omega), if_pos c]
  · rw [if_neg c, if_neg c]
theorem x_nc_00 {t k : Nat} (h : tk_nc f m t 0 40 = 0) (hk : k = 0) (hl : tk_vl f m t = 0) : tk_nc f m t (if k = 0 then 1 else 0) 40 = 2 := by
  rw [if_pos hk]
  rw [x_nc] at *
  by_cases c : x_kd f m t = 2
  · rw [if_pos c, if_neg (by omega)]
  · rw [if_neg c] at h; cases h
theorem x_nc_kl {t k : Nat} (h : tk_nc f m t 0 40 = 0) (hk : ¬ k = 0 ∨ ¬ tk_vl f m t = 0) : tk_nc f m t (if k = 0 then 1 else 0) 40 = 0 := by
  have hv := tk_nc_v h
  rw [x_nc] at *
  by_cases c : x_kd f m t = 2
  · rw [if_pos c]
    by_cases c2 : k = 0
    · rw [if_pos c2, if_pos (by omega)]
    · rw [if_neg c2, if_pos (by omega)]
  · rw [if_neg c] at h; cases h
theorem rd_b_1 {r t : Nat} {g : Nat → Nat} (h : s_rule g r 20 = 4) : rd_b f m r g t = .inl (5, t) := by unfold rd_b; rw [if_pos h]
theorem rd_b_2 {r t t2 : Nat} {g : Nat → Nat} (h : ¬ s_rule g r 20 = 4) (h2 : t2 = tk_nx f m t) (hn : ¬ tk_nc f m t2 0 40 = 0) : rd_b f m r g t = .inl (tk_nc f m t2 0 40, t2) := by unfold rd_b; rw [if_neg h, ← h2, if_neg hn]
theorem rd_b_3 {r t t2 t3 : Nat} {g : Nat → Nat} (h : ¬ s_rule g r 20 = 4) (h2 : t2 = tk_nx f m t) (hn : tk_nc f m t2 0 40 = 0) (h3 : t3 = tk_nx f m t2) : rd_b f m r g t = rd_b2 f m r (tk_vl f m t2) g t3 := by unfold rd_b; rw [if_neg h, ← h2, if_pos hn, ← h3]
theorem rd_b2_1 {r t k : Nat} {g : Nat → Nat} (hn : ¬ tk_nc f m t (if k = 0 then 1 else 0) 40 = 0) : rd_b2 f m r k g t = .inl (tk_nc f m t (if k = 0 then 1 else 0) 40, t) := by unfold rd_b2; rw [if_neg hn]
theorem rd_b2_2 {r t k : Nat} {g : Nat → Nat} (hn : tk_nc f m t (if k = 0 then 1 else 0) 40 = 0) (hb : s_barred (s_rule g r) k (tk_vl f m t) = true) : rd_b2 f m r k g t = .inl (4, t) := by unfold rd_b2; rw [if_pos hn, if_pos hb]
theorem rd_b2_3 {r t t2 k : Nat} {g : Nat → Nat} (hn : tk_nc f m t (if k = 0 then 1 else 0) 40 = 0) (hb : s_barred (s_rule g r) k (tk_vl f m t) = false) (h2 : t2 = tk_nx f m t) : rd_b2 f m r k g t = .inr (s_addBr g r k (tk_vl f m t), t2) := by unfold rd_b2; rw [if_pos hn, if_neg (by rw [hb]; decide), ← h2]
theorem x_on_congr {u w : Nat → Nat} {on : Nat} (e : ∀ j : Nat, 9 ≤ j → j < 18 → w j = u j) (h9 : u 9 ≤ 8) (h : x_on u on) : x_on w on := by
  obtain ⟨o1, o2, o3⟩ := h
  have e9 := e 9 (by decide) (by decide)
  refine ⟨o1, fun x hx => ?_, by omega⟩
  rw [o2 x hx]
  unfold s_only
  rw [e9]
  unfold s_any
  rw [s_first_congr (q := fun i => w (10 + i) == x) (fun j hj => by show (u (10 + j) == x) = (w (10 + j) == x); rw [e (10 + j) (by omega) (by omega)])]
theorem x_os_congr {u w : Nat → Nat} (e : ∀ j : Nat, 9 ≤ j → j < 18 → w j = u j) (h9 : u 9 ≤ 8) (h : x_os u) : x_os w := by
  obtain ⟨s1, s2⟩ := h
  have e9 := e 9 (by decide) (by decide)
  refine ⟨fun i hi => ?_, fun i j h1 h2 => ?_⟩
  · rw [e (10 + i) (by omega) (by omega)]; exact s1 i (by omega)
  · rw [e (10 + i) (by omega) (by omega), e (10 + j) (by omega) (by omega)]; exact s2 i j h1 (by omega)
end
section
theorem tk_nc_lt (f : Nat → Nat) (m t lo hi : Nat) : tk_nc f m t lo hi < 3 := by
  unfold tk_nc
  repeat' split
  all_goals decide
end
