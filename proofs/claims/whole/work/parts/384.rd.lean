section
/-! READING, as both programs read -/
abbrev PR : Type := (Nat × Nat) ⊕ ((Nat → Nat) × Nat)
def rd_bd (p : PR) (k : (Nat → Nat) → Nat → PR) : PR := match p with
  | .inl e => .inl e
  | .inr q => k q.1 q.2
theorem rd_bd_l {p : PR} {k : (Nat → Nat) → Nat → PR} {e : Nat × Nat} (h : p = .inl e) : rd_bd p k = .inl e := by rw [h]; rfl
theorem rd_bd_r {p : PR} {k : (Nat → Nat) → Nat → PR} {g : Nat → Nat} {t : Nat} (h : p = .inr (g, t)) : rd_bd p k = k g t := by rw [h]; rfl
theorem rd_bd_inr {p : PR} {k : (Nat → Nat) → Nat → PR} {q : (Nat → Nat) × Nat} (h : rd_bd p k = .inr q) : ∃ g t, p = .inr (g, t) ∧ k g t = .inr q := by
  cases p with
  | inl e => cases h
  | inr z => exact ⟨z.1, z.2, rfl, h⟩
def tk_nm (f : Nat → Nat) (m t : Nat) : Bool := decide (tk_kd f m t = 1 ∧ tk_be f m t - t ≤ 8)
def tk_wd (f : Nat → Nat) (m t : Nat) (bs : List Nat) : Bool := decide (tk_kd f m t = 1 ∧ tk_be f m t - t = bs.length ∧ ∀ j : Nat, j < bs.length → f (t + j) = bs.getD j 0)
def s_nmeq (f : Nat → Nat) (m : Nat) (g : Nat → Nat) (t r : Nat) : Bool := decide (g (17 + 29 * r) = tk_be f m t - t ∧ ∀ j : Nat, j < tk_be f m t - t → g (17 + 29 * r + 1 + j) = f (t + j) - 97 + 1)
def s_nmi (f : Nat → Nat) (m : Nat) (g : Nat → Nat) (t : Nat) : Nat := s_first (s_nmeq f m g t) (g 0)
def s_pnk (f : Nat → Nat) (g : Nat → Nat) (t r len k : Nat) : Nat → Nat := fun i => if i = 17 + 29 * r then len else if 17 + 29 * r + 1 ≤ i ∧ i < 17 + 29 * r + 1 + k then f (t + (i - (17 + 29 * r + 1))) - 97 + 1 else g i
def s_pnm (f : Nat → Nat) (m : Nat) (g : Nat → Nat) (t r : Nat) : Nat → Nat := s_pnk f g t r (tk_be f m t - t) (tk_be f m t - t)
theorem s_pnk_0 (f g : Nat → Nat) (t r len i : Nat) : va_up g (17 + 29 * r) len i = s_pnk f g t r len 0 i := by
  unfold va_up s_pnk
  by_cases e : i = 17 + 29 * r
  · rw [if_pos e, if_pos e]
  · rw [if_neg e, if_neg e, if_neg (by omega)]
theorem s_pnk_s (f g : Nat → Nat) (t r len k i : Nat) : va_up (s_pnk f g t r len k) (17 + 29 * r + 1 + k) (f (t + k) - 97 + 1) i = s_pnk f g t r len (k + 1) i := by
  unfold va_up s_pnk
  by_cases e : i = 17 + 29 * r + 1 + k
  · rw [if_pos e, if_neg (by omega), if_pos (by omega), show i - (17 + 29 * r + 1) = k by omega]
  · rw [if_neg e]
    by_cases e2 : i = 17 + 29 * r
    · rw [if_pos e2, if_pos e2]
    · rw [if_neg e2, if_neg e2]
      by_cases e3 : 17 + 29 * r + 1 ≤ i ∧ i < 17 + 29 * r + 1 + k
      · rw [if_pos e3, if_pos (by omega)]
      · rw [if_neg e3, if_neg (by omega)]
def s_ins (r x : Nat) : Nat → (Nat → Nat) → (Nat → Nat)
  | 0, g => va_up g (17 + 29 * r + 10) x
  | i + 1, g => if x < g (17 + 29 * r + (10 + i)) then s_ins r x i (va_up g (17 + 29 * r + (10 + (i + 1))) (g (17 + 29 * r + (10 + i)))) else va_up g (17 + 29 * r + (10 + (i + 1))) x
def s_addO (g : Nat → Nat) (r x : Nat) : Nat → Nat := va_up (s_ins r x (s_rule g r 9) g) (17 + 29 * r + 9) (s_rule (s_ins r x (s_rule g r 9) g) r 9 + 1)
def s_addBr (g : Nat → Nat) (r k l : Nat) : Nat → Nat := s_rset (s_rset (s_rset g r (21 + 2 * s_rule g r 20) k) r (21 + 2 * s_rule g r 20 + 1) l) r 20 (s_rule g r 20 + 1)
variable (f : Nat → Nat) (m : Nat)
def rd_oN (r : Nat) (g : Nat → Nat) (t : Nat) : PR := if tk_nc f m t 1 40 = 0 then (if s_only (s_rule g r) (tk_vl f m t) = true then .inl (4, t) else if s_rule g r 9 = 8 then .inl (5, t) else .inr (s_addO g r (tk_vl f m t), tk_nx f m t)) else .inl (tk_nc f m t 1 40, t)
def rd_oL (r : Nat) : Nat → (Nat → Nat) → Nat → PR
  | 0, g, t => .inr (g, t)
  | n + 1, g, t => if tk_kd f m t = 2 then rd_bd (rd_oN f m r g t) (rd_oL r n) else .inr (g, t)
def rd_o (r : Nat) (g : Nat → Nat) (t : Nat) : PR := if tk_wd f m t [111, 110, 108, 121] = true then rd_bd (rd_oN f m r g (tk_nx f m t)) (rd_oL f m r 9) else .inr (g, t)
def rd_w (bs : List Nat) (r j lo hi : Nat) (g : Nat → Nat) (t : Nat) : PR := if tk_wd f m t bs = true then (if tk_nc f m (tk_nx f m t) lo hi = 0 then .inr (va_up g (17 + 29 * r + j) (tk_vl f m (tk_nx f m t)), tk_nx f m (tk_nx f m t)) else .inl (tk_nc f m (tk_nx f m t) lo hi, tk_nx f m t)) else .inr (g, t)
def rd_b2 (r k : Nat) (g : Nat → Nat) (t : Nat) : PR := if tk_nc f m t (if k = 0 then 1 else 0) 40 = 0 then (if s_barred (s_rule g r) k (tk_vl f m t) = true then .inl (4, t) else .inr (s_addBr g r k (tk_vl f m t), tk_nx f m t)) else .inl (tk_nc f m t (if k = 0 then 1 else 0) 40, t)
def rd_b (r : Nat) (g : Nat → Nat) (t : Nat) : PR := if s_rule g r 20 = 4 then .inl (5, t) else if tk_nc f m (tk_nx f m t) 0 40 = 0 then rd_b2 f m r (tk_vl f m (tk_nx f m t)) g (tk_nx f m (tk_nx f m t)) else .inl (tk_nc f m (tk_nx f m t) 0 40, tk_nx f m t)
def rd_bL (r : Nat) : Nat → (Nat → Nat) → Nat → PR
  | 0, g, t => .inr (g, t)
  | n + 1, g, t => if tk_wd f m t [98, 97, 114] = true then rd_bd (rd_b f m r g t) (rd_bL r n) else .inr (g, t)
def rd_new (g : Nat → Nat) (t : Nat) : Nat → Nat := va_up (va_up (s_pnm f m g t (g 0)) (17 + 29 * g 0 + 18) 1) (17 + 29 * g 0 + 19) 40
def rd_r2 (r : Nat) (g : Nat → Nat) (t : Nat) : PR := rd_bd (rd_o f m r g t) fun g2 t2 => rd_bd (rd_w f m [115, 108, 97, 99, 107] r 18 0 5 g2 t2) fun g3 t3 => rd_bd (rd_w f m [109, 111, 115, 116] r 19 1 40 g3 t3) fun g4 t4 => rd_bd (rd_bL f m r 5 g4 t4) fun g5 t5 => .inr (va_up g5 0 (g5 0 + 1), t5)
def rd_r (g : Nat → Nat) (t : Nat) : PR := if g 0 = 4 then .inl (5, t) else if tk_nm f m (tk_nx f m t) = true then (if s_nmi f m g (tk_nx f m t) < g 0 then .inl (4, tk_nx f m t) else rd_r2 f m (g 0) (rd_new f m g (tk_nx f m t)) (tk_nx f m (tk_nx f m t))) else .inl (1, tk_nx f m t)
/-- two numbers -/
def rd_2 (a b c d : Nat) (k : Nat → Nat → (Nat → Nat)) (t : Nat) : PR := if tk_nc f m t a b = 0 then (if tk_nc f m (tk_nx f m t) c d = 0 then .inr (k (tk_vl f m t) (tk_vl f m (tk_nx f m t)), tk_nx f m (tk_nx f m t)) else .inl (tk_nc f m (tk_nx f m t) c d, tk_nx f m t)) else .inl (tk_nc f m t a b, t)
def rd_d (g : Nat → Nat) (t : Nat) : PR := if g 1 = 4 then .inl (5, t) else if tk_nm f m (tk_nx f m t) = true then (if s_nmi f m g (tk_nx f m t) < g 0 then rd_2 f m 0 40 0 40 (fun x y => s_addB g (s_nmi f m g (tk_nx f m t)) x y) (tk_nx f m (tk_nx f m t)) else .inl (3, tk_nx f m t)) else .inl (1, tk_nx f m t)
def rd_s (g : Nat → Nat) (t : Nat) : PR := if g 2 = 4 then .inl (5, t) else rd_2 f m 0 60 1 9 (fun x y => s_addS g x y) (tk_nx f m t)
def rd_f (u : Nat) (g : Nat → Nat) (t : Nat) : PR := if u = 1 then .inl (4, t) else if tk_nc f m (tk_nx f m t) 0 1 = 0 then .inr (va_up g 3 (tk_vl f m (tk_nx f m t)), tk_nx f m (tk_nx f m t)) else .inl (tk_nc f m (tk_nx f m t) 0 1, tk_nx f m t)
def rd_m (u : Nat) (g : Nat → Nat) (t : Nat) : PR := if tk_wd f m t [114, 117, 108, 101] = true then rd_r f m g t else if tk_wd f m t [98, 111, 97, 114, 100] = true then rd_d f m g t else if tk_wd f m t [115, 116, 105, 99, 107] = true then rd_s f m g t else if tk_wd f m t [102, 105, 114, 115, 116] = true then rd_f f m u g t else .inl (1, t)
def rd_u (u t : Nat) : Nat := if tk_wd f m t [102, 105, 114, 115, 116] = true then 1 else u
def rd_t : Nat → Nat → (Nat → Nat) → Nat → PR
  | 0, _, g, t => .inr (g, t)
  | n + 1, u, g, t => if tk_kd f m t = 0 then (if 0 < g 0 then .inr (g, t) else .inl (1, t)) else rd_bd (rd_m f m u g t) fun g2 t2 => if tk_kd f m t2 = 3 then rd_t n (rd_u f m u t) g2 (tk_nx f m t2) else .inl (1, t2)
def rd_g0 : Nat → Nat := fun i => if i = 5 then 1 else 0
def rd_all : PR := rd_t f m (m + 1) 0 rd_g0 (tk_st f m 0)
end
