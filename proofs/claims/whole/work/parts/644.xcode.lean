/-! THE CODES of refused texts are at most 5 -/
section
variable {f : Nat → Nat} {m : Nat}
def x_rc (p : PR) : Prop := ∀ c o : Nat, p = .inl (c, o) → c ≤ 5
theorem x_rc_l {c o : Nat} (h : c ≤ 5) : x_rc (.inl (c, o)) := fun c' o' e => by cases e; exact h
theorem x_rc_r {q : (Nat → Nat) × Nat} : x_rc (.inr q) := fun _ _ e => by cases e
theorem x_rc_if {p q : PR} {b : Prop} [Decidable b] (h1 : x_rc p) (h2 : x_rc q) : x_rc (if b then p else q) := by
  by_cases h : b
  · rw [if_pos h]; exact h1
  · rw [if_neg h]; exact h2
theorem x_rc_bd {p : PR} {k : (Nat → Nat) → Nat → PR} (h1 : x_rc p) (h2 : ∀ g t, x_rc (k g t)) : x_rc (rd_bd p k) := by
  cases p with
  | inl e => exact h1
  | inr q => exact h2 q.1 q.2
theorem x_nc_le (t lo hi : Nat) : tk_nc f m t lo hi ≤ 5 := by unfold tk_nc; split <;> (try split) <;> omega
theorem x_rc_oN (r : Nat) (g : Nat → Nat) (t : Nat) : x_rc (rd_oN f m r g t) := by
  unfold rd_oN; exact x_rc_if (x_rc_if (x_rc_l (by omega)) (x_rc_if (x_rc_l (by omega)) x_rc_r)) (x_rc_l (x_nc_le _ _ _))
theorem x_rc_oL (r : Nat) : ∀ (n : Nat) (g : Nat → Nat) (t : Nat), x_rc (rd_oL f m r n g t)
  | 0, _, _ => x_rc_r
  | n + 1, g, t => x_rc_if (x_rc_bd (x_rc_oN r g t) (fun g t => x_rc_oL r n g t)) x_rc_r
theorem x_rc_o (r : Nat) (g : Nat → Nat) (t : Nat) : x_rc (rd_o f m r g t) := by
  unfold rd_o; exact x_rc_if (x_rc_bd (x_rc_oN r g _) (fun g t => x_rc_oL r 9 g t)) x_rc_r
theorem x_rc_w (bs : List Nat) (r j lo hi : Nat) (g : Nat → Nat) (t : Nat) : x_rc (rd_w f m bs r j lo hi g t) := by
  unfold rd_w; exact x_rc_if (x_rc_if x_rc_r (x_rc_l (x_nc_le _ _ _))) x_rc_r
theorem x_rc_b2 (r k : Nat) (g : Nat → Nat) (t : Nat) : x_rc (rd_b2 f m r k g t) := by
  unfold rd_b2; exact x_rc_if (x_rc_if (x_rc_l (by omega)) x_rc_r) (x_rc_l (x_nc_le _ _ _))
theorem x_rc_b (r : Nat) (g : Nat → Nat) (t : Nat) : x_rc (rd_b f m r g t) := by
  unfold rd_b; exact x_rc_if (x_rc_l (by omega)) (x_rc_if (x_rc_b2 _ _ _ _) (x_rc_l (x_nc_le _ _ _)))
theorem x_rc_bL (r : Nat) : ∀ (n : Nat) (g : Nat → Nat) (t : Nat), x_rc (rd_bL f m r n g t)
  | 0, _, _ => x_rc_r
  | n + 1, g, t => x_rc_if (x_rc_bd (x_rc_b r g t) (fun g t => x_rc_bL r n g t)) x_rc_r
theorem x_rc_r2 (r : Nat) (g : Nat → Nat) (t : Nat) : x_rc (rd_r2 f m r g t) := by
  unfold rd_r2; exact x_rc_bd (x_rc_o _ _ _) (fun _ _ => x_rc_bd (x_rc_w _ _ _ _ _ _ _) (fun _ _ => x_rc_bd (x_rc_w _ _ _ _ _ _ _) (fun _ _ => x_rc_bd (x_rc_bL _ _ _ _) (fun _ _ => x_rc_r))))
theorem x_rc_rule (g : Nat → Nat) (t : Nat) : x_rc (rd_r f m g t) := by
  unfold rd_r; exact x_rc_if (x_rc_l (by omega)) (x_rc_if (x_rc_if (x_rc_l (by omega)) (x_rc_r2 _ _ _)) (x_rc_l (by omega)))
theorem x_rc_2 (a b c d : Nat) (k : Nat → Nat → (Nat → Nat)) (t : Nat) : x_rc (rd_2 f m a b c d k t) := by
  unfold rd_2; exact x_rc_if (x_rc_if x_rc_r (x_rc_l (x_nc_le _ _ _))) (x_rc_l (x_nc_le _ _ _))
theorem x_rc_m (u : Nat) (g : Nat → Nat) (t : Nat) : x_rc (rd_m f m u g t) := by
  unfold rd_m
  refine x_rc_if (x_rc_rule _ _) (x_rc_if ?_ (x_rc_if ?_ (x_rc_if ?_ (x_rc_l (by omega)))))
  · unfold rd_d; exact x_rc_if (x_rc_l (by omega)) (x_rc_if (x_rc_if (x_rc_2 _ _ _ _ _ _) (x_rc_l (by omega))) (x_rc_l (by omega)))
  · unfold rd_s; exact x_rc_if (x_rc_l (by omega)) (x_rc_2 _ _ _ _ _ _)
  · unfold rd_f; exact x_rc_if (x_rc_l (by omega)) (x_rc_if x_rc_r (x_rc_l (x_nc_le _ _ _)))
theorem x_rc_t : ∀ (n u : Nat) (g : Nat → Nat) (t : Nat), x_rc (rd_t f m (n + 1) u g t)
  | n, u, g, t => by
    by_cases h : tk_kd f m t = 0
    · rw [rd_t_n h]; exact x_rc_if x_rc_r (x_rc_l (by omega))
    · rw [rd_t_s h]
      refine x_rc_bd (x_rc_m _ _ _) (fun g2 t2 => x_rc_if ?_ (x_rc_l (by omega)))
      cases n with
      | zero => intro c o e; unfold rd_t at e; cases e
      | succ n => exact x_rc_t n _ _ _
theorem x_rc_all {c o : Nat} (h : rd_all f m = .inl (c, o)) : c ≤ 5 := x_rc_t m 0 rd_g0 _ c o h
end
