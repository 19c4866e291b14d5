section
theorem tk_ge2 {f : Nat → Nat} {m t t2 : Nat} (h : t2 = tk_nx f m t) : t ≤ t2 ∧ tk_be f m t ≤ t2 := by
  have h1 := tk_be_ge (f := f) (m := m) (t := t)
  have h2 := tk_st_ge f m (tk_be f m t)
  have h3 : tk_nx f m t = tk_st f m (tk_be f m t) := rfl
  omega
end
