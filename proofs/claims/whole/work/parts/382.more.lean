section
theorem q_ldcwS {p : Program} {l : Launch} {e : Env} {R : Room} {s : State} {m : MethodId} {args : Array Value} {below : List Frame} {meth : Method} {c : Code} {T : State} {locs : List Loc} {cells slots : Nat}
    (X : Stand p l e R s m args below meth c T locs cells slots) (hexec : p.tables.exec = Jvm.exec) {own text : String} {index : Nat} {a : Addr} (hown : s.vm.findClass own = some m.cls)
    (hconst : (Cond.stringRef own index text).before args s = true) (hev : (Term.string own index).eval args s none [] s = some (.ref a)) {g : JFrame} (hg : g.method = m) (hdg : decode c.code g.pc = .ok (.ldc_w index, 3)) :
    ∀ target, Steps p.tables e below (T.setTop { g with pc := g.pc + 3, stack := .ref a :: g.stack }) target → Steps p.tables e below (T.setTop g) target := by
  obtain ⟨k, cf, i, a', hk, hcf, hcp, -, hr, hev'⟩ := Cond.stringRef_spec hown hconst
  cases hev.symm.trans hev'
  obtain ⟨k', hk', he⟩ := X.warmed.alike.2.2 _ _ hk
  have hr' : k'.resolved[index]? = some (some (.string a)) := by
    rcases X.warmed.entry hk hk' index with h | ⟨h, -⟩
    · rw [h]; exact hr
    · rw [hr] at h; cases h
  intro target hrest
  subst hg
  jvm_step X.here [hexec, hdg, ldc_w.wp_string (e := e) (s := T) (f := g) X.here.top hk' (by rw [he]; exact hcf) hcp hr']
  exact hrest
variable {G : GL} {K : KC} {Q : State → Prop} {kc ks : Nat} {ex : Bool} {n : Nat} {pc : Nat} {ls : List (Option Value)} {st : List Value} {σ : Nat → va_E} {own : String} {b : ByteArray} {nL : Nat} {ret : Option FieldType} {R : Room} {hh : List (Nat × Nat × Nat × Nat)}
theorem A_ldcwS (g : Gd G K own b nL ret R hh) {tx : String} {ix a : Nat} (hr : vk_R own ix tx a (q_0 G)) (dd : decode b pc = .ok (.ldc_w ix, 3))
    (kk : AJ G K Q kc ks ex n (pc + 3) ls (.ref a :: st) σ) : AJ G K Q kc ks ex n pc ls st σ := by
  intro lsA H locs h1 h2 h3 h4 T hT X
  have hr2 := vk_R.warm g.2.2.2.2.2.2.1.2.1 hr
  obtain ⟨t, a1, b1⟩ := kk lsA H locs h1 h2 h3 h4 T hT X
  exact ⟨t, q_ldcwS X g.1 g.2.2.2.2.2.1 (text := tx) (a := a) hr2.1 hr2.2 (g := F0 (k_m K) pc lsA st) rfl (by rw [g.2.1]; exact dd) t a1, b1⟩
def s_by (x : Int32) (k : Nat) : Nat := s_nat ((x >>> (nI k &&& 31)) &&& nI 255)
theorem s_by_eq (x : Int32) (k : Nat) : (x >>> (nI k &&& 31)) &&& nI 255 = nI (s_by x k) ∧ s_by x k < 256 := by
  unfold s_by
  obtain ⟨j, hj, e⟩ := pk_andE (x >>> (nI k &&& 31)) (m := 255) 8 (by decide)
  have e2 : (x >>> (nI k &&& 31)) &&& nI 255 = nI j := e
  rw [e2, s_nat_n (by omega)]
  exact ⟨rfl, by omega⟩
def s_apw (f : Nat → Nat) (m : Nat) (x : Int32) : Nat → Nat := va_up (va_up (va_up (va_up f m (s_by x 24)) (m + 1) (s_by x 16)) (m + 2) (s_by x 8)) (m + 3) (s_by x 0)
def s_apI (f : Nat → Nat) (m : Nat) (a b c d e : Int32) : Nat → Nat := s_apw (s_apw (s_apw (s_apw (s_apw f m a) (m + 4) b) (m + 8) c) (m + 12) d) (m + 16) e
def tk_nc (f : Nat → Nat) (m t lo hi : Nat) : Nat := if tk_kd f m t = 2 ∧ tk_be f m t - t ≤ 3 then (if lo ≤ tk_vl f m t ∧ tk_vl f m t ≤ hi then 0 else 2) else 1
end
section
theorem tk_hall {P : Nat → Bool} {k k1 : Nat} (h : ∀ j : Nat, k ≤ j → j < k1 → P j = true) (hp : P k1 = true) : ∀ j : Nat, k ≤ j → j < k1 + 1 → P j = true := by
  intro j h1 h2
  by_cases e : j = k1
  · rw [e]; exact hp
  · exact h j h1 (by omega)
theorem tk_dv_t {f : Nat → Nat} {k1 k2 : Nat} (h : k1 ≤ k2) (h2 : k2 - k1 < 3) : tk_dv f k1 (k2 + 1 - k1) = 10 * tk_dv f k1 (k2 - k1) + f k2 - 48 := by
  rw [show k2 + 1 - k1 = (k2 - k1) + 1 by omega]
  show (if k2 - k1 < 3 then 10 * tk_dv f k1 (k2 - k1) + f (k1 + (k2 - k1)) - 48 else tk_dv f k1 (k2 - k1)) = _
  rw [if_pos h2, show k1 + (k2 - k1) = k2 by omega]
theorem tk_dv_f {f : Nat → Nat} {k1 k2 : Nat} (h : k1 ≤ k2) (h2 : ¬ k2 - k1 < 3) : tk_dv f k1 (k2 + 1 - k1) = tk_dv f k1 (k2 - k1) := by
  rw [show k2 + 1 - k1 = (k2 - k1) + 1 by omega]
  show (if k2 - k1 < 3 then 10 * tk_dv f k1 (k2 - k1) + f (k1 + (k2 - k1)) - 48 else tk_dv f k1 (k2 - k1)) = _
  rw [if_neg h2]
end
