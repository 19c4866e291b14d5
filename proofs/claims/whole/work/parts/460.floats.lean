section
theorem q_ldcwF {p : Program} {l : Launch} {e : Env} {R : Room} {s : State} {m : MethodId} {args : Array Value} {below : List Frame} {meth : Method} {c : Code} {T : State} {locs : List Loc} {cells slots : Nat}
    (X : Stand p l e R s m args below meth c T locs cells slots) (hexec : p.tables.exec = Jvm.exec) {own : String} {index : Nat} {v : UInt32} (hown : s.vm.findClass own = some m.cls)
    (hconst : (Cond.constantFloat own index v).before args s = true) {g : JFrame} (hg : g.method = m) (hdg : decode c.code g.pc = .ok (.ldc_w index, 3)) :
    ∀ target, Steps p.tables e below (T.setTop { g with pc := g.pc + 3, stack := .float v :: g.stack }) target → Steps p.tables e below (T.setTop g) target := by
  obtain ⟨k, cf, hk, hcf, hcp⟩ := Cond.constantFloat_spec hown hconst
  obtain ⟨k', hk', he⟩ := X.warmed.alike.2.2 _ _ hk
  intro target hrest
  subst hg
  jvm_step X.here [hexec, hdg, ldc_w.wp_float (s := T) (f := g) X.here.top hk' (by rw [he]; exact hcf) hcp]
  exact hrest
variable {G : GL} {K : KC} {Q : State → Prop} {kc ks : Nat} {ex : Bool} {n : Nat} {pc : Nat} {ls : List (Option Value)} {st : List Value} {σ : Nat → va_E} {own : String} {b : ByteArray} {nL : Nat} {ret : Option FieldType} {R : Room} {hh : List (Nat × Nat × Nat × Nat)}
theorem A_ldcwF (g : Gd G K own b nL ret R hh) {ix : Nat} {v : UInt32} (d : decode b pc = .ok (.ldc_w ix, 3)) (hm : Cond.constantFloat own ix v ∈ lw_tbl) (k : AJ G K Q kc ks ex n (pc + 3) ls (.float v :: st) σ) : AJ G K Q kc ks ex n pc ls st σ := by
  intro lsA H locs h1 h2 h3 h4 T hT X
  obtain ⟨t, a1, b1⟩ := k lsA H locs h1 h2 h3 h4 T hT X
  exact ⟨t, q_ldcwF X g.1 g.2.2.2.2.2.1 (q_word g.2.2.2.2.2.2.1 hm rfl _) (g := F0 (k_m K) pc lsA st) rfl (by rw [g.2.1]; exact d) t a1, b1⟩
/-- what the division of whole numbers by 1681 gives is a number -/
def q_fdn : Prop := ∀ x : Int32, vf_n32 (FP.fdiv (FP.i2f x) 1154621440)
def q_ddn : Prop := ∀ x : Int32, vf_n64 (FP.ddiv (FP.i2d x) 4655107931631517696)
def s_vsum (u : Nat → Nat) : Nat → Nat
  | 0 => 0
  | p + 1 => s_vsum u p + s_V u p
end
