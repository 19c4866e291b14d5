section
variable {G : GL} {K : KC} {Q : State → Prop} {kc ks : Nat} {ex : Bool} {n : Nat} {pc : Nat} {ls : List (Option Value)} {st : List Value} {σ : Nat → va_E} {own : String} {b : ByteArray} {nL : Nat} {ret : Option FieldType} {R : Room} {hh : List (Nat × Nat × Nat × Nat)}
theorem A_nreturn {mc ms : Nat} {ty : FieldType} {QR : Option Value → Nat → (Nat → va_E) → Prop} {QX : String → (Nat → va_E) → Prop} (g : Gd G K own b nL ret R hh) (hc : kc ≤ mc) (hs : ks ≤ ms) {v : Int32} (hr : ret = some ty) (hn : narrow ty (.int v) = .int v) (d : decode b pc = .ok (.ireturn, 1)) (hq : QR (some (.int v)) n σ) : AJ G K (q_Q G K ex n mc ms QR QX) kc ks ex n pc ls [.int v] σ := fun lsA H locs h1 h2 h3 h4 => by
  refine W.widen hc hs (vx_ret ?_)
  exact W.zret g.1 g.2.1 (g.2.2.2.1.trans hr) hn (fun t ht hW => ⟨(some (.int v)), n, σ, rfl, hq, by rw [ht]; exact q_low g.2.2.2.2.2.2.1 g.2.2.2.2.2.2.2.1 h4, by rw [ht]; exact h2, by rw [ht]; exact h3⟩) h4.2.2 d g.2.2.2.2.1
theorem q_giv (h : q_Ok G) : ∃ b : Addr, (∀ w ∈ lw_tbl, w.before #[Value.ref b] (q_0 G) = true) ∧ ∀ c ∈ flatC (Jvm.Cond.and given_1 narrow_1), c.before #[Value.ref b] (q_0 G) = true := by
  obtain ⟨-, -, ⟨b, hw, hg⟩, -⟩ := h
  exact ⟨b, hw, flat_of_before _ hg⟩
theorem q_hA0 (h : q_Ok G) : ∀ a : Nat, a < (q_0 G).heap.size → ¬ q_A G a := fun a ha z => by
  have e := h.2.1
  have z2 : q_h G ≤ a := z
  omega
theorem q_compact (h : q_Ok G) : q_oZ G "java/lang/String" "COMPACT_STRINGS" "Z" (.int 1) := by
  obtain ⟨b, hw, hg⟩ := q_giv h
  exact va_Zof (hw _ (q_mt 370 (by decide +kernel))) (hw _ (q_mt 13 (by decide +kernel))) (va_eqi (hg (Cond.eq (.static "java/lang/String" "COMPACT_STRINGS" "Z") (.int 1)) (by decide +kernel))) (q_hA0 h)
theorem q_sioobe (h : q_Ok G) : ∃ v : Value, q_oZ G "jdk/internal/util/Preconditions" "SIOOBE_FORMATTER" "Ljava/util/function/BiFunction;" v ∧ v.category = 1 := by
  obtain ⟨b, hw, hg⟩ := q_giv h
  have z := va_Zqof (A := q_A G) (hw (Cond.laysStatic "jdk/internal/util/Preconditions" "SIOOBE_FORMATTER" "Ljava/util/function/BiFunction;") (q_mt 386 (by decide +kernel))) (hw (Cond.initialized "jdk/internal/util/Preconditions") (q_mt 15 (by decide +kernel))) (hg (Cond.isRef (.static "jdk/internal/util/Preconditions" "SIOOBE_FORMATTER" "Ljava/util/function/BiFunction;")) (by decide +kernel)) (q_hA0 h)
  rcases z with z | ⟨t, z⟩
  · exact ⟨_, z, rfl⟩
  · exact ⟨_, z, rfl⟩
end
