section
/-! STRINGS: constants that lie below hs, and statics -/
variable {G : GL} {K : KC} {Q : State → Prop} {kc ks : Nat} {ex : Bool} {n : Nat} {pc : Nat} {ls : List (Option Value)} {st : List Value} {σ : Nat → va_E} {own : String} {b : ByteArray} {nL : Nat} {ret : Option FieldType} {R : Room} {hh : List (Nat × Nat × Nat × Nat)}
theorem q_hk {s : State} (X : q_Xt G s) : ∀ a : Nat, a < (q_0 G).heap.size → ¬ q_A G a → s.heap[a]? = (q_0 G).heap[a]? := fun a _ h => X.2.2 a (Nat.not_le.mp h)
def q_oZ (G : GL) (C m d : String) (v : Value) : Prop := va_Z C m d v (q_A G) (q_0 G) (q_0 G).heap
def q_oF (G : GL) (o m d : String) (v : Value) (a : Nat) : Prop := va_OF o m d v a (q_A G) (q_0 G) (q_0 G).heap
def q_oO (G : GL) (E : String) (a : Nat) : Prop := va_O E a (q_A G) (q_0 G) (q_0 G).heap
def q_oT (G : GL) (ty : FieldType) (t N : Nat) (f : Nat → Value) : Prop := va_T ty t N f (q_A G) (q_0 G) (q_0 G).heap
theorem A_gets (g : Gd G K own b nL ret R hh) {C m d : String} {v : Value} {ix : Nat} (hZ : q_oZ G C m d v) (hl : Cond.fieldLink own ix C m d ∈ lw_tbl) (dd : decode b pc = .ok (.getstatic ix, 3))
    (kk : AJ G K Q kc ks ex n (pc + 3) ls (v :: st) σ) : AJ G K Q kc ks ex n pc ls st σ := by
  intro lsA H locs h1 h2 h3 h4
  have X := g.2.2.2.2.2.2.1
  exact va_gets g.1 g.2.1 (va_Z.kept (va_Z.moved X.2.1.alike hZ) (q_hk X)) h4 g.2.2.2.2.2.1 (q_word X hl rfl _) (fun _ h => h) dd (kk lsA H locs h1 h2 h3 h4)
theorem A_getO (g : Gd G K own b nL ret R hh) {o m d : String} {v : Value} {ix a : Nat} (hE : q_oF G o m d v a) (hl : Cond.fieldLink own ix o m d ∈ lw_tbl) (dd : decode b pc = .ok (.getfield ix, 3))
    (kk : AJ G K Q kc ks ex n (pc + 3) ls (v :: st) σ) : AJ G K Q kc ks ex n pc ls (.ref a :: st) σ := by
  intro lsA H locs h1 h2 h3 h4
  have X := g.2.2.2.2.2.2.1
  exact vk_getf g.1 g.2.1 (va_OF.kept (va_OF.moved X.2.1.alike hE) (q_hk X)) h4 g.2.2.2.2.2.1 (q_word X hl rfl _) (fun _ h => h) dd (kk lsA H locs h1 h2 h3 h4)
theorem A_alenO (g : Gd G K own b nL ret R hh) {ty : FieldType} {t N : Nat} {f : Nat → Value} (hT : q_oT G ty t N f) (dd : decode b pc = .ok (.arraylength, 1))
    (kk : AJ G K Q kc ks ex n (pc + 1) ls (.int (nI N) :: st) σ) : AJ G K Q kc ks ex n pc ls (.ref t :: st) σ := by
  intro lsA H locs h1 h2 h3 h4
  have X := g.2.2.2.2.2.2.1
  obtain ⟨cell, q1, q2, q3, q4, q5, q6, q7⟩ := va_T.kept (va_T.moved X.2.1.alike hT) (q_hk X)
  exact W.alen g.1 g.2.1 (by rw [h4.2.1 t (Array.getElem?_eq_some_iff.mp q1).1 q7]; exact q1) q2 q5 rfl rfl dd (kk lsA H locs h1 h2 h3 h4)
theorem A_baldO (g : Gd G K own b nL ret R hh) {t N j : Nat} {f : Nat → Value} {v : Value} (hT : q_oT G .byte t N f) (hj : j < N) (hN : N < 2 ^ 31) (hv : f j = v) (dd : decode b pc = .ok (.baload, 1))
    (kk : AJ G K Q kc ks ex n (pc + 1) ls (v :: st) σ) : AJ G K Q kc ks ex n pc ls (.int (nI j) :: .ref t :: st) σ := by
  intro lsA H locs h1 h2 h3 h4
  have X := g.2.2.2.2.2.2.1
  exact va_tb g.1 g.2.1 (va_T.kept (va_T.moved X.2.1.alike hT) (q_hk X)) h4 (vp_in_nI hj hN) (by rw [nI_clamp (Nat.lt_trans hj hN)]; exact hv) dd (kk lsA H locs h1 h2 h3 h4)
theorem A_ialdO (g : Gd G K own b nL ret R hh) {t N j : Nat} {f : Nat → Value} {v : Value} (hT : q_oT G .int t N f) (hj : j < N) (hN : N < 2 ^ 31) (hv : f j = v) (dd : decode b pc = .ok (.iaload, 1))
    (kk : AJ G K Q kc ks ex n (pc + 1) ls (v :: st) σ) : AJ G K Q kc ks ex n pc ls (.int (nI j) :: .ref t :: st) σ := by
  intro lsA H locs h1 h2 h3 h4
  have X := g.2.2.2.2.2.2.1
  exact va_ti g.1 g.2.1 (va_T.kept (va_T.moved X.2.1.alike hT) (q_hk X)) h4 (vp_in_nI hj hN) (by rw [nI_clamp (Nat.lt_trans hj hN)]; exact hv) dd (kk lsA H locs h1 h2 h3 h4)
theorem A_ldcS (g : Gd G K own b nL ret R hh) {tx : String} {ix a : Nat} (hr : vk_R own ix tx a (q_0 G)) (dd : decode b pc = .ok (.ldc ix, 2))
    (kk : AJ G K Q kc ks ex n (pc + 2) ls (.ref a :: st) σ) : AJ G K Q kc ks ex n pc ls st σ := by
  intro lsA H locs h1 h2 h3 h4
  have X := g.2.2.2.2.2.2.1
  exact va_ldcS g.1 g.2.1 g.2.2.2.2.2.1 (vk_R.warm X.2.1 hr) dd (kk lsA H locs h1 h2 h3 h4)
variable {y : MethodName} {cb : ByteArray} {cL ix na : Nat} {cret : Option FieldType} {rm : Room} {As rest : List Value} {QR : Option Value → Nat → (Nat → va_E) → Prop} {QX : String → (Nat → va_E) → Prop}
theorem q_recvO {s : State} {H : Heap} {locs : List Loc} {E : String} {a : Nat} (X : q_Xt G s) (hO : q_oO G E a) (h4 : va_S (q_A G) s.heap H locs) : ∃ cellB : Cell, H[a]? = some cellB ∧ cellB.vm.isStatics = false ∧ s.vm.findClass E = some cellB.cls := by
  obtain ⟨cell, q1, q2, q3, q4⟩ := va_O.kept (va_O.moved X.2.1.alike hO) (q_hk X)
  exact ⟨cell, by rw [h4.2.1 a (Array.getElem?_eq_some_iff.mp q1).1 q4]; exact q1, q2, q3⟩
/-- a call of a method of an object that lies below hs -/
theorem A_callVO (g : Gd G K own b nL ret R hh) {E : String} {a : Nat} (lk : q_lk own ix y cb cL cret na) (hin : Cond.instanceMethod y ∈ lw_tbl) (hse : Cond.selects E y y ∈ lw_tbl) (d : decode b pc = .ok (.invokevirtual ix, 3)) (hR : q_rm rm R cL) (hf : kc + rm.cells ≤ R.cells ∧ ks + rm.slots ≤ R.slots) (ho : q_oO G E a) (hst : st = As.reverse ++ .ref a :: rest) (hna : As.length = na) (hcat : (rest.map fun v => v.category).sum ≤ 8)
    (hC : CtN G y cb cL cret rm (.ref a :: As) ex n σ QR QX)
    (kx : ∀ (E : String) (σ' : Nat → va_E), QX E σ' → AX G K Q (kc + rm.cells) (ks + rm.slots) n pc ls rest σ' E)
    (kk : ∀ (v : Option Value) (n' : Nat) (σ' : Nat → va_E), QR v n' σ' → AJ G K Q (kc + rm.cells) (ks + rm.slots) ex n' (pc + 3) ls (v.toList ++ rest) σ') : AJ G K Q kc ks ex n pc ls st σ := by
  have X := g.2.2.2.2.2.2.1
  have hRe := g.2.2.2.2.2.2.2.2.1
  refine A_run g (a := (Value.ref a :: As).toArray) (fun lsA H locs h1 h2 h3 h4 => ?_) kx kk
  have hp := q_pre (av := .ref a :: As) X g.2.2.2.2.2.2.2.1 h2 h3 h4
  rcases lk.1 with hl | ⟨host, hl⟩
  · exact vx_runV (nL := nL) (Ts := []) ⟨g.1, g.2.1, g.2.2.1, g.2.2.2.2.2.1, fun _ h => nomatch h⟩ hC ⟨q_callB X hl lk (by rw [hRe]; exact hR), q_word X hin rfl _, q_word X hse rfl _⟩ ⟨hp.1, q_recvO X ho h4, hp.2⟩ rfl hna (h1.1.trans g.2.2.1) hst (lv_room hcat) d (by rw [hRe]; exact hf)
  · exact vx_runVN (nL := nL) (Ts := []) (host := host) ⟨g.1, g.2.1, g.2.2.1, g.2.2.2.2.2.1, fun _ h => nomatch h⟩ hC ⟨q_callN X hl lk (by rw [hRe]; exact hR), q_word X hin rfl _, q_word X hse rfl _⟩ ⟨hp.1, q_recvO X ho h4, hp.2⟩ rfl hna (h1.1.trans g.2.2.1) hst (lv_room hcat) d (by rw [hRe]; exact hf)
theorem A_eVO {kc2 ks2 : Nat} (g : Gd G K own b nL ret R hh) {rv : Value} {E : String} {a : Nat} (lk : q_lk own ix y cb cL cret na) (hin : Cond.instanceMethod y ∈ lw_tbl) (hse : Cond.selects E y y ∈ lw_tbl) (d : decode b pc = .ok (.invokevirtual ix, 3)) (hR : q_rm rm R cL) (e1 : kc + rm.cells = kc2) (e2 : ks + rm.slots = ks2) (hf : kc2 ≤ R.cells ∧ ks2 ≤ R.slots) (ho : q_oO G E a) (hst : st = As.reverse ++ .ref a :: rest) (hna : As.length = na) (hcat : (rest.map fun v => v.category).sum ≤ 8) (hC : Ct G y cb cL cret rm (.ref a :: As) ex n σ (fun v σ2 => σ2 = σ ∧ v = some rv)) (kk : AJ G K Q kc2 ks2 ex n (pc + 3) ls (rv :: rest) σ) : AJ G K Q kc ks ex n pc ls st σ := by
  subst e1; subst e2
  exact A_callVO g lk hin hse d hR hf ho hst hna hcat hC q_nx (fun v n2 σ2 h => by obtain ⟨rfl, h⟩ := h; obtain ⟨rfl, rfl⟩ := h; exact kk)
end
section
/-- a string constant at a: its bytes -/
def q_st (G : GL) (a : Nat) (bs : List Nat) : Prop := (∃ v : Nat, q_oO G "java/lang/String" a ∧ q_oF G "java/lang/String" "coder" "B" (.int 0) a ∧ q_oF G "java/lang/String" "value" "[B" (.ref v) a ∧ q_oT G .byte v bs.length (fun j => .int (nI (bs.getD j 0)))) ∧ bs.length < 2 ^ 31 ∧ ∀ j : Nat, bs.getD j 0 < 128
end
