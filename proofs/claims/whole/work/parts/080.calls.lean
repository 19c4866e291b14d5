/-! CALLS: by contract; a callee that throws goes on to the caller, or is caught there -/
section
variable {G : GL} {K : KC} {Q : State → Prop} {kc ks : Nat} {ex : Bool} {n : Nat} {pc : Nat} {ls : List (Option Value)} {st : List Value} {σ : Nat → va_E} {own : String} {b : ByteArray} {nL : Nat} {ret : Option FieldType} {R : Room} {hh : List (Nat × Nat × Nat × Nat)}
/-- an exception of class E lies over the frame at pc -/
def AX (G : GL) (K : KC) (Q : State → Prop) (kc ks : Nat) (n : Nat) (pc : Nat) (ls : List (Option Value)) (st : List Value) (σ : Nat → va_E) (E : String) : Prop :=
  ∀ (lsA : Array Slot) (H : Heap) (locs : List Loc) (q : Addr) (ce : Cell), q_lh lsA (k_c K).maxLocals ls → q_P G n σ H → q_Z G false n H → va_S (q_A G) (k_s K).heap H locs → H[q]? = some ce → ce.vm = .none → (k_s K).vm.findClass E = some ce.cls → vx_W (k_p K) G.1 (k_e K) (k_R K) (k_s K) (k_m K) (k_a K) (k_b K) (k_me K) (k_c K) H locs kc ks Q (F0 (k_m K) pc lsA st) q
theorem q_sizes {p : Program} {l : Launch} {e : Env} {R : Room} {s : State} {m : MethodId} {args : Array Value} {below : List Frame} {meth : Method} {c : Code} {T : State} {locs : List Loc} {cells slots : Nat} (X : Stand p l e R s m args below meth c T locs cells slots) : s.heap.size ≤ T.heap.size := by
  obtain ⟨-, h2, -⟩ := X.same
  exact h2
theorem q_S {s : State} {H : Heap} {locs L : List Loc} (X : q_Xt G s) (hsz : s.heap.size ≤ H.size) (hV : ∀ q : Nat, q < q_h G → H[q]? = (q_0 G).heap[q]?) (h1 : ∀ q ∈ locs, q_A G q.base) (h2 : ∀ q ∈ L, q_A G q.base) : va_S (q_A G) s.heap H (locs ++ L) :=
  ⟨hsz, fun q _ hn => (hV q (Nat.not_le.mp hn)).trans (X.2.2 q (Nat.not_le.mp hn)).symm, fun q hq => (List.mem_append.mp hq).elim (h1 q) (h2 q)⟩
theorem A_run (g : Gd G K own b nL ret R hh) {mc ms : Nat} {st0 rest : List Value} {QR : Option Value → Nat → (Nat → va_E) → Prop} {QX : String → (Nat → va_E) → Prop} {a : Array Value}
    (hr : ∀ (lsA : Array Slot) (H : Heap) (locs : List Loc), q_lh lsA (k_c K).maxLocals ls → q_P G n σ H → q_Z G ex n H → va_S (q_A G) (k_s K).heap H locs → vx_Run (k_p K) G.1 (k_e K) (k_R K) (k_s K) (k_m K) (k_a K) (k_b K) (k_me K) (k_c K) H locs kc ks mc ms (F0 (k_m K) pc lsA st0) rest (q_Qc G ex QR a) (q_XC G n QX) (q_A G))
    (kx : ∀ (E : String) (σ' : Nat → va_E), QX E σ' → AX G K Q (kc + mc) (ks + ms) n pc ls rest σ' E)
    (kk : ∀ (v : Option Value) (n' : Nat) (σ' : Nat → va_E), QR v n' σ' → AJ G K Q (kc + mc) (ks + ms) ex n' (pc + 3) ls (v.toList ++ rest) σ') : AJ G K Q kc ks ex n pc ls st0 σ := by
  intro lsA H locs h1 h2 h3 h4 T hT X
  have Xt := g.2.2.2.2.2.2.1
  rcases hr lsA H locs h1 h2 h3 h4 T hT X with ⟨v, st₀, t, T', L, h0, X', hL, e1, e2, ⟨v', n', σ', hv, hp, hV1, hV2, hV3⟩, sg⟩ | ⟨q, st₀, t, T', L, E, ce, h0, X', hL, e1, e2, ⟨σ', hp, hV1, hV2, hV3⟩, hce, hcv, hcl, sg⟩
  · cases hv
    obtain ⟨t2, a1, b1⟩ := kk v n' σ' hp lsA T'.heap (locs ++ L) h1 (by rw [e1]; exact hV2) (by rw [e1]; exact hV3) (q_S Xt (q_sizes X') (by rw [e1]; exact hV1) h4.2.2 hL) T' rfl X'
    exact ⟨t2, sg t2 a1, b1⟩
  · obtain ⟨t2, a1, b1⟩ := kx E σ' hp lsA T'.heap (locs ++ L) q ce h1 (by rw [e1]; exact hV2) (by rw [e1]; exact hV3) (q_S Xt (q_sizes X') (by rw [e1]; exact hV1) h4.2.2 hL) (by rw [e1]; exact hce) hcv hcl T' rfl X'
    exact ⟨t2, sg.trans a1, b1⟩
/-- a method without handlers: the exception goes on to the caller -/
theorem A_out (g : Gd G K own b nL ret R []) {mc ms : Nat} {rest : List Value} {QR : Option Value → Nat → (Nat → va_E) → Prop} {QX : String → (Nat → va_E) → Prop} {E : String} (hc : kc ≤ mc) (hs : ks ≤ ms) (hq : QX E σ) : AX G K (q_Q G K ex n mc ms QR QX) kc ks n pc ls rest σ E := by
  intro lsA H locs q ce h1 h2 h3 h4 hce hcv hcl
  exact vx_out (by rw [g.2.2.2.2.2.2.2.2.2]; intro x hx; cases hx) g.2.2.2.2.1 hce hcv hcl (fun t ht _ => ⟨σ, hq, by rw [ht]; exact q_low g.2.2.2.2.2.2.1 g.2.2.2.2.2.2.2.1 h4, by rw [ht]; exact h2, by rw [ht]; exact h3⟩) h4.2.2 hc hs
theorem q_blind {av : List Value} : FrameBlind (va_Pc av (q_W G ex n σ)) := fun a U f mk q => ⟨q.1, ⟨q.2.1.1, q.2.1.2.1, q.2.1.2.2⟩, q.2.2.1, q.2.2.2⟩
theorem q_pre {s : State} {H : Heap} {locs : List Loc} {av : List Value} (X : q_Xt G s) (hz : q_h G ≤ s.heap.size) (h2 : q_P G n σ H) (h3 : q_Z G ex n H) (h4 : va_S (q_A G) s.heap H locs) : PreS s H (va_Pc av (q_W G ex n σ)) av :=
  ⟨q_blind, fun U hU hW => ⟨rfl, X.at hz h4 hU hW, by rw [hU]; exact h2, by rw [hU]; exact h3⟩⟩
/-- the words of a call -/
def q_lk (own : String) (ix : Nat) (y : MethodName) (b : ByteArray) (nL : Nat) (ret : Option FieldType) (na : Nat) : Prop :=
  (Cond.methodLink own ix y ∈ lw_tbl ∨ ∃ host : String, Cond.methodLinkNest own ix y host ∈ lw_tbl) ∧ Cond.code y b nL ret ∈ lw_tbl ∧ Cond.initialized y.cls ∈ lw_tbl ∧ (y.cls ≠ "java/lang/invoke/MethodHandle" ∧ y.cls ≠ "java/lang/invoke/VarHandle") ∧ (parseMethodDescriptor y.desc).map (fun d => d.parameters.length) = some na
def q_rm (rm R : Room) (nL : Nat) : Prop := rm.frames + 1 ≤ R.frames ∧ 8 + (nL + 11) + rm.locals ≤ R.locals
theorem q_len {y : MethodName} {na : Nat} (h : (parseMethodDescriptor y.desc).map (fun d => d.parameters.length) = some na) : ∀ sig, parseMethodDescriptor y.desc = some sig → na = sig.parameters.length := fun sig hs => by
  rw [hs] at h
  exact (Option.some.inj h).symm
theorem q_pay {s : State} (X : q_Xt G s) {w : Cond} (hm : w ∈ lw_tbl) (hg : q_gw w = true) : ∀ w' ∈ [w], ∀ (a' : Array Value) (U : State), s.WarmedH U.vm → w'.before a' U = true := by
  intro w' hw a' U hW
  rw [List.mem_singleton.mp hw]
  have h1 : w.before a' (s.setVm U.vm) = true := Cond.before_shiftedFace (State.Shifted.of_warmed hW) w (by simp only [q_gw, Bool.and_eq_true] at hg; exact hg.2) (q_word X hm hg a')
  have h2 := Cond.onTables_vm (A := a') (A' := a') (U := U) (U' := s) U.vm w (by simp only [q_gw, Bool.and_eq_true] at hg; exact hg.1)
  rw [State.setVm_self] at h2
  rw [h2]; exact h1
theorem q_callB {s : State} (X : q_Xt G s) {y : MethodName} {cb : ByteArray} {cL : Nat} {cret : Option FieldType} {rm : Room} {ix na : Nat} {a : Array Value} (hl : Cond.methodLink own ix y ∈ lw_tbl) (lk : q_lk own ix y cb cL cret na) (hR : q_rm rm R cL) : CallB R s a own ix y cb cL cret [.code y cb cL cret] rm rm.cells rm.slots na :=
  ⟨rfl, rfl, hR.1, hR.2, q_pay X lk.2.1 rfl, List.mem_cons_self, q_word X lk.2.1 rfl _, q_word X lk.2.2.1 rfl _, lk.2.2.2.1, q_len lk.2.2.2.2, q_word X hl rfl _⟩
theorem q_callN {s : State} (X : q_Xt G s) {y : MethodName} {cb : ByteArray} {cL : Nat} {cret : Option FieldType} {rm : Room} {ix na : Nat} {a : Array Value} {host : String} (hl : Cond.methodLinkNest own ix y host ∈ lw_tbl) (lk : q_lk own ix y cb cL cret na) (hR : q_rm rm R cL) : va_CN R s a own ix y host cb cL cret [.code y cb cL cret] rm rm.cells rm.slots na :=
  ⟨⟨rfl, rfl, hR.1, hR.2, q_pay X lk.2.1 rfl, List.mem_cons_self⟩, q_word X lk.2.1 rfl _, q_word X lk.2.2.1 rfl _, lk.2.2.2.1, q_len lk.2.2.2.2, q_wordM X hl _⟩
/-- an object's class, for the choice of the method -/
theorem q_recv {s : State} {H : Heap} (X : q_Xt G s) (h2 : q_P G n σ H) {id ci : Nat} {fs : List Value} {r : vw_C} (ho : σ id = .inr (ci, fs)) (hi : id < n) (hc : vwCl[ci]? = some r) : ∃ cellB : Cell, H[q_h G + id]? = some cellB ∧ cellB.vm.isStatics = false ∧ s.vm.findClass r.1 = some cellB.cls := by
  have h5 := h2 id hi
  rw [ho] at h5
  obtain ⟨r', e1, cell, q1, q2, q3, q4⟩ := h5
  cases e1.symm.trans hc
  exact ⟨cell, q1, by rw [q3]; rfl, by rw [q2]; exact ((q_K X).1 ci _ hc).2.1⟩
section
variable {y : MethodName} {cb : ByteArray} {cL ix na : Nat} {cret : Option FieldType} {rm : Room} {As rest : List Value} {QR : Option Value → Nat → (Nat → va_E) → Prop} {QX : String → (Nat → va_E) → Prop}
/-- a call of an instance's method -/
theorem A_callV (g : Gd G K own b nL ret R hh) {id ci : Nat} {fs : List Value} {r : vw_C} (lk : q_lk own ix y cb cL cret na) (hin : Cond.instanceMethod y ∈ lw_tbl) (hse : Cond.selects r.1 y y ∈ lw_tbl) (hc : vwCl[ci]? = some r) (d : decode b pc = .ok (.invokevirtual ix, 3)) (hR : q_rm rm R cL) (hf : kc + rm.cells ≤ R.cells ∧ ks + rm.slots ≤ R.slots) (ho : σ id = .inr (ci, fs)) (hi : id < n) (hst : st = As.reverse ++ .ref (q_h G + id) :: rest) (hna : As.length = na) (hcat : (rest.map fun v => v.category).sum ≤ 8)
    (hC : CtN G y cb cL cret rm (.ref (q_h G + id) :: As) ex n σ QR QX)
    (kx : ∀ (E : String) (σ' : Nat → va_E), QX E σ' → AX G K Q (kc + rm.cells) (ks + rm.slots) n pc ls rest σ' E)
    (kk : ∀ (v : Option Value) (n' : Nat) (σ' : Nat → va_E), QR v n' σ' → AJ G K Q (kc + rm.cells) (ks + rm.slots) ex n' (pc + 3) ls (v.toList ++ rest) σ') : AJ G K Q kc ks ex n pc ls st σ := by
  have X := g.2.2.2.2.2.2.1
  have hRe := g.2.2.2.2.2.2.2.2.1
  refine A_run g (a := (Value.ref (q_h G + id) :: As).toArray) (fun lsA H locs h1 h2 h3 h4 => ?_) kx kk
  have hp := q_pre (av := .ref (q_h G + id) :: As) X g.2.2.2.2.2.2.2.1 h2 h3 h4
  rcases lk.1 with hl | ⟨host, hl⟩
  · exact vx_runV (nL := nL) (Ts := []) ⟨g.1, g.2.1, g.2.2.1, g.2.2.2.2.2.1, fun _ h => nomatch h⟩ hC ⟨q_callB X hl lk (by rw [hRe]; exact hR), q_word X hin rfl _, q_word X hse rfl _⟩ ⟨hp.1, q_recv X h2 ho hi hc, hp.2⟩ rfl hna (h1.1.trans g.2.2.1) hst (lv_room hcat) d (by rw [hRe]; exact hf)
  · exact vx_runVN (nL := nL) (Ts := []) (host := host) ⟨g.1, g.2.1, g.2.2.1, g.2.2.2.2.2.1, fun _ h => nomatch h⟩ hC ⟨q_callN X hl lk (by rw [hRe]; exact hR), q_word X hin rfl _, q_word X hse rfl _⟩ ⟨hp.1, q_recv X h2 ho hi hc, hp.2⟩ rfl hna (h1.1.trans g.2.2.1) hst (lv_room hcat) d (by rw [hRe]; exact hf)
/-- a static call -/
theorem A_callS (g : Gd G K own b nL ret R hh) (lk : q_lk own ix y cb cL cret na) (hin : Cond.static y ∈ lw_tbl) (d : decode b pc = .ok (.invokestatic ix, 3)) (hR : q_rm rm R cL) (hf : kc + rm.cells ≤ R.cells ∧ ks + rm.slots ≤ R.slots) (hst : st = As.reverse ++ rest) (hna : As.length = na) (hcat : (rest.map fun v => v.category).sum ≤ 8)
    (hC : CtN G y cb cL cret rm As ex n σ QR QX)
    (kx : ∀ (E : String) (σ' : Nat → va_E), QX E σ' → AX G K Q (kc + rm.cells) (ks + rm.slots) n pc ls rest σ' E)
    (kk : ∀ (v : Option Value) (n' : Nat) (σ' : Nat → va_E), QR v n' σ' → AJ G K Q (kc + rm.cells) (ks + rm.slots) ex n' (pc + 3) ls (v.toList ++ rest) σ') : AJ G K Q kc ks ex n pc ls st σ := by
  have X := g.2.2.2.2.2.2.1
  have hRe := g.2.2.2.2.2.2.2.2.1
  refine A_run g (a := As.toArray) (fun lsA H locs h1 h2 h3 h4 => ?_) kx kk
  have hp := q_pre (av := As) X g.2.2.2.2.2.2.2.1 h2 h3 h4
  rcases lk.1 with hl | ⟨host, hl⟩
  · exact vx_runS (nL := nL) (Ts := []) ⟨g.1, g.2.1, g.2.2.1, g.2.2.2.2.2.1, fun _ h => nomatch h⟩ hC ⟨q_callB X hl lk (by rw [hRe]; exact hR), q_word X hin rfl _⟩ hp rfl hna (h1.1.trans g.2.2.1) hst (lv_room hcat) d (by rw [hRe]; exact hf)
  · exact vx_runSN (nL := nL) (Ts := []) (host := host) ⟨g.1, g.2.1, g.2.2.1, g.2.2.2.2.2.1, fun _ h => nomatch h⟩ hC ⟨q_callN X hl lk (by rw [hRe]; exact hR), q_word X hin rfl _, trivial⟩ hp rfl hna (h1.1.trans g.2.2.1) hst (lv_room hcat) d (by rw [hRe]; exact hf)
/-- a constructor's call -/
theorem A_callI (g : Gd G K own b nL ret R hh) {id : Nat} (lk : q_lk own ix y cb cL none na) (hy : y.name = "<init>") (hin : Cond.instanceMethod y ∈ lw_tbl) (d : decode b pc = .ok (.invokespecial ix, 3)) (hR : q_rm rm R cL) (hf : kc + rm.cells ≤ R.cells ∧ ks + rm.slots ≤ R.slots) (hst : st = As.reverse ++ .ref (q_h G + id) :: rest) (hna : As.length = na) (hcat : (rest.map fun v => v.category).sum ≤ 8)
    (hC : CtN G y cb cL none rm (.ref (q_h G + id) :: As) ex n σ QR QX)
    (kx : ∀ (E : String) (σ' : Nat → va_E), QX E σ' → AX G K Q (kc + rm.cells) (ks + rm.slots) n pc ls rest σ' E)
    (kk : ∀ (v : Option Value) (n' : Nat) (σ' : Nat → va_E), QR v n' σ' → AJ G K Q (kc + rm.cells) (ks + rm.slots) ex n' (pc + 3) ls (v.toList ++ rest) σ') : AJ G K Q kc ks ex n pc ls st σ := by
  have X := g.2.2.2.2.2.2.1
  have hRe := g.2.2.2.2.2.2.2.2.1
  refine A_run g (a := (Value.ref (q_h G + id) :: As).toArray) (fun lsA H locs h1 h2 h3 h4 => ?_) kx kk
  have hp := q_pre (av := .ref (q_h G + id) :: As) X g.2.2.2.2.2.2.2.1 h2 h3 h4
  rcases lk.1 with hl | ⟨host, hl⟩
  · exact vx_runI (nL := nL) (Ts := []) ⟨g.1, g.2.1, g.2.2.1, g.2.2.2.2.2.1, fun _ h => nomatch h⟩ hC ⟨q_callB X hl lk (by rw [hRe]; exact hR), hy, q_word X hin rfl _⟩ hp rfl hna (h1.1.trans g.2.2.1) hst (lv_room hcat) d (by rw [hRe]; exact hf)
  · exact vx_runIN (nL := nL) (Ts := []) (host := host) ⟨g.1, g.2.1, g.2.2.1, g.2.2.2.2.2.1, fun _ h => nomatch h⟩ hC ⟨q_callN X hl lk (by rw [hRe]; exact hR), hy, q_word X hin rfl _⟩ hp rfl hna (h1.1.trans g.2.2.1) hst (lv_room hcat) d (by rw [hRe]; exact hf)
end
/-- what a contract gives where nothing is thrown -/
theorem q_nx {kc2 ks2 n2 pc2 : Nat} {ls2 : List (Option Value)} {st2 : List Value} : ∀ (E : String) (σ' : Nat → va_E), q_noX E σ' → AX G K Q kc2 ks2 n2 pc2 ls2 st2 σ' E := fun _ _ h => h.elim
end
