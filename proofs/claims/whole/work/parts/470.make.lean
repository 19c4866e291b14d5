section
/-! MAKING arrays and objects: the new one stands at hs + n -/
variable {G : GL} {K : KC} {Q : State → Prop} {kc ks : Nat} {n : Nat} {pc : Nat} {ls : List (Option Value)} {st : List Value} {σ : Nat → va_E} {own : String} {b : ByteArray} {nL : Nat} {ret : Option FieldType} {R : Room} {hh : List (Nat × Nat × Nat × Nat)}
theorem q_pushS {s : State} {H H1 : Heap} {locs : List Loc} (hS : va_S (q_A G) s.heap H locs) (z1 : H1.size = H.size + 1) (o1 : ∀ q : Nat, q < H.size → H1[q]? = H[q]?) : va_S (q_A G) s.heap H1 locs :=
  ⟨Nat.le_trans hS.1 (by omega), fun x h1 h2 => (o1 x (Nat.lt_of_lt_of_le h1 hS.1)).trans (hS.2.1 x h1 h2), hS.2.2⟩
theorem A_newa (g : Gd G K own b nL ret R hh) {atype : ArrayType} {t N : Nat} {a0 : vp_A} (ht : t < 7) (hty : newarray.typeOf atype = q_ty t) (hno : ∀ C : String, q_ty t ≠ .object C) (harr : Cond.arrayClass (newarray.typeOf atype) ∈ lw_tbl) (hcell : ∀ cA : ClassId, vp_cell cA a0 = arrV cA N (fun _ => defaultValue (q_ty t))) (hN : N < 2 ^ 31) (hbytes : N * componentBytes (q_ty t) ≤ 536870912) (hc : kc + 1 ≤ R.cells) (hs : ks + N ≤ R.slots) (d : decode b pc = .ok (.newarray atype, 2))
    (kk : ∀ σ2 : Nat → va_E, σ2 n = .inl (q_c G t, a0) → (∀ j : Nat, j ≠ n → σ2 j = σ j) → AJ G K Q (kc + 1) (ks + N) true (n + 1) (pc + 2) ls (.ref (q_h G + n) :: st) σ2) : AJ G K Q kc ks true n pc ls (.int (nI N) :: st) σ := by
  intro lsA H locs h1 h2 h3 h4
  have X := g.2.2.2.2.2.2.1
  have hRe := g.2.2.2.2.2.2.2.2.1
  have hz : H.size = q_h G + n := h3.2 rfl
  refine va_newaK g.1 g.2.1 (q_wordA X harr _) rfl d rfl (nI_pos hN) (nI_clamp hN) (by rw [hty]; exact hbytes) (by rw [hRe]; exact hc) (by rw [hRe]; exact hs) hz fun H1 cA e1 z1 o1 hAr hNm => ?_
  have hcA : cA = q_c G t := by
    have hr := (q_arr (G := G) X ht).2
    rw [hty] at hNm
    unfold va_RA at hr
    split at hr
    · rename_i C he; exact absurd he (hno C)
    · exact Option.some.inj (hNm.symm.trans hr)
  subst hcA
  refine kk (q_up σ n (.inl (q_c G t, a0))) (q_up_s _ _ _) (fun j hj => q_up_n _ _ hj) lsA H1 locs h1 (h2.push ?_ o1) (q_Z.push rfl h3 (by rw [z1, hz])) (q_pushS h4 (by rw [z1, hz]) (fun q hq => o1 q (by omega)))
  show H1[q_h G + n]? = some (vp_cell _ _)
  rw [hcell, e1, hty]
theorem A_newq (g : Gd G K own b nL ret R hh) {C : String} {ix t N : Nat} (ht : t < 7) (hty : q_ty t = .object C) (hlink : Cond.classLink own ix C ∈ lw_tbl) (hover : Cond.arrayOver (.object C) ∈ lw_tbl) (hN : N < 2 ^ 31) (hbytes : N * 4 ≤ 536870912) (hc : kc + 1 ≤ R.cells) (hs : ks + N ≤ R.slots) (d : decode b pc = .ok (.anewarray ix, 3))
    (kk : ∀ σ2 : Nat → va_E, σ2 n = q_rn G t N (fun _ => none) → (∀ j : Nat, j ≠ n → σ2 j = σ j) → AJ G K Q (kc + 1) (ks + N) true (n + 1) (pc + 3) ls (.ref (q_h G + n) :: st) σ2) : AJ G K Q kc ks true n pc ls (.int (nI N) :: st) σ := by
  intro lsA H locs h1 h2 h3 h4
  have X := g.2.2.2.2.2.2.1
  have hRe := g.2.2.2.2.2.2.2.2.1
  have hz : H.size = q_h G + n := h3.2 rfl
  have hcl := nI_clamp hN
  refine W.anew g.1 g.2.1 g.2.2.2.2.2.1 (q_word X hlink rfl _) (va_AO.use (q_wordO X hover)) rfl d rfl (nI_pos hN) (by rw [hcl]; exact hbytes) (by rw [hRe]; exact hc) (by rw [hRe, hcl]; exact hs) fun cA kA comp f1 f2 f3 f4 => ?_
  rw [hcl]
  generalize hH1 : H.push ({ cls := cA, slots := Array.replicate N .null, vm := .none } : Cell) = H1
  have z1 : H1.size = H.size + 1 := by rw [← hH1, Array.size_push]
  have e1 : H1[H.size]? = some (arrV cA N (fun _ => .null)) := by rw [← hH1, Array.getElem?_push_size, ← arrV_new]
  have o1 : ∀ q : Nat, q < H.size → H1[q]? = H[q]? := fun q hq => by rw [← hH1, Array.getElem?_push, if_neg (Nat.ne_of_lt hq)]
  have hcA : cA = q_c G t := by
    have hr := (q_arr (G := G) X ht).2
    rw [hty] at hr
    obtain ⟨kA9, comp9, r1, r2, r3, r4⟩ := hr
    exact Option.some.inj (f1.symm.trans r4)
  subst hcA
  rw [hz] at e1
  rw [show H.size = q_h G + n from hz]
  refine kk (q_up σ n (q_rn G t N (fun _ => none))) (q_up_s _ _ _) (fun j hj => q_up_n _ _ hj) lsA H1 locs h1 (h2.push ?_ (fun q hq => o1 q (by omega))) (q_Z.push rfl h3 z1) (q_pushS h4 z1 o1)
  show H1[q_h G + n]? = some (vp_cell _ _)
  rw [e1]; rfl
theorem A_newo (g : Gd G K own b nL ret R hh) {ix ci N : Nat} {C : String} {T : u_T} {fs : List Value} (ty : Nat → FieldType) (hc : vwCl[ci]? = some (C, T, N)) (hin : ∀ w ∈ u_ws C T N, w ∈ lw_tbl) (hty : ∀ k, k < N → parseFieldDescriptor (T k).2.2.1 = some (ty k)) (hlink : Cond.classLink own ix C ∈ lw_tbl) (hinst : Cond.instantiable C N ∈ lw_tbl) (hini : Cond.initialized C ∈ lw_tbl) (hfs : ∀ j, j < N → defaultValue (ty j) = vp_V fs j) (hcc : kc + 1 ≤ R.cells) (hss : ks + N ≤ R.slots) (d : decode b pc = .ok (.new ix, 3))
    (kk : ∀ σ2 : Nat → va_E, σ2 n = .inr (ci, fs) → (∀ j : Nat, j ≠ n → σ2 j = σ j) → AJ G K Q (kc + 1) (ks + N) true (n + 1) (pc + 3) ls (.ref (q_h G + n) :: st) σ2) : AJ G K Q kc ks true n pc ls st σ := by
  intro lsA H locs h1 h2 h3 h4
  have X := g.2.2.2.2.2.2.1
  have hRe := g.2.2.2.2.2.2.2.2.1
  have hz : H.size = q_h G + n := h3.2 rfl
  have hKn := (q_K X).1 ci _ hc
  refine W.newcK g.1 g.2.1 g.2.2.2.2.2.1 (q_word X hlink rfl _) (q_word X hinst rfl _) (q_word X hini rfl _) rfl d (by rw [hRe]; exact hcc) (by rw [hRe]; exact hss) hKn.2.1 hz fun H1 kC hkC e1 z1 o1 => ?_
  refine kk (q_up σ n (.inr (ci, fs))) (q_up_s _ _ _) (fun j hj => q_up_n _ _ hj) lsA H1 locs h1 (h2.push ?_ o1) (q_Z.push rfl h3 (by rw [z1, hz])) (q_pushS h4 (by rw [z1, hz]) (fun q hq => o1 q (by omega)))
  exact ⟨_, hc, (u_born ty (q_lays X hin (k_a K)) (fun w h => h) hKn hkC e1 hty).to hfs⟩
end
section
variable {G : GL} {K : KC} {Q : State → Prop} {kc ks : Nat} {ex : Bool} {n : Nat} {pc : Nat} {ls : List (Option Value)} {st : List Value} {σ : Nat → va_E} {own : String} {b : ByteArray} {nL : Nat} {ret : Option FieldType} {R : Room} {hh : List (Nat × Nat × Nat × Nat)}
theorem A_objInit (g : Gd G K own b nL ret R hh) {ix a : Nat} (hl : Cond.methodLink own ix Lib.objectInit ∈ lw_tbl) (hi : Cond.instanceMethod Lib.objectInit ∈ lw_tbl) (hcd : Cond.code Lib.objectInit ⟨#[0xb1]⟩ 1 none ∈ lw_tbl) (d : decode b pc = .ok (.invokespecial ix, 3)) (hR : 1 ≤ R.frames ∧ 20 ≤ R.locals) (hcat : (st.map fun v => v.category).sum ≤ 8)
    (kk : AJ G K Q kc ks ex n (pc + 3) ls st σ) : AJ G K Q kc ks ex n pc ls (.ref a :: st) σ := by
  intro lsA H locs h1 h2 h3 h4
  have X := g.2.2.2.2.2.2.1
  have hRe := g.2.2.2.2.2.2.2.2.1
  exact W.objInit g.1 g.2.1 g.2.2.2.2.2.1 (q_word X hl rfl _) (q_word X hi rfl _) (q_word X hcd rfl _) rfl h1.1 rfl d (by rw [hRe]; exact hR.1) (by rw [hRe]; show 2 * 0 + _ + 12 ≤ _; omega) (kk lsA H locs h1 h2 h3 h4)
theorem q_updr (G : GL) (f : Nat → Option Nat) (j i : Nat) : (fun k => va_rf ((va_up f j (some i) k).map (fun i => q_h G + i))) = updV (fun k => va_rf ((f k).map (fun i => q_h G + i))) j (.ref (q_h G + i)) := by
  funext k
  by_cases h : k = j <;> simp [va_up, updV, h, va_rf]
theorem A_aastR (g : Gd G K own b nL ret R hh) {t id len j oid ci : Nat} {r : vw_C} {f : Nat → Option Nat} {fs : List Value} (ht : t < 7) (htC : q_ty t = .object r.1) (ho : σ id = q_rn G t len f) (hi : id < n) (hv : σ oid = .inr (ci, fs)) (hoi : oid < n) (hc : vwCl[ci]? = some r) (hj : j < len) (hl : len < 2 ^ 31) (d : decode b pc = .ok (.aastore, 1))
    (kk : ∀ σ2 : Nat → va_E, σ2 id = q_rn G t len (va_up f j (some oid)) → (∀ i : Nat, i ≠ id → σ2 i = σ i) → AJ G K Q kc ks ex n (pc + 1) ls st σ2) : AJ G K Q kc ks ex n pc ls (.ref (q_h G + oid) :: .int (nI j) :: .ref (q_h G + id) :: st) σ := by
  intro lsA H locs h1 h2 h3 h4
  have X := g.2.2.2.2.2.2.1
  have h5 := h2 id hi
  rw [ho] at h5
  have h6 : H[q_h G + id]? = some (arrV (q_c G t) len (fun j => va_rf ((f j).map (fun i => q_h G + i)))) := h5
  have h7 := h2 oid hoi
  rw [hv] at h7
  obtain ⟨r', e1, cellV, g1, g2, g3, -⟩ := h7
  cases e1.symm.trans hc
  have hcls := ((q_K X).1 ci _ hc).2
  have hA := q_arr (G := G) X ht
  rw [htC] at hA
  obtain ⟨kA, comp, k1, k2, k3, -⟩ := hA.2
  have hcomp : comp = G.2.1.1 ci := Option.some.inj (k3.symm.trans hcls.1)
  subst hcomp
  obtain ⟨kC, hkC, -⟩ := hcls.2
  refine W.aast g.1 g.2.1 h6 (fun q h => by cases h) (fun h => by cases h) k1 k2 rfl hkC (by rw [arrV_size]; have := q_inj hj hl; exact ⟨fun q => this (Or.inl q), Nat.not_le.mp fun q => this (Or.inr q)⟩) g1 (fun q h => by rw [g3] at h; cases h) (by rw [g2]; exact hkC) (by rw [g2]; exact va_assign hcls) rfl rfl d fun H1 e z oq => ?_
  refine kk (q_up σ id (q_rn G t len (va_up f j (some oid)))) (q_up_s _ _ _) (fun i hi2 => q_up_n _ _ hi2) lsA H1 _ h1 (h2.put ?_ oq) (h3.put z) (h4.put z oq (Nat.le_add_right _ _))
  show H1[q_h G + id]? = some (arrV (q_c G t) len (fun k => va_rf ((va_up f j (some oid) k).map (fun i => q_h G + i))))
  rw [e, nI_clamp (Nat.lt_trans hj hl), arrV_store, q_updr]
end
section
theorem q_enterI {G : GL} {y : MethodName} {b : ByteArray} {nL : Nat} {ret : Option FieldType} {rm : Room} {av : List Value} {ex : Bool} {n : Nat} {σ : Nat → va_E} {QR : Option Value → Nat → (Nat → va_E) → Prop} {QX : String → (Nat → va_E) → Prop} (ls : List (Option Value)) (hy : plainName y.cls = true) (hle : (lg_sl av).length ≤ nL) (hls : q_ent av nL = ls)
    (body : ∀ K : KC, Gd G K y.cls b nL ret rm [] → (k_me K).name = y.name → AJ G K (q_Q G K ex n rm.cells rm.slots QR QX) 0 0 ex n 0 ls [] σ) : CtN G y b nL ret rm av ex n σ QR QX := by
  refine vx_ofW (cc := b) (maxL := nL) (ret := ret) hy rfl ?_
  intro p e s m args below meth c s₁ B hml htab hv
  obtain ⟨rfl, hX, hP, hZ⟩ := hv
  have hg : Gd G (p, e, s, m, av.toArray, below, meth, c, (headSpec [.code y b nL ret] rm).room) y.cls b nL ret rm [] := ⟨B.exec, B.bytes, hml, B.returns, B.notSynchronized, findClass_of_methodNamed B.named, hX, Nat.le_trans (Nat.le_add_right _ _) hZ.1, rfl, List.eq_nil_iff_forall_not_mem.mpr fun x hx => htab x hx⟩
  have hb := body (p, e, s, m, av.toArray, below, meth, c, (headSpec [.code y b nL ret] rm).room) hg (name_of_methodNamed B.named B.method).1
  have hl := lv_entry av (n := nL) hle
  rw [lg_entry_eq]
  refine hb _ s.heap [] ?_ hP hZ va_S.rf
  show q_lh _ c.maxLocals ls
  rw [hml]
  refine q_has_lh hl fun i v hi => ?_
  rw [← hls] at hi
  unfold q_ent at hi
  have h2 : (q_arg av)[i]? = some (some v) := by
    by_cases hil : i < (q_arg av).length
    · rw [List.getElem?_append_left hil] at hi; exact hi
    · rw [List.getElem?_append_right (by omega)] at hi
      have := List.eq_of_mem_replicate (List.mem_of_getElem? hi)
      cases this
  have h3 := q_arg_at av 0 i v h2
  rw [Nat.zero_add] at h3
  exact h3

end
section
variable {G : GL} {K : KC} {Q : State → Prop} {kc ks : Nat} {ex : Bool} {n : Nat} {pc : Nat} {ls : List (Option Value)} {st : List Value} {σ : Nat → va_E} {own : String} {b : ByteArray} {nL : Nat} {ret : Option FieldType} {R : Room} {hh : List (Nat × Nat × Nat × Nat)}
theorem A_returnN {n0 : Nat} {mc ms : Nat} {QR : Option Value → Nat → (Nat → va_E) → Prop} {QX : String → (Nat → va_E) → Prop} (g : Gd G K own b nL ret R hh) (hc : kc ≤ mc) (hs : ks ≤ ms) (hr : ret = none) (d : decode b pc = .ok (.return_, 1)) (hq : QR none n σ) : AJ G K (q_Q G K ex n0 mc ms QR QX) kc ks ex n pc ls [] σ := fun lsA H locs h1 h2 h3 h4 => by
  refine W.widen hc hs (vx_ret ?_)
  exact W.vret g.1 g.2.1 (g.2.2.2.1.trans hr) (fun t ht hW => ⟨none, n, σ, rfl, hq, by rw [ht]; exact q_low g.2.2.2.2.2.2.1 g.2.2.2.2.2.2.2.1 h4, by rw [ht]; exact h2, by rw [ht]; exact h3⟩) h4.2.2 d g.2.2.2.2.1
end
