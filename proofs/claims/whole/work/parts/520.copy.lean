section
theorem q_copyW {p : Program} {l : Launch} {e : Env} {R : Room} {s : State} {m : MethodId} {args : Array Value} {below : List Frame} {meth : Method} {c : Code} {H : Heap} {locs : List Loc} {cells slots : Nat} {Q : State → Prop} {pc : Nat} {ls : Array Slot} {rest : List Value} {cc : ByteArray}
    (hexec : p.tables.exec = Jvm.exec) (hb : c.code = cc) (hml : c.maxLocals = ls.size) {own : String} {index : Nat} (hown : s.vm.findClass own = some m.cls) (hlink : (Cond.methodLink own index arraycopyName).before args s = true) (hnat : (Cond.native arraycopyName).before args s = true) (hstat : (Cond.static arraycopyName).before args s = true) (hini : (Cond.initialized "java/lang/System").before args s = true)
    {a a0 : Nat} {c0 c1 : ClassId} {n0 n1 : Nat} {f g : Nat → Int32} {ty : FieldType} (hc0 : H[a0]? = some (vp_cell c0 (n0, .inl f))) (hc1 : H[a]? = some (vp_cell c1 (n1, .inl g))) (ht0 : ArrOfT s c0 ty) (ht1 : ArrOfT s c1 ty) (hprim : refKind ty = false)
    {sp dp n : Int32} (h1 : ¬ sp < 0) (h2 : ¬ dp < 0) (h3 : ¬ n < 0) (h4 : sp.toNatClampNeg + n.toNatClampNeg ≤ n0) (h5 : dp.toNatClampNeg + n.toNatClampNeg ≤ n1) (hfit : ∀ i, i < n.toNatClampNeg → fits ty (.int (f (sp.toNatClampNeg + i))) = true)
    (hframes : 1 ≤ R.frames) (hlocals : (rest.map fun v => v.category).sum + (nativeFrameWords "java/lang/System" "arraycopy" 5 + 11) ≤ R.locals) (hdg : decode cc pc = .ok (.invokestatic index, 3))
    (kk : ∀ (H1 : Heap) (L : List Loc), H1[a]? = some (vp_cell c1 (n1, .inl (va_cpy f g sp.toNatClampNeg dp.toNatClampNeg n.toNatClampNeg))) → H1.size = H.size → (∀ q : Nat, q ≠ a → H1[q]? = H[q]?) → (∀ z ∈ L, z.base = a) → W p l e R s m args below meth c H1 (locs ++ L) cells slots Q (F0 m (pc + 3) ls rest)) : W p l e R s m args below meth c H locs cells slots Q (F0 m pc ls (.int n :: .int dp :: .ref a :: .int sp :: .ref a0 :: rest)) := by
  have nn : ∀ z : Int32, ¬ z < 0 → z.toInt = (z.toNatClampNeg : Int) := by
    intro z hz
    have hz0 : (0 : Int) ≤ z.toInt := by
      have := Int32.not_lt.mp hz
      simpa using Int32.le_iff_toInt_le.mp this
    show z.toInt = ((z.toInt.toNat : Nat) : Int)
    omega
  intro T hT X
  obtain ⟨-, k0, hk0, cm0, hkk0⟩ := ht0 n0 (fun j => .int (f j))
  obtain ⟨-, k1, hk1, cm1, hkk1⟩ := ht1 n1 (fun j => .int (g j))
  obtain ⟨vm', X', step⟩ := X.arraycopy hexec hown hlink hnat hstat hini (src := a0) (dst := a) (cs := vp_cell c0 (n0, .inl f)) (cd := vp_cell c1 (n1, .inl g)) (srcPos := sp) (destPos := dp) (n := n) (by rw [hT]; exact hc0) (by rw [hT]; exact hc1)
    (fun _ h => by cases h) (fun _ h => by cases h) (fun h => by cases h) (fun h => by cases h) hk0 hk1 hkk0 hkk1 (by simp [hprim]) h1 h2 h3
    (by rw [nn sp h1, nn n h3]; show ¬ _ > ((arrV c0 n0 (fun j => .int (f j))).slots.size : Int); rw [arrV_size]; omega)
    (by rw [nn dp h2, nn n h3]; show ¬ _ > ((arrV c1 n1 (fun j => .int (g j))).slots.size : Int); rw [arrV_size]; omega)
    (fun vm₁ _ i hi => by
      have e : (vp_cell c0 (n0, .inl f)).slots.getD (sp.toNatClampNeg + i) .null = .int (f (sp.toNatClampNeg + i)) := by
        show (arrV c0 n0 (fun j => .int (f j))).slots.getD _ _ = _
        rw [Array.getD_eq_getD_getElem?, arrV_read _ _ (by omega)]
        rfl
      refine ⟨?_, ?_⟩
      · rw [e]
        exact hfit i hi
      · rw [e]
        exact trivial)
    (g := F0 m pc ls (.int n :: .int dp :: .ref a :: .int sp :: .ref a0 :: rest)) rfl (by rw [hml]) (rest := rest) rfl (by rw [hb]; exact hdg) hframes (by show 2 * 0 + _ + _ ≤ _; omega)
  have e1 : copied (vp_cell c0 (n0, .inl f)) (vp_cell c1 (n1, .inl g)) sp dp n = vp_cell c1 (n1, .inl (va_cpy f g sp.toNatClampNeg dp.toNatClampNeg n.toNatClampNeg)) := va_copied (fun z => .int z) c0 c1 f g h4
  rw [e1] at X' step
  have hl : a < H.size := (Array.getElem?_eq_some_iff.mp hc1).1
  have hheap : ((T.setVm vm').setCell a (vp_cell c1 (n1, .inl (va_cpy f g sp.toNatClampNeg dp.toNatClampNeg n.toNatClampNeg)))).heap = H.setIfInBounds a (vp_cell c1 (n1, .inl (va_cpy f g sp.toNatClampNeg dp.toNatClampNeg n.toNatClampNeg))) := by rw [← hT]; rfl
  obtain ⟨t, a1, b1⟩ := kk _ _ (show (H.setIfInBounds a _)[a]? = some _ by simp [Array.getElem?_setIfInBounds, hl]) (by simp) (fun q hq => by simp [Array.getElem?_setIfInBounds, Ne.symm hq]) (fun z hz => by
      obtain ⟨y, -, hy⟩ := List.mem_map.mp hz
      rw [← hy]) _ hheap X'
  exact ⟨t, step t a1, b1⟩
variable {G : GL} {K : KC} {Q : State → Prop} {kc ks : Nat} {ex : Bool} {n : Nat} {pc : Nat} {ls : List (Option Value)} {st : List Value} {σ : Nat → va_E} {own : String} {b : ByteArray} {nL : Nat} {ret : Option FieldType} {R : Room} {hh : List (Nat × Nat × Nat × Nat)}
theorem q_cpy (f g : Nat → Nat) (a b c : Nat) : va_cpy (fun j => nI (f j)) (fun j => nI (g j)) a b c = fun j => nI (va_cpy f g a b c j) := by
  funext k
  unfold va_cpy
  split <;> rfl
theorem A_copy (g : Gd G K own b nL ret R hh) {ix id0 id1 len0 len1 x y z : Nat} {f h : Nat → Nat} (hl : Cond.methodLink own ix arraycopyName ∈ lw_tbl) (hn : Cond.native arraycopyName ∈ lw_tbl) (hs : Cond.static arraycopyName ∈ lw_tbl) (hi : Cond.initialized "java/lang/System" ∈ lw_tbl) (d : decode b pc = .ok (.invokestatic ix, 3)) (hR : 1 ≤ R.frames ∧ nativeFrameWords "java/lang/System" "arraycopy" 5 + 19 ≤ R.locals) (hcat : (st.map fun v => v.category).sum ≤ 8) (ho0 : σ id0 = q_an G len0 f) (ho1 : σ id1 = q_an G len1 h) (hi0 : id0 < n) (hi1 : id1 < n) (h0 : x + z ≤ len0) (h1 : y + z ≤ len1) (hx : x < 2 ^ 31) (hy : y < 2 ^ 31) (hz : z < 2 ^ 31)
    (kk : ∀ σ2 : Nat → va_E, σ2 id1 = q_an G len1 (va_cpy f h x y z) → (∀ j : Nat, j ≠ id1 → σ2 j = σ j) → AJ G K Q kc ks ex n (pc + 3) ls st σ2) : AJ G K Q kc ks ex n pc ls (.int (nI z) :: .int (nI y) :: .ref (q_h G + id1) :: .int (nI x) :: .ref (q_h G + id0) :: st) σ := by
  intro lsA H locs e1 e2 e3 e4
  have X := g.2.2.2.2.2.2.1
  have hRe := g.2.2.2.2.2.2.2.2.1
  have c0 := e2 id0 hi0
  rw [ho0] at c0
  have c1 := e2 id1 hi1
  rw [ho1] at c1
  have hA := (q_arr (G := G) X (t := 0) (by decide)).1
  refine q_copyW g.1 g.2.1 e1.1.symm g.2.2.2.2.2.1 (q_word X hl rfl _) (q_word X hn rfl _) (q_word X hs rfl _) (q_word X hi rfl _) c0 c1 hA hA rfl (nI_pos hx) (nI_pos hy) (nI_pos hz) (by rw [nI_clamp hx, nI_clamp hz]; exact h0) (by rw [nI_clamp hy, nI_clamp hz]; exact h1) (fun _ _ => rfl) (by rw [hRe]; exact hR.1) (by rw [hRe]; omega) d fun H1 L f1 f2 f3 f4 => ?_
  rw [nI_clamp hx, nI_clamp hy, nI_clamp hz, q_cpy] at f1
  refine kk (q_up σ id1 (q_an G len1 (va_cpy f h x y z))) (q_up_s _ _ _) (fun j hj => q_up_n _ _ hj) lsA H1 _ e1 (e2.put f1 f3) (e3.put f2) ⟨by rw [f2]; exact e4.1, fun q g1 g2 => (f3 q (fun w => g2 (by rw [w]; exact Nat.le_add_right _ _))).trans (e4.2.1 q g1 g2), fun q hq => (List.mem_append.mp hq).elim (e4.2.2 q) (fun hq => by rw [f4 q hq]; exact Nat.le_add_right _ _)⟩
end
section
def x_eqm (on sl mo nb : Nat) (bm : Nat → Nat) (on2 sl2 mo2 nb2 : Nat) (bm2 : Nat → Nat) : Bool := decide (on = on2 ∧ sl = sl2 ∧ mo = mo2 ∧ nb = nb2 ∧ ∀ j : Nat, j < nb → bm j = bm2 j)
end
section
def x_shl (bm : Nat → Nat) (p i : Nat) : Nat → Nat := fun j => if p ≤ j ∧ j < i then bm (j + 1) else bm j
theorem x_shl_i (bm : Nat → Nat) (p i j : Nat) : x_shl bm p i j = if p ≤ j ∧ j < i then bm (j + 1) else bm j := rfl
theorem x_shl_0 (bm : Nat → Nat) (p j : Nat) : bm j = x_shl bm p p j := by rw [x_shl_i, if_neg (by omega)]
theorem x_shl_s (bm : Nat → Nat) (p i j : Nat) (h : p ≤ i) : va_up (x_shl bm p i) i (x_shl bm p i (i + 1)) j = x_shl bm p (i + 1) j := by
  have e : x_shl bm p i (i + 1) = bm (i + 1) := by rw [x_shl_i, if_neg (by omega)]
  rw [e, x_shl_i bm p (i + 1)]
  unfold va_up
  by_cases h1 : j = i
  · rw [if_pos h1, if_pos (by omega), h1]
  · rw [if_neg h1, x_shl_i]
    by_cases h2 : p ≤ j ∧ j < i
    · rw [if_pos h2, if_pos (by omega)]
    · rw [if_neg h2, if_neg (by omega)]
end
