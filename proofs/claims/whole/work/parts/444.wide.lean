section
theorem vx_ofWF {l : Launch} {y : MethodName} {ws ws' : List Cond} {rm : Room} {Pc : Array Value → State → Prop} {Qc : Array Value → State → Outcome → State → Prop} {XC : String → State → State → Prop} {mc ms : Nat} {free : Addr → Prop} {cc : ByteArray} {maxL : Nat} {ret : Option FieldType}
    (hy : plainFor y = true) (hw : ws = Cond.code y cc maxL ret :: ws')
    (body : ∀ p e s m args below meth c s₁, BodyLoose p l y (headSpec ws rm) cc maxL ret e s m args below meth c s₁ → c.maxLocals = maxL → (∀ x ∈ c.exceptionTable.toList, False) → Pc args s →
      W p l e (headSpec ws rm).room s m args below meth c s.heap [] 0 0 (vx_MQ below Qc XC args s mc ms free) (entryFrame m args maxL)) : vx_Met l y ws rm Pc Qc XC mc ms free := by
  refine MetFree.of_bodySF (code := cc) (maxLocals := maxL) (ret := ret) hy ?_ ?_
  · intro args s m h hn
    obtain ⟨meth, c, h1, h2, h3, h4, h5, h6, -, -⟩ := Cond.code_spec hn (atoms_spec (ws := ws) h _ (by rw [hw]; exact List.mem_cons_self))
    exact ⟨meth, c, h1, h2, h3, h4, h5, h6⟩
  · intro p e s m args below meth c s₁ B hml hP _
    have hh0 : s₁.heap = s.heap := by rw [B.state]; rfl
    have ht : ∀ x ∈ c.exceptionTable.toList, False := by
      obtain ⟨meth9, c9, h1, h2, -, -, -, -, h7, -⟩ := Cond.code_spec B.named (atoms_spec (ws := ws) B.pre _ (by rw [hw]; exact List.mem_cons_self))
      cases Option.some.inj (h1.symm.trans B.method)
      cases Option.some.inj (h2.symm.trans (Stand.of_body B).code)
      intro x hx
      rw [Array.isEmpty_iff.mp h7] at hx
      cases hx
    obtain ⟨t, a1, o, b1, b2, b3⟩ := body p e s m args below meth c s₁ B hml ht hP s₁ hh0 (Stand.of_body B)
    exact ⟨t, o, a1, b1, b2, b3⟩
theorem q_enterF {G : GL} {y : MethodName} {b : ByteArray} {nL : Nat} {ret : Option FieldType} {rm : Room} {av : List Value} {ex : Bool} {n : Nat} {σ : Nat → va_E} {QR : Option Value → Nat → (Nat → va_E) → Prop} {QX : String → (Nat → va_E) → Prop} (ls : List (Option Value)) (hy : plainFor y = true) (hle : (lg_sl av).length ≤ nL) (hls : q_ent av nL = ls)
    (body : ∀ K : KC, Gd G K y.cls b nL ret rm [] → AJ G K (q_Q G K ex n rm.cells rm.slots QR QX) 0 0 ex n 0 ls [] σ) : CtN G y b nL ret rm av ex n σ QR QX := by
  refine vx_ofWF (cc := b) (maxL := nL) (ret := ret) hy rfl ?_
  intro p e s m args below meth c s₁ B hml htab hv
  obtain ⟨rfl, hX, hP, hZ⟩ := hv
  have hg : Gd G (p, e, s, m, av.toArray, below, meth, c, (headSpec [.code y b nL ret] rm).room) y.cls b nL ret rm [] := ⟨B.exec, B.bytes, hml, B.returns, B.notSynchronized, findClass_of_methodNamed B.named, hX, Nat.le_trans (Nat.le_add_right _ _) hZ.1, rfl, List.eq_nil_iff_forall_not_mem.mpr fun x hx => htab x hx⟩
  have hb := body (p, e, s, m, av.toArray, below, meth, c, (headSpec [.code y b nL ret] rm).room) hg
  have hl := lv_entry av (n := nL) hle
  rw [lg_entry_eq]
  refine hb _ s.heap [] ?_ hP hZ va_S.rf
  show q_lh _ c.maxLocals ls
  rw [hml]
  refine q_has_lh hl fun i v hi => ?_
  rw [← hls] at hi
  unfold q_ent at hi
  have h2 : (q_arg av)[i]? = some (some v) := by
    by_cases hil : i < (q_arg av).length
    · rw [List.getElem?_append_left hil] at hi; exact hi
    · rw [List.getElem?_append_right (by omega)] at hi
      have := List.eq_of_mem_replicate (List.mem_of_getElem? hi)
      cases this
  have h3 := q_arg_at av 0 i v h2
  rw [Nat.zero_add] at h3
  exact h3

end
section
theorem lP_xor (a b : Nat) : lN a ^^^ lN b = lN (a ^^^ b) := by
  apply Int64.toBitVec_inj.mp
  rw [Int64.toBitVec_xor]
  show BitVec.ofNat 64 a ^^^ BitVec.ofNat 64 b = BitVec.ofNat 64 (a ^^^ b)
  apply BitVec.eq_of_getLsbD_eq
  intro i hi
  simp [BitVec.getLsbD_ofNat, Nat.testBit_xor, hi]
theorem lP_or (a b : Nat) : lN a ||| lN b = lN (a ||| b) := by
  apply Int64.toBitVec_inj.mp
  rw [Int64.toBitVec_or]
  show BitVec.ofNat 64 a ||| BitVec.ofNat 64 b = BitVec.ofNat 64 (a ||| b)
  apply BitVec.eq_of_getLsbD_eq
  intro i hi
  simp [BitVec.getLsbD_ofNat, Nat.testBit_or, hi]
theorem lP_shl1 {k : Nat} (h : k < 32) : lN 1 <<< ((nI k).toInt64 &&& 63) = lN (2 ^ k) := by
  have e : ∀ j : Fin 32, lN 1 <<< ((nI j.val).toInt64 &&& 63) = lN (2 ^ j.val) := by decide +kernel
  exact e ⟨k, h⟩
/-- a bit put into a number of higher bits -/
theorem s_or_bit {r k : Nat} (h : r % 2 ^ (k + 1) = 0) : r ||| 2 ^ k = r + 2 ^ k := by
  obtain ⟨q, rfl⟩ : ∃ q, r = 2 ^ (k + 1) * q := ⟨r / 2 ^ (k + 1), by have := Nat.div_add_mod r (2 ^ (k + 1)); omega⟩
  exact (Nat.two_pow_add_eq_or_of_lt (Nat.pow_lt_pow_right (by decide) (Nat.lt_succ_self k)) q).symm
variable {G : GL} {K : KC} {Q : State → Prop} {kc ks : Nat} {ex : Bool} {n : Nat} {pc : Nat} {ls : List (Option Value)} {st : List Value} {σ : Nat → va_E} {own : String} {b : ByteArray} {nL : Nat} {ret : Option FieldType} {R : Room} {hh : List (Nat × Nat × Nat × Nat)}
theorem A_ldcw (g : Gd G K own b nL ret R hh) {ix : Nat} {v : Int32} (d : decode b pc = .ok (.ldc_w ix, 3)) (hm : Cond.constant own ix v ∈ lw_tbl) (k : AJ G K Q kc ks ex n (pc + 3) ls (.int v :: st) σ) : AJ G K Q kc ks ex n pc ls st σ := fun lsA H locs h1 h2 h3 h4 => lv_ldcw g.1 g.2.1 g.2.2.2.2.2.1 (q_word g.2.2.2.2.2.2.1 hm rfl _) d (k lsA H locs h1 h2 h3 h4)
theorem c_J9_floorDiv (G : GL) (ex : Bool) (n : Nat) (σ : Nat → va_E) (a c : Nat) (ha : a < 2 ^ 63) (hc : c < 2 ^ 63) (h0 : 0 < c) : Ct G yJ9_floorDiv_f86c9 cJ9_floorDiv_f86c9 6 (some .long) ⟨0, 0, 0, 0⟩ [.long (lN a), .long (lN c)] ex n σ (fun v9 σ2 => σ2 = σ ∧ v9 = some (.long (lN (a / c)))) := by
  refine q_enterF [some (.long (lN a)), none, some (.long (lN c)), none, none, none] (by decide +kernel) (Nat.le_of_ble_eq_true rfl) rfl ?_
  intro K hg
  have hx : a ^^^ c < 2 ^ 63 := Nat.xor_lt_two_pow ha hc
  refine A_lload_n hg dJ9_floorDiv_f86c9_0 rfl rfl ?_
  refine A_lload_n hg dJ9_floorDiv_f86c9_1 rfl rfl ?_
  refine A_ldivP hg dJ9_floorDiv_f86c9_2 ha h0 hc ?_
  refine A_lstore hg dJ9_floorDiv_f86c9_3 (by decide) (q_c1d rfl) (by simp) ?_
  refine A_eq (ls2 := [some (.long (lN a)), none, some (.long (lN c)), none, some (.long (lN (a / c))), none]) (st2 := []) (pc2 := 0) rfl rfl ?_
  refine A_lload_n hg dJ9_floorDiv_f86c9_5 rfl rfl ?_
  refine A_lload_n hg dJ9_floorDiv_f86c9_6 rfl rfl ?_
  refine A_lxor hg dJ9_floorDiv_f86c9_7 ?_
  rw [lP_xor]
  refine A_lconst (v := lN 0) hg dJ9_floorDiv_f86c9_8 (by decide) ?_
  refine A_lcmp hg dJ9_floorDiv_f86c9_9 ?_
  refine A_lc_ge (tgt := 27) hg dJ9_floorDiv_f86c9_10 hx (by decide) (by decide) (fun c1 => ?_) (fun c1 => absurd (Nat.zero_le _) c1)
  refine A_lload hg dJ9_floorDiv_f86c9_27 rfl ?_
  exact A_lreturn hg (by decide) (by decide) rfl dJ9_floorDiv_f86c9_29 ⟨rfl, rfl, rfl⟩
end
section
theorem q_dP {j : Nat} (h : 1 ≤ j) : q_d j = nI (j - 1) := by
  obtain ⟨i, rfl⟩ : ∃ i, j = i + 1 := ⟨j - 1, by omega⟩
  exact q_dS i
theorem q_dD {j : Nat} (h : 1 ≤ j) : q_d j + Int32.ofInt (-1) = q_d (j - 1) := by
  rw [q_dP h]; rfl
theorem s_rtb_t {v r j : Nat} (h1 : 1 ≤ j) (h : (r + 2 ^ (j - 1)) * (r + 2 ^ (j - 1)) ≤ v) : s_rtb v r j = s_rtb v (r + 2 ^ (j - 1)) (j - 1) := by
  obtain ⟨i, rfl⟩ : ∃ i, j = i + 1 := ⟨j - 1, by omega⟩
  have e : s_rtb v r (i + 1) = s_rtb v (if (r + 2 ^ i) * (r + 2 ^ i) ≤ v then r + 2 ^ i else r) i := rfl
  rw [Nat.add_sub_cancel] at h ⊢
  rw [e, if_pos h]
theorem s_rtb_f {v r j : Nat} (h1 : 1 ≤ j) (h : ¬ (r + 2 ^ (j - 1)) * (r + 2 ^ (j - 1)) ≤ v) : s_rtb v r j = s_rtb v r (j - 1) := by
  obtain ⟨i, rfl⟩ : ∃ i, j = i + 1 := ⟨j - 1, by omega⟩
  have e : s_rtb v r (i + 1) = s_rtb v (if (r + 2 ^ i) * (r + 2 ^ i) ≤ v then r + 2 ^ i else r) i := rfl
  rw [Nat.add_sub_cancel] at h ⊢
  rw [e, if_neg h]
theorem s_pw {j : Nat} (h : 1 ≤ j) : 2 ^ j = 2 ^ (j - 1) + 2 ^ (j - 1) := by
  obtain ⟨i, rfl⟩ : ∃ i, j = i + 1 := ⟨j - 1, by omega⟩
  rw [Nat.pow_succ]; show 2 ^ i * 2 = 2 ^ i + 2 ^ i; omega
theorem s_md1 {r j : Nat} (h : 1 ≤ j) (hr : r % 2 ^ j = 0) : r % 2 ^ (j - 1) = 0 := by
  have h1 : 2 ^ (j - 1) ∣ 2 ^ j := Nat.pow_dvd_pow 2 (by omega)
  exact Nat.mod_eq_zero_of_dvd (Nat.dvd_trans h1 (Nat.dvd_of_mod_eq_zero hr))
theorem s_md2 {r j : Nat} (h : 1 ≤ j) (hr : r % 2 ^ j = 0) : (r + 2 ^ (j - 1)) % 2 ^ (j - 1) = 0 := by
  rw [Nat.add_mod_right]; exact s_md1 h hr
theorem s_orb {r j : Nat} (h : 1 ≤ j) (hr : r % 2 ^ j = 0) : r ||| 2 ^ (j - 1) = r + 2 ^ (j - 1) := s_or_bit (by rw [show j - 1 + 1 = j by omega]; exact hr)
theorem s_cdc {c v : Nat} (hc : 0 < c) : ¬ v / c < c ↔ c * c ≤ v := by
  rw [Nat.not_lt, Nat.le_div_iff_mul_le hc]
end
