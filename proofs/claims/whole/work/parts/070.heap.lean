/-! ROWS OF THE HEAP over the system's world -/
section
def q_an (G : GL) (n : Nat) (f : Nat → Nat) : va_E := .inl (q_c G 0, n, .inl (fun j => nI (f j)))
def q_bn (G : GL) (n : Nat) (f : Nat → Nat) : va_E := .inl (q_c G 1, n, .inl (fun j => nI (f j)))
def q_rn (G : GL) (t n : Nat) (f : Nat → Option Nat) : va_E := .inl (q_c G t, n, .inr (.inr (.inr (.inr (fun j => (f j).map (fun i => q_h G + i))))))
def q_ln (G : GL) (n : Nat) (f : Nat → Int64) : va_E := .inl (q_c G 5, n, .inr (.inl f))
def q_dn (G : GL) (n : Nat) (f : Nat → UInt64) : va_E := .inl (q_c G 6, n, .inr (.inr (.inr (.inl f))))
def q_fl (own : String) (ix ci k : Nat) (ty : FieldType) (fin : Bool) : Prop :=
  ∃ (C : String) (T : u_T) (N : Nat) (ty0 : Nat → FieldType), vwCl[ci]? = some (C, T, N) ∧ k < N ∧ (Cond.fieldLink own ix C (T k).2.1 (T k).2.2.1 ∈ lw_tbl ∨ ∃ host : String, Cond.fieldLinkNest own ix C (T k).2.1 (T k).2.2.1 host ∈ lw_tbl) ∧ (∀ w ∈ u_ws C T N, w ∈ lw_tbl) ∧ (∀ k, k < N → parseFieldDescriptor (T k).2.2.1 = some (ty0 k)) ∧ (∀ a, a < N → ∀ b, b < N → a ≠ b → (T a).2.1 ≠ (T b).2.1) ∧ ty0 k = ty ∧ (T k).2.2.2 = fin ∧ (T k).1 = C
theorem q_wordF {G : GL} {U : State} (X : q_Xt G U) {c r nm ds host : String} {ix : Nat} (hm : Cond.fieldLinkNest c ix r nm ds host ∈ lw_tbl) (a : Array Value) : (Cond.fieldLinkNest c ix r nm ds host).before a U = true := by
  obtain ⟨⟨-, -, ⟨b, hw, -⟩, -⟩, hW, -⟩ := X
  exact va_Nw.use rfl (va_Nw.warmF hW (va_Nw.of rfl (hw _ hm)))
theorem q_wordM {G : GL} {U : State} (X : q_Xt G U) {c host : String} {x : MethodName} {ix : Nat} (hm : Cond.methodLinkNest c ix x host ∈ lw_tbl) (a : Array Value) : (Cond.methodLinkNest c ix x host).before a U = true := by
  obtain ⟨⟨-, -, ⟨b, hw, -⟩, -⟩, hW, -⟩ := X
  exact va_Nw.use rfl (va_Nw.warmM hW (va_Nw.of rfl (hw _ hm)))
theorem q_wordO {G : GL} {U : State} (X : q_Xt G U) {C : String} (hm : Cond.arrayOver (.object C) ∈ lw_tbl) : va_AO C U := by
  obtain ⟨⟨-, -, ⟨b, hw, -⟩, -⟩, hW, -⟩ := X
  exact va_AO.moved hW.alike (va_AO.of (hw _ hm))
theorem q_lays {G : GL} {U : State} (X : q_Xt G U) {C : String} {T : u_T} {N : Nat} (h : ∀ w ∈ u_ws C T N, w ∈ lw_tbl) (a : Array Value) : ∀ w ∈ u_ws C T N, w.before a U = true := by
  intro w hw
  refine q_word X (h w hw) ?_ a
  obtain ⟨k, -, rfl⟩ := List.mem_map.mp hw
  unfold u_lay
  split <;> rfl
variable {G : GL} {K : KC} {Q : State → Prop} {kc ks : Nat} {ex : Bool} {n : Nat} {pc : Nat} {ls : List (Option Value)} {st : List Value} {σ : Nat → va_E} {own : String} {b : ByteArray} {nL : Nat} {ret : Option FieldType} {R : Room} {hh : List (Nat × Nat × Nat × Nat)}
theorem A_getf (g : Gd G K own b nL ret R hh) {ix ci k id : Nat} {ty : FieldType} {fin : Bool} {fs : List Value} {v : Value} (fl : q_fl own ix ci k ty fin) (d : decode b pc = .ok (.getfield ix, 3)) (ho : σ id = .inr (ci, fs)) (hi : id < n) (hv : fs[k]? = some v)
    (kk : AJ G K Q kc ks ex n (pc + 3) ls (v :: st) σ) : AJ G K Q kc ks ex n pc ls (.ref (q_h G + id) :: st) σ := by
  intro lsA H locs h1 h2 h3 h4
  obtain ⟨C, T, N, ty0, hc, hk, hl, hin, hty, hnm, -, -, hC⟩ := fl
  have X := g.2.2.2.2.2.2.1
  have hts := q_lays X hin (k_a K)
  have h5 := h2 id hi
  rw [ho] at h5
  obtain ⟨r, e1, cell, q1, q2, q3, q4⟩ := h5
  have hr : r = (C, T, N) := Option.some.inj (e1.symm.trans hc)
  subst hr
  obtain ⟨hS, hfc, kC, hkC, hkind⟩ := (q_K X).1 ci _ hc
  obtain ⟨cf, kf, fi, f, hfi, hsl⟩ := hS k hk
  have hst : f.isStatic = false := (u_facts hfc hkC (u_lays hts (fun w h => h) hk) hfi).1
  rw [hC] at hfi
  have hslot : cell.slots[f.slot]? = some v := by rw [hsl, q4 k hk]; simp [vp_V, hv]
  rcases hl with hl | ⟨host, hl⟩
  · exact W.getf g.1 g.2.1 g.2.2.2.2.2.1 (q_word X hl rfl _) hfi hst q1 (by rw [q3]; exact fun h => by cases h) hslot rfl rfl d (kk lsA H locs h1 h2 h3 h4)
  · exact va_Wgetf g.1 g.2.1 g.2.2.2.2.2.1 (q_wordF X hl _) hfi hst q1 (by rw [q3]; exact fun h => by cases h) hslot rfl rfl d (kk lsA H locs h1 h2 h3 h4)
theorem q_vset {fs fs' : List Value} {k : Nat} {v : Value} (hk : k < fs.length) (h : fs.set k v = fs') (j : Nat) : updV (vp_V fs) k v j = vp_V fs' j := by rw [← h]; exact vp_updV_set hk v j
theorem A_putf (g : Gd G K own b nL ret R hh) {ix ci k id : Nat} {ty : FieldType} {fs fs' : List Value} {v : Value} (fl : q_fl own ix ci k ty false) (d : decode b pc = .ok (.putfield ix, 3)) (ho : σ id = .inr (ci, fs)) (hi : id < n) (hlen : k < fs.length) (hfs : fs.set k v = fs') (hn : narrow ty v = v) (hfit : fits ty v = true)
    (kk : ∀ σ2 : Nat → va_E, σ2 id = .inr (ci, fs') → (∀ j : Nat, j ≠ id → σ2 j = σ j) → AJ G K Q kc ks ex n (pc + 3) ls st σ2) : AJ G K Q kc ks ex n pc ls (v :: .ref (q_h G + id) :: st) σ := by
  intro lsA H locs h1 h2 h3 h4
  obtain ⟨C, T, N, ty0, hc, hk, hl, hin, hty, hnm, ety, hfin, hC⟩ := fl
  have X := g.2.2.2.2.2.2.1
  have hts := q_lays X hin (k_a K)
  have hap := va_apart (own := own) (s := k_s K) hts (fun w h => h) ty0 hty hnm (q_K X) hc
  have h5 := h2 id hi
  rw [ho] at h5
  obtain ⟨r, e1, cell, q1, q2, q3, q4⟩ := h5
  have hr : r = (C, T, N) := Option.some.inj (e1.symm.trans hc)
  subst hr
  obtain ⟨hS, hfc, kC, hkC, hkind⟩ := (q_K X).1 ci _ hc
  obtain ⟨cf, kf, fi, f, hfi, hsl⟩ := hS k hk
  have hlay := hts _ (u_in_lay hk)
  unfold u_lay at hlay
  rw [if_neg (by rw [hfin]; decide)] at hlay
  have hst : f.isStatic = false := (u_facts hfc hkC (u_lays hts (fun w h => h) hk) hfi).1
  have h6 := u_store hfc hkC hkind hlay hfi (by rw [hty k hk, ety]) hn hfit
  have fin2 : ∀ H' : Heap, H'[q_h G + id]? = some (cell.setSlot f.slot v) → H'.size = H.size → (∀ q, q ≠ q_h G + id → H'[q]? = H[q]?) → W (k_p K) G.1 (k_e K) (k_R K) (k_s K) (k_m K) (k_a K) (k_b K) (k_me K) (k_c K) H' (locs ++ [⟨q_h G + id, f.slot⟩]) kc ks Q (F0 (k_m K) (pc + 3) lsA st) := by
    intro H' e1 e2 e3
    rw [hsl] at e1
    refine kk (q_up σ id (.inr (ci, fs'))) (q_up_s _ _ _) (fun j hj => q_up_n _ _ hj) lsA H' _ h1 (h2.put ⟨_, hc, t_OB.to (V := updV (vp_V fs) k v) ⟨_, e1, q2, q3, t_set q4 hap hk v⟩ (fun j _ => q_vset hlen hfs j)⟩ e3) (h3.put e2) ?_
    exact h4.put e2 e3 (Nat.le_add_right _ _)
  have hlt : f.slot < cell.slots.size := by rw [hsl]; exact k2_hasslot (q4 k hk)
  rw [hC] at hfi
  rcases hl with hl | ⟨host, hl⟩
  · exact W.putK g.1 g.2.1 (f := f) ⟨g.2.2.2.2.2.1, q_word X hl rfl _, ⟨_, _, _, hfi⟩, hst⟩ (by rw [q2]; exact h6) q1 q3 hlt rfl rfl d fin2
  · exact va_WputK g.1 g.2.1 (f := f) g.2.2.2.2.2.1 (q_wordF X hl _) hfi hst (by rw [q2]; exact h6) q1 q3 hlt rfl rfl d fin2
/-- a final field, in its class's constructor -/
theorem A_putF (g : Gd G K own b nL ret R hh) {ix ci k id : Nat} {ty : FieldType} {fs fs' : List Value} {v : Value} (fl : q_fl own ix ci k ty true) (hme : (k_me K).name = "<init>") (hown : (vwCl[ci]?).map (fun q => q.1) = some own) (hfl : ∀ (C : String) (T : u_T) (N : Nat), vwCl[ci]? = some (C, T, N) → Cond.fieldLink own ix C (T k).2.1 (T k).2.2.1 ∈ lw_tbl) (d : decode b pc = .ok (.putfield ix, 3)) (ho : σ id = .inr (ci, fs)) (hi : id < n) (hlen : k < fs.length) (hfs : fs.set k v = fs') (hn : narrow ty v = v) (hfit : fits ty v = true)
    (kk : ∀ σ2 : Nat → va_E, σ2 id = .inr (ci, fs') → (∀ j : Nat, j ≠ id → σ2 j = σ j) → AJ G K Q kc ks ex n (pc + 3) ls st σ2) : AJ G K Q kc ks ex n pc ls (v :: .ref (q_h G + id) :: st) σ := by
  intro lsA H locs h1 h2 h3 h4
  obtain ⟨C, T, N, ty0, hc, hk, -, hin, hty, hnm, ety, hfin, hC⟩ := fl
  have hl := hfl C T N hc
  have hCo : C = own := by rw [hc] at hown; exact Option.some.inj hown
  have X := g.2.2.2.2.2.2.1
  have hts := q_lays X hin (k_a K)
  have hap := va_apart (own := own) (s := k_s K) hts (fun w h => h) ty0 hty hnm (q_K X) hc
  have h5 := h2 id hi
  rw [ho] at h5
  obtain ⟨r, e1, cell, q1, q2, q3, q4⟩ := h5
  have hr : r = (C, T, N) := Option.some.inj (e1.symm.trans hc)
  subst hr
  obtain ⟨hS, hfc, kC, hkC, hkind⟩ := (q_K X).1 ci _ hc
  obtain ⟨cf, kf, fi, f, hfi, hsl⟩ := hS k hk
  have hlay := hts _ (u_in_lay hk)
  unfold u_lay at hlay
  rw [if_pos hfin] at hlay
  have hst : f.isStatic = false := (u_facts hfc hkC (u_lays hts (fun w h => h) hk) hfi).1
  have hcf : (k_m K).cls = cf := by
    obtain ⟨_, _, c', _, _, _, -, -, hf', -, -, -, hown2, -⟩ := Cond.laysFinal_spec hlay
    have e1 : c' = cf := by have := hfi.symm.trans hf'; simp at this; exact this.1.symm
    rw [hC, hCo] at hown2
    rw [← e1]; exact Option.some.inj (g.2.2.2.2.2.1.symm.trans hown2)
  have h6 := u_fits hfc hkC hkind (Or.inr hlay) hfi (by rw [hty k hk, ety]) hn hfit
  have fin2 : ∀ H' : Heap, H'[q_h G + id]? = some (cell.setSlot f.slot v) → H'.size = H.size → (∀ q, q ≠ q_h G + id → H'[q]? = H[q]?) → W (k_p K) G.1 (k_e K) (k_R K) (k_s K) (k_m K) (k_a K) (k_b K) (k_me K) (k_c K) H' (locs ++ [⟨q_h G + id, f.slot⟩]) kc ks Q (F0 (k_m K) (pc + 3) lsA st) := by
    intro H' e1 e2 e3
    rw [hsl] at e1
    refine kk (q_up σ id (.inr (ci, fs'))) (q_up_s _ _ _) (fun j hj => q_up_n _ _ hj) lsA H' _ h1 (h2.put ⟨_, hc, t_OB.to (V := updV (vp_V fs) k v) ⟨_, e1, q2, q3, t_set q4 hap hk v⟩ (fun j _ => q_vset hlen hfs j)⟩ e3) (h3.put e2) ?_
    exact h4.put e2 e3 (Nat.le_add_right _ _)
  have hlt : f.slot < cell.slots.size := by rw [hsl]; exact k2_hasslot (q4 k hk)
  rw [hC] at hfi
  exact W.putFinK g.1 g.2.1 g.2.2.2.2.2.1 (q_word X hl rfl _) hfi hst hcf hme (by rw [q2]; exact h6) q1 q3 hlt rfl rfl d fin2
/-- the array classes -/
theorem q_arr {U : State} (X : q_Xt G U) {t : Nat} (ht : t < 7) : ArrOfT U (q_c G t) (q_ty t) ∧ va_RA U (q_c G t) (q_ty t) := by
  refine (q_K X).2 t (q_c G t, q_ty t) ?_
  show ((List.range 7).map fun k => (q_c G k, q_ty k))[t]? = _
  rw [List.getElem?_map, List.getElem?_range ht]; rfl
theorem q_inj {j len : Nat} (h : j < len) (hl : len < 2 ^ 31) : ¬ (nI j < 0 ∨ len ≤ (nI j).toNatClampNeg) := vp_in_nI h hl
theorem A_alen (g : Gd G K own b nL ret R hh) {t id len : Nat} {a : (Nat → Int32) ⊕ (Nat → Int64) ⊕ (Nat → UInt32) ⊕ (Nat → UInt64) ⊕ (Nat → Option Nat)} (d : decode b pc = .ok (.arraylength, 1)) (ho : σ id = .inl (q_c G t, len, a)) (ht : t < 7) (hi : id < n)
    (kk : AJ G K Q kc ks ex n (pc + 1) ls (.int (nI len) :: st) σ) : AJ G K Q kc ks ex n pc ls (.ref (q_h G + id) :: st) σ := by
  intro lsA H locs h1 h2 h3 h4
  have h5 := h2 id hi
  rw [ho] at h5
  have h6 : H[q_h G + id]? = some (vp_cell (q_c G t) (len, a)) := h5
  have hA := (q_arr (G := G) g.2.2.2.2.2.2.1 ht).1
  rcases a with f | f | f | f | f
  · exact W.alen g.1 g.2.1 h6 (hA len (fun j => .int (f j))) (by show (arrV _ _ _).slots.size.toInt32 = _; rw [arrV_size]; rfl) rfl rfl d (kk lsA H locs h1 h2 h3 h4)
  · exact W.alen g.1 g.2.1 h6 (hA len (fun j => .long (f j))) (by show (arrV _ _ _).slots.size.toInt32 = _; rw [arrV_size]; rfl) rfl rfl d (kk lsA H locs h1 h2 h3 h4)
  · exact W.alen g.1 g.2.1 h6 (hA len (fun j => .float (f j))) (by show (arrV _ _ _).slots.size.toInt32 = _; rw [arrV_size]; rfl) rfl rfl d (kk lsA H locs h1 h2 h3 h4)
  · exact W.alen g.1 g.2.1 h6 (hA len (fun j => .double (f j))) (by show (arrV _ _ _).slots.size.toInt32 = _; rw [arrV_size]; rfl) rfl rfl d (kk lsA H locs h1 h2 h3 h4)
  · exact W.alen g.1 g.2.1 h6 (hA len (fun j => va_rf (f j))) (by show (arrV _ _ _).slots.size.toInt32 = _; rw [arrV_size]; rfl) rfl rfl d (kk lsA H locs h1 h2 h3 h4)
theorem A_iald (g : Gd G K own b nL ret R hh) {id len j : Nat} {f : Nat → Nat} (d : decode b pc = .ok (.iaload, 1)) (ho : σ id = q_an G len f) (hi : id < n) (hj : j < len) (hl : len < 2 ^ 31)
    (kk : AJ G K Q kc ks ex n (pc + 1) ls (.int (nI (f j)) :: st) σ) : AJ G K Q kc ks ex n pc ls (.int (nI j) :: .ref (q_h G + id) :: st) σ := by
  intro lsA H locs h1 h2 h3 h4
  have h5 := h2 id hi
  rw [ho] at h5
  have h6 : H[q_h G + id]? = some (arrV (q_c G 0) len (fun j => .int (nI (f j)))) := h5
  exact W.iald (v := .int (nI (f j))) g.1 g.2.1 h6 ((q_arr (G := G) g.2.2.2.2.2.2.1 (t := 0) (by decide)).1 len _) (fun q => by cases q) (by rw [arrV_size]; exact q_inj hj hl) (by rw [nI_clamp (Nat.lt_trans hj hl), arrV_read _ _ hj]) rfl rfl d (kk lsA H locs h1 h2 h3 h4)
theorem A_bald (g : Gd G K own b nL ret R hh) {id len j : Nat} {f : Nat → Nat} (d : decode b pc = .ok (.baload, 1)) (ho : σ id = q_bn G len f) (hi : id < n) (hj : j < len) (hl : len < 2 ^ 31)
    (kk : AJ G K Q kc ks ex n (pc + 1) ls (.int (nI (f j)) :: st) σ) : AJ G K Q kc ks ex n pc ls (.int (nI j) :: .ref (q_h G + id) :: st) σ := by
  intro lsA H locs h1 h2 h3 h4
  have h5 := h2 id hi
  rw [ho] at h5
  have h6 : H[q_h G + id]? = some (arrV (q_c G 1) len (fun j => .int (nI (f j)))) := h5
  exact W.zald (v := .int (nI (f j))) g.1 g.2.1 h6 ((q_arr (G := G) g.2.2.2.2.2.2.1 (t := 1) (by decide)).1 len _) (fun q => by cases q) (by rw [arrV_size]; exact q_inj hj hl) (by rw [nI_clamp (Nat.lt_trans hj hl), arrV_read _ _ hj]) rfl rfl d (kk lsA H locs h1 h2 h3 h4)
theorem A_lald (g : Gd G K own b nL ret R hh) {id len j : Nat} {f : Nat → Int64} (d : decode b pc = .ok (.laload, 1)) (ho : σ id = q_ln G len f) (hi : id < n) (hj : j < len) (hl : len < 2 ^ 31)
    (kk : AJ G K Q kc ks ex n (pc + 1) ls (.long (f j) :: st) σ) : AJ G K Q kc ks ex n pc ls (.int (nI j) :: .ref (q_h G + id) :: st) σ := by
  intro lsA H locs h1 h2 h3 h4
  have h5 := h2 id hi
  rw [ho] at h5
  have h6 : H[q_h G + id]? = some (arrV (q_c G 5) len (fun j => .long (f j))) := h5
  exact W.lald (v := .long (f j)) g.1 g.2.1 h6 ((q_arr (G := G) g.2.2.2.2.2.2.1 (t := 5) (by decide)).1 len _) (fun q => by cases q) (by rw [arrV_size]; exact q_inj hj hl) (by rw [nI_clamp (Nat.lt_trans hj hl), arrV_read _ _ hj]) rfl rfl d (kk lsA H locs h1 h2 h3 h4)
theorem A_dald (g : Gd G K own b nL ret R hh) {id len j : Nat} {f : Nat → UInt64} (d : decode b pc = .ok (.daload, 1)) (ho : σ id = q_dn G len f) (hi : id < n) (hj : j < len) (hl : len < 2 ^ 31)
    (kk : AJ G K Q kc ks ex n (pc + 1) ls (.double (f j) :: st) σ) : AJ G K Q kc ks ex n pc ls (.int (nI j) :: .ref (q_h G + id) :: st) σ := by
  intro lsA H locs h1 h2 h3 h4
  have h5 := h2 id hi
  rw [ho] at h5
  have h6 : H[q_h G + id]? = some (arrV (q_c G 6) len (fun j => .double (f j))) := h5
  exact W.dald (v := .double (f j)) g.1 g.2.1 h6 ((q_arr (G := G) g.2.2.2.2.2.2.1 (t := 6) (by decide)).1 len _) (fun q => by cases q) (by rw [arrV_size]; exact q_inj hj hl) (by rw [nI_clamp (Nat.lt_trans hj hl), arrV_read _ _ hj]) rfl rfl d (kk lsA H locs h1 h2 h3 h4)
theorem A_aald (g : Gd G K own b nL ret R hh) {t id len j i : Nat} {C : String} {f : Nat → Option Nat} (d : decode b pc = .ok (.aaload, 1)) (ho : σ id = q_rn G t len f) (ht : t < 7) (htC : q_ty t = .object C) (hi : id < n) (hj : j < len) (hl : len < 2 ^ 31) (hf : f j = some i)
    (kk : AJ G K Q kc ks ex n (pc + 1) ls (.ref (q_h G + i) :: st) σ) : AJ G K Q kc ks ex n pc ls (.int (nI j) :: .ref (q_h G + id) :: st) σ := by
  intro lsA H locs h1 h2 h3 h4
  have h5 := h2 id hi
  rw [ho] at h5
  have h6 : H[q_h G + id]? = some (arrV (q_c G t) len (fun j => va_rf ((f j).map (fun i => q_h G + i)))) := h5
  exact W.aald (v := .ref (q_h G + i)) (ty := .object C) g.1 g.2.1 h6 (by rw [← htC]; exact (q_arr (G := G) g.2.2.2.2.2.2.1 ht).1 len _) rfl (fun q => by cases q) (by rw [arrV_size]; exact q_inj hj hl) (by rw [nI_clamp (Nat.lt_trans hj hl), arrV_read _ _ hj]; simp [hf, va_rf]) rfl rfl d (kk lsA H locs h1 h2 h3 h4)
theorem q_upd_n (f : Nat → Nat) (j x : Nat) : (fun k => Value.int (nI (va_up f j x k))) = updV (fun k => Value.int (nI (f k))) j (.int (nI x)) := by
  funext k
  by_cases h : k = j <;> simp [va_up, updV, h]
theorem A_iast (g : Gd G K own b nL ret R hh) {id len j x : Nat} {f : Nat → Nat} (d : decode b pc = .ok (.iastore, 1)) (ho : σ id = q_an G len f) (hi : id < n) (hj : j < len) (hl : len < 2 ^ 31)
    (kk : ∀ σ2 : Nat → va_E, σ2 id = q_an G len (va_up f j x) → (∀ i : Nat, i ≠ id → σ2 i = σ i) → AJ G K Q kc ks ex n (pc + 1) ls st σ2) : AJ G K Q kc ks ex n pc ls (.int (nI x) :: .int (nI j) :: .ref (q_h G + id) :: st) σ := by
  intro lsA H locs h1 h2 h3 h4
  have h5 := h2 id hi
  rw [ho] at h5
  have h6 : H[q_h G + id]? = some (arrV (q_c G 0) len (fun j => .int (nI (f j)))) := h5
  refine W.iast g.1 g.2.1 h6 ((q_arr (G := G) g.2.2.2.2.2.2.1 (t := 0) (by decide)).1 len _) (fun q => by cases q) (by rw [arrV_size]; exact q_inj hj hl) rfl rfl d fun H1 e z oq => ?_
  refine kk (q_up σ id (q_an G len (va_up f j x))) (q_up_s _ _ _) (fun i hi2 => q_up_n _ _ hi2) lsA H1 _ h1 (h2.put ?_ oq) (h3.put z) (h4.put z oq (Nat.le_add_right _ _))
  show H1[q_h G + id]? = some (arrV (q_c G 0) len (fun k => .int (nI (va_up f j x k))))
  rw [e, nI_clamp (Nat.lt_trans hj hl), arrV_store, q_upd_n]
theorem A_bast (g : Gd G K own b nL ret R hh) {id len j x : Nat} {f : Nat → Nat} (d : decode b pc = .ok (.bastore, 1)) (ho : σ id = q_bn G len f) (hi : id < n) (hj : j < len) (hl : len < 2 ^ 31) (hx : x ≤ 1)
    (kk : ∀ σ2 : Nat → va_E, σ2 id = q_bn G len (va_up f j x) → (∀ i : Nat, i ≠ id → σ2 i = σ i) → AJ G K Q kc ks ex n (pc + 1) ls st σ2) : AJ G K Q kc ks ex n pc ls (.int (nI x) :: .int (nI j) :: .ref (q_h G + id) :: st) σ := by
  intro lsA H locs h1 h2 h3 h4
  have h5 := h2 id hi
  rw [ho] at h5
  have h6 : H[q_h G + id]? = some (arrV (q_c G 1) len (fun j => .int (nI (f j)))) := h5
  refine W.zast g.1 g.2.1 h6 ((q_arr (G := G) g.2.2.2.2.2.2.1 (t := 1) (by decide)).1 len _) (fun q => by cases q) (by rw [arrV_size]; exact q_inj hj hl) rfl rfl d fun H1 e z oq => ?_
  refine kk (q_up σ id (q_bn G len (va_up f j x))) (q_up_s _ _ _) (fun i hi2 => q_up_n _ _ hi2) lsA H1 _ h1 (h2.put ?_ oq) (h3.put z) (h4.put z oq (Nat.le_add_right _ _))
  show H1[q_h G + id]? = some (arrV (q_c G 1) len (fun k => .int (nI (va_up f j x k))))
  have hnar : narrow .boolean (.int (nI x)) = .int (nI x) := by
    rcases (show x = 0 ∨ x = 1 by omega) with rfl | rfl <;> rfl
  rw [e, hnar, nI_clamp (Nat.lt_trans hj hl), arrV_store, q_upd_n]
theorem A_last (g : Gd G K own b nL ret R hh) {id len j : Nat} {x : Int64} {f : Nat → Int64} (d : decode b pc = .ok (.lastore, 1)) (ho : σ id = q_ln G len f) (hi : id < n) (hj : j < len) (hl : len < 2 ^ 31)
    (kk : ∀ σ2 : Nat → va_E, σ2 id = q_ln G len (va_up f j x) → (∀ i : Nat, i ≠ id → σ2 i = σ i) → AJ G K Q kc ks ex n (pc + 1) ls st σ2) : AJ G K Q kc ks ex n pc ls (.long x :: .int (nI j) :: .ref (q_h G + id) :: st) σ := by
  intro lsA H locs h1 h2 h3 h4
  have h5 := h2 id hi
  rw [ho] at h5
  have h6 : H[q_h G + id]? = some (arrV (q_c G 5) len (fun j => .long (f j))) := h5
  refine W.last g.1 g.2.1 h6 ((q_arr (G := G) g.2.2.2.2.2.2.1 (t := 5) (by decide)).1 len _) (fun q => by cases q) (by rw [arrV_size]; exact q_inj hj hl) rfl rfl d fun H1 e z oq => ?_
  refine kk (q_up σ id (q_ln G len (va_up f j x))) (q_up_s _ _ _) (fun i hi2 => q_up_n _ _ hi2) lsA H1 _ h1 (h2.put ?_ oq) (h3.put z) (h4.put z oq (Nat.le_add_right _ _))
  show H1[q_h G + id]? = some (arrV (q_c G 5) len (fun k => .long (va_up f j x k)))
  rw [e, nI_clamp (Nat.lt_trans hj hl), arrV_store]
  congr 1
  congr 1
  funext k
  by_cases h : k = j <;> simp [va_up, updV, h]
theorem A_dast (g : Gd G K own b nL ret R hh) {id len j : Nat} {x : UInt64} {f : Nat → UInt64} (d : decode b pc = .ok (.dastore, 1)) (ho : σ id = q_dn G len f) (hi : id < n) (hj : j < len) (hl : len < 2 ^ 31)
    (kk : ∀ σ2 : Nat → va_E, σ2 id = q_dn G len (va_up f j x) → (∀ i : Nat, i ≠ id → σ2 i = σ i) → AJ G K Q kc ks ex n (pc + 1) ls st σ2) : AJ G K Q kc ks ex n pc ls (.double x :: .int (nI j) :: .ref (q_h G + id) :: st) σ := by
  intro lsA H locs h1 h2 h3 h4
  have h5 := h2 id hi
  rw [ho] at h5
  have h6 : H[q_h G + id]? = some (arrV (q_c G 6) len (fun j => .double (f j))) := h5
  refine W.dast g.1 g.2.1 h6 ((q_arr (G := G) g.2.2.2.2.2.2.1 (t := 6) (by decide)).1 len _) (fun q => by cases q) (by rw [arrV_size]; exact q_inj hj hl) rfl rfl d fun H1 e z oq => ?_
  refine kk (q_up σ id (q_dn G len (va_up f j x))) (q_up_s _ _ _) (fun i hi2 => q_up_n _ _ hi2) lsA H1 _ h1 (h2.put ?_ oq) (h3.put z) (h4.put z oq (Nat.le_add_right _ _))
  show H1[q_h G + id]? = some (arrV (q_c G 6) len (fun k => .double (va_up f j x k)))
  rw [e, nI_clamp (Nat.lt_trans hj hl), arrV_store]
  congr 1
  congr 1
  funext k
  by_cases h : k = j <;> simp [va_up, updV, h]
end
