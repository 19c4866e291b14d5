/-! THE SYSTEM'S WORLD: cell i of it stands at hs + i; σ i is what it holds. G: launch, class numbers, array classes, hs, the law's start. -/
section
abbrev GL : Type := Launch × va_G × (Nat → ClassId) × Nat × State
def q_h (G : GL) : Nat := G.2.2.2.1
def q_0 (G : GL) : State := G.2.2.2.2
def q_c (G : GL) : Nat → ClassId := G.2.2.1
def q_ty : Nat → FieldType := fun k => match k with
  | 0 => .int
  | 1 => .boolean
  | 2 => .object "GoldenHeaps$Game"
  | 3 => .object "GoldenHeaps$Rule"
  | 4 => .object "GoldenHeaps$Table"
  | 5 => .long
  | _ => .double
def q_tys (G : GL) : List (ClassId × FieldType) := (List.range 7).map fun k => (q_c G k, q_ty k)
def q_Ok (G : GL) : Prop := G.1.flags = flags0 ∧ (q_0 G).heap.size = q_h G ∧ (∃ b : Addr, (∀ w ∈ lw_tbl, w.before #[Value.ref b] (q_0 G) = true) ∧ (Jvm.Cond.and given_1 narrow_1).before #[Value.ref b] (q_0 G) = true) ∧ va_K G.2.1 vwCl (q_tys G) (q_0 G)
/-- a later state of the law's start: what lay below hs lies as it lay -/
def q_Xt (G : GL) (U : State) : Prop := q_Ok G ∧ (q_0 G).WarmedH U.vm ∧ ∀ q : Nat, q < q_h G → U.heap[q]? = (q_0 G).heap[q]?
def q_P (G : GL) (n : Nat) (σ : Nat → va_E) (H : Heap) : Prop := ∀ i : Nat, i < n → va_at G.2.1 vwCl (q_h G + i, σ i) H
def q_Z (G : GL) (ex : Bool) (n : Nat) (H : Heap) : Prop := q_h G + n ≤ H.size ∧ (ex = true → H.size = q_h G + n)
def q_W (G : GL) (ex : Bool) (n : Nat) (σ : Nat → va_E) (U : State) : Prop := q_Xt G U ∧ q_P G n σ U.heap ∧ q_Z G ex n U.heap
def q_up (σ : Nat → va_E) (k : Nat) (e : va_E) : Nat → va_E := fun j => if j = k then e else σ j
theorem q_up_s (σ : Nat → va_E) (k : Nat) (e : va_E) : q_up σ k e k = e := if_pos rfl
theorem q_up_n (σ : Nat → va_E) {k j : Nat} (e : va_E) (h : j ≠ k) : q_up σ k e j = σ j := if_neg h
/-- a word of the tables that outlives the warming of classes -/
def q_gw (w : Cond) : Bool := w.onTables && w.keepsFace
theorem q_word {G : GL} {U : State} (X : q_Xt G U) {w : Cond} (hm : w ∈ lw_tbl) (hg : q_gw w = true) (a : Array Value) : w.before a U = true := by
  obtain ⟨⟨-, -, ⟨b, hw, -⟩, -⟩, hW, -⟩ := X
  have h1 : w.before #[Value.ref b] ((q_0 G).setVm U.vm) = true := Cond.before_shiftedFace (State.Shifted.of_warmed hW) w (by simp only [q_gw, Bool.and_eq_true] at hg; exact hg.2) (hw w hm)
  have h2 := Cond.onTables_vm (A := a) (A' := #[Value.ref b]) (U := U) (U' := q_0 G) U.vm w (by simp only [q_gw, Bool.and_eq_true] at hg; exact hg.1)
  rw [State.setVm_self] at h2
  rw [h2]; exact h1
theorem q_wordA {G : GL} {U : State} (X : q_Xt G U) {ty : FieldType} (hm : Cond.arrayClass ty ∈ lw_tbl) (a : Array Value) : (Cond.arrayClass ty).before a U = true := by
  obtain ⟨⟨-, -, ⟨b, hw, -⟩, -⟩, hW, -⟩ := X
  have h1 : (Cond.arrayClass ty).before #[Value.ref b] ((q_0 G).setVm U.vm) = true := Cond.before_shiftedFace (State.Shifted.of_warmed hW) _ rfl (hw _ hm)
  exact h1
theorem q_K {G : GL} {U : State} (X : q_Xt G U) : va_K G.2.1 vwCl (q_tys G) U := va_K.moved X.2.1.alike X.1.2.2.2
/-- the world of a state that came from another one: below hs nothing changed -/
theorem q_Xt.step {G : GL} {s t : State} (X : q_Xt G s) (hW : s.WarmedH t.vm) (h : ∀ q : Nat, q < q_h G → t.heap[q]? = s.heap[q]?) : q_Xt G t :=
  ⟨X.1, State.WarmedH.trans X.2.1 hW, fun q hq => (h q hq).trans (X.2.2 q hq)⟩
abbrev q_A (G : GL) : Nat → Prop := fun q => q_h G ≤ q
theorem q_below {G : GL} {s : State} {H : Heap} {locs : List Loc} (hz : q_h G ≤ s.heap.size) (hS : va_S (q_A G) s.heap H locs) {q : Nat} (hq : q < q_h G) : H[q]? = s.heap[q]? := hS.2.1 q (Nat.lt_of_lt_of_le hq hz) (Nat.not_le.mpr hq)
theorem q_Xt.at {G : GL} {s t : State} {H : Heap} {locs : List Loc} (X : q_Xt G s) (hz : q_h G ≤ s.heap.size) (hS : va_S (q_A G) s.heap H locs) (ht : t.heap = H) (hW : s.WarmedH t.vm) : q_Xt G t :=
  X.step hW fun q hq => by rw [ht]; exact q_below hz hS hq
theorem q_P.put {G : GL} {n : Nat} {σ : Nat → va_E} {H H1 : Heap} {i : Nat} {e : va_E} (h : q_P G n σ H) (hi : va_at G.2.1 vwCl (q_h G + i, e) H1) (oq : ∀ q : Nat, q ≠ q_h G + i → H1[q]? = H[q]?) : q_P G n (q_up σ i e) H1 := by
  intro j hj
  by_cases hji : j = i
  · subst hji; rw [q_up_s]; exact hi
  · rw [q_up_n σ e hji]; exact (h j hj).kept (oq _ (fun z => hji (Nat.add_left_cancel z)))
theorem q_P.push {G : GL} {n : Nat} {σ : Nat → va_E} {H H1 : Heap} {e : va_E} (h : q_P G n σ H) (hi : va_at G.2.1 vwCl (q_h G + n, e) H1) (oq : ∀ q : Nat, q < q_h G + n → H1[q]? = H[q]?) : q_P G (n + 1) (q_up σ n e) H1 := by
  intro j hj
  by_cases hji : j = n
  · subst hji; rw [q_up_s]; exact hi
  · rw [q_up_n σ e hji]; exact (h j (by omega)).kept (oq _ (by show q_h G + j < _; omega))
theorem q_P.cong {G : GL} {n : Nat} {σ τ : Nat → va_E} {H : Heap} (h : q_P G n σ H) (e : ∀ i, i < n → σ i = τ i) : q_P G n τ H := fun i hi => by rw [← e i hi]; exact h i hi
theorem q_Z.put {G : GL} {ex : Bool} {n : Nat} {H H1 : Heap} (h : q_Z G ex n H) (z : H1.size = H.size) : q_Z G ex n H1 := ⟨by rw [z]; exact h.1, fun q => by rw [z]; exact h.2 q⟩
theorem q_Z.push {G : GL} {ex : Bool} {n : Nat} {H H1 : Heap} (he : ex = true) (h : q_Z G ex n H) (z : H1.size = H.size + 1) : q_Z G ex (n + 1) H1 := ⟨by rw [z, h.2 he]; omega, fun _ => by rw [z, h.2 he]; omega⟩
end
/-! THE LOCALS BY THEIR PLACES -/
section
def q_lh (ls : Array Slot) (nL : Nat) (l : List (Option Value)) : Prop := ls.size = nL ∧ lv_wf ls ∧ ∀ (i : Nat) (v : Value), l[i]? = some (some v) → ls[i]? = some (.val v)
def q_pairs (l : List (Option Value)) : List (Nat × Value) := (List.range l.length).filterMap fun i => match l[i]? with
  | some (some v) => some (i, v)
  | _ => none
theorem q_mem_pairs {l : List (Option Value)} {i : Nat} {v : Value} : (i, v) ∈ q_pairs l ↔ l[i]? = some (some v) := by
  constructor
  · intro h
    obtain ⟨j, -, hj⟩ := List.mem_filterMap.mp h
    split at hj
    · rename_i w hw; cases hj; exact hw
    · cases hj
  · intro h
    have hl : i < l.length := (List.getElem?_eq_some_iff.mp h).1
    exact List.mem_filterMap.mpr ⟨i, List.mem_range.mpr hl, by rw [h]⟩
theorem q_lh_has {ls : Array Slot} {nL : Nat} {l : List (Option Value)} (h : q_lh ls nL l) : lv_has ls nL (q_pairs l) := ⟨h.1, h.2.1, fun q hq => h.2.2 q.1 q.2 (q_mem_pairs.mp hq)⟩
theorem q_has_lh {ls : Array Slot} {nL : Nat} {l : List (Option Value)} {lv : List (Nat × Value)} (h : lv_has ls nL lv) (hm : ∀ (i : Nat) (v : Value), l[i]? = some (some v) → (i, v) ∈ lv) : q_lh ls nL l := ⟨h.1, h.2.1, fun i v hi => h.2.2 (i, v) (hm i v hi)⟩
/-- storing a value of one slot at i: the rest but a long that reached into i -/
def q_c1 (l : List (Option Value)) (i : Nat) : Prop := ∀ (j : Nat) (v : Value), l[j]? = some (some v) → j + 1 = i → v.category = 1
theorem q_store1 {ls' : Array Slot} {nL i : Nat} {l : List (Option Value)} {v : Value} (hc : q_c1 l i) (h : lv_has ls' nL ((i, v) :: (q_pairs l).filter (fun q => !(q.1 == i) && !(q.1 + 1 == i && q.2.category == 2)))) : q_lh ls' nL (l.set i (some v)) := by
  refine q_has_lh h fun j w hj => ?_
  by_cases hji : j = i
  · subst hji
    have hl : j < l.length := by have h9 := (List.getElem?_eq_some_iff.mp hj).1; rw [List.length_set] at h9; exact h9
    rw [List.getElem?_set_self hl] at hj
    cases hj
    exact List.mem_cons_self
  · rw [List.getElem?_set_ne (Ne.symm hji)] at hj
    refine List.mem_cons_of_mem _ (List.mem_filter.mpr ⟨q_mem_pairs.mpr hj, ?_⟩)
    by_cases hj1 : j + 1 = i
    · have := hc j w hj hj1
      simp [hji, this]
    · simp [hji, hj1]
theorem q_store2 {ls' : Array Slot} {nL i : Nat} {l : List (Option Value)} {v : Value} (hc : q_c1 l i) (hn : l[i + 1]? = some none ∨ l[i + 1]? = none) (h : lv_has ls' nL ((i, v) :: (q_pairs l).filter (fun q => !(q.1 == i) && (!(q.1 == i + 1) && !(q.1 + 1 == i && q.2.category == 2))))) : q_lh ls' nL (l.set i (some v)) := by
  refine q_has_lh h fun j w hj => ?_
  by_cases hji : j = i
  · subst hji
    have hl : j < l.length := by have h9 := (List.getElem?_eq_some_iff.mp hj).1; rw [List.length_set] at h9; exact h9
    rw [List.getElem?_set_self hl] at hj
    cases hj
    exact List.mem_cons_self
  · rw [List.getElem?_set_ne (Ne.symm hji)] at hj
    refine List.mem_cons_of_mem _ (List.mem_filter.mpr ⟨q_mem_pairs.mpr hj, ?_⟩)
    have hj2 : j ≠ i + 1 := by
      intro q; subst q
      rcases hn with hn | hn <;> (rw [hn] at hj; cases hj)
    by_cases hj1 : j + 1 = i
    · have := hc j w hj hj1
      simp [hji, this, hj2]
    · simp [hji, hj1, hj2]
/-- forgetting a local -/
theorem q_lh.drop {ls : Array Slot} {nL i : Nat} {l : List (Option Value)} (h : q_lh ls nL l) : q_lh ls nL (l.set i none) := ⟨h.1, h.2.1, fun j v hj => by
  by_cases hji : j = i
  · subst hji
    have hl : j < l.length := by have h9 := (List.getElem?_eq_some_iff.mp hj).1; rw [List.length_set] at h9; exact h9
    rw [List.getElem?_set_self hl] at hj
    cases hj
  · rw [List.getElem?_set_ne (Ne.symm hji)] at hj
    exact h.2.2 j v hj⟩
/-- the locals at a method's entry -/
def q_arg : List Value → List (Option Value)
  | [] => []
  | v :: r => if v.category = 2 then some v :: none :: q_arg r else some v :: q_arg r
theorem q_arg_at : ∀ (vs : List Value) (k i : Nat) (v : Value), (q_arg vs)[i]? = some (some v) → (k + i, v) ∈ lv_args k vs := by
  intro vs
  induction vs with
  | nil => intro k i v h; simp [q_arg] at h
  | cons a r ih =>
    intro k i v h
    unfold q_arg at h
    by_cases hc : a.category = 2
    · rw [if_pos hc] at h
      match i, h with
      | 0, h => cases h; simp [lv_args]
      | 1, h => cases h
      | i + 2, h =>
        have h2 : (q_arg r)[i]? = some (some v) := h
        have h3 := ih (k + 2) i v h2
        simp only [lv_args, hc]
        refine List.mem_cons_of_mem _ ?_
        simpa [Nat.add_assoc, Nat.add_comm 2 i] using h3
    · rw [if_neg hc] at h
      match i, h with
      | 0, h => cases h; simp [lv_args]
      | i + 1, h =>
        have h2 : (q_arg r)[i]? = some (some v) := h
        have h3 := ih (k + 1) i v h2
        have hc1 : a.category = 1 := (lv_cat a).resolve_right hc
        simp only [lv_args, hc1]
        refine List.mem_cons_of_mem _ ?_
        simpa [Nat.add_assoc, Nat.add_comm 1 i] using h3
end
