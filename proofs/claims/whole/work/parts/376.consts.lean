section
variable {G : GL}
theorem q_gdm (bs : List Nat) (j : Nat) (h : j < bs.length) : ([bs.map nI].getD 0 []).getD j 0 = nI (bs.getD j 0) := by
  show (bs.map nI).getD j 0 = _
  rw [List.getD_eq_getElem?_getD, List.getD_eq_getElem?_getD, List.getElem?_map, List.getElem?_eq_getElem h]
  rfl
theorem q_stof (h : q_Ok G) {tm : Term} {bs : List Nat} (b : Addr) (hn : bs.length < 2 ^ 31) (hb : ∀ j : Nat, bs.getD j 0 < 128) (hex : (Cond.exactly tm "java/lang/String").before #[Value.ref b] (q_0 G) = true) (hco : (Cond.eq (.field tm "java/lang/String" "coder" "B") (.int 0)).before #[Value.ref b] (q_0 G) = true) (har : (Cond.arrayOf (.field tm "java/lang/String" "value" "[B") .byte).before #[Value.ref b] (q_0 G) = true) (hle : (Cond.eq (.length (.field tm "java/lang/String" "value" "[B")) (.int (Int32.ofNat bs.length))).before #[Value.ref b] (q_0 G) = true) (hel : ∀ j : Nat, j < bs.length → (Cond.eq (.elem (.field tm "java/lang/String" "value" "[B") (.int (Int32.ofNat j))) (.int (nI (bs.getD j 0)))).before #[Value.ref b] (q_0 G) = true) : ∃ a : Nat, tm.eval #[Value.ref b] (q_0 G) none [] (q_0 G) = some (.ref a) ∧ q_st G a bs := by
  obtain ⟨adK, adV, ⟨h1, -⟩, h2⟩ := vk_Sof (args := #[Value.ref b]) (s := q_0 G) (N := 1) (tm := fun _ => tm) (len := [bs.length]) (byt := [bs.map nI]) (A := q_A G) (fun i hi => by
    rw [show i = 0 by omega]; exact hn) (fun i hi => hex) (fun i hi => hco) (fun i hi => har) (fun i hi => by rw [show i = 0 by omega]; exact hle) (fun i hi j hj => by
    rw [show i = 0 by omega] at hj ⊢
    have e : ([bs.map nI].getD 0 []).getD j 0 = nI (bs.getD j 0) := q_gdm bs j hj
    rw [e]; exact hel j hj) (fun i j hi hj hij => absurd (by omega) hij) (q_hA0 h)
  obtain ⟨g1, g2, g3, g4⟩ := h1 0 (by decide)
  refine ⟨adK 0, h2 0 (by decide), ⟨adV 0, g1, g2, g3, ?_⟩, hn, hb⟩
  obtain ⟨cell, q1, q2, q3, q4, q5, q6, q7⟩ := g4
  exact ⟨cell, q1, q2, q3, q4, q5, fun j hj => (q6 j hj).trans (by
    have e : ([bs.map nI].getD 0 []).getD j 0 = nI (bs.getD j 0) := q_gdm bs j hj
    exact congrArg (fun z => some (Value.int z)) e), q7⟩
end
