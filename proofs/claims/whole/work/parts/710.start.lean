/-! THE WORLD AT THE ENTRY -/
section
theorem ls_world {s : State} {b : Addr} (hts : ∀ w ∈ lw_tbl, w.before #[Value.ref b] s = true) : ∃ (dC : Nat → ClassId) (dI : Nat → Nat → Nat) (cA : Nat → ClassId), va_K (dC, dI) vwCl ((List.range 7).map fun k => (cA k, q_ty k)) s := by
  obtain ⟨c0, i0, k0⟩ := u_known (C := RX0) (T := TX0) (N := 9) (n := 9) hts uw_0 (hts _ (q_mt 72 (by decide +kernel)))
  obtain ⟨c1, i1, k1⟩ := u_known (C := RX1) (T := TX1) (N := 5) (n := 5) hts uw_1 (hts _ (q_mt 226 (by decide +kernel)))
  obtain ⟨c2, i2, k2⟩ := u_known (C := RX2) (T := TX2) (N := 3) (n := 3) hts uw_2 (hts _ (q_mt 315 (by decide +kernel)))
  obtain ⟨c3, i3, k3⟩ := u_known (C := RX3) (T := TX3) (N := 5) (n := 5) hts uw_3 (hts _ (q_mt 37 (by decide +kernel)))
  obtain ⟨c4, i4, k4⟩ := u_known (C := RX4) (T := TX4) (N := 2) (n := 2) hts uw_4 (hts _ (q_mt 218 (by decide +kernel)))
  obtain ⟨c5, i5, k5⟩ := u_known (C := RX5) (T := TX5) (N := 2) (n := 2) hts uw_5 (hts _ (q_mt 202 (by decide +kernel)))
  obtain ⟨c6, i6, k6⟩ := u_known (C := RX6) (T := TX6) (N := 7) (n := 7) hts uw_6 (hts _ (q_mt 80 (by decide +kernel)))
  obtain ⟨c7, i7, k7⟩ := u_known (C := RX7) (T := TX7) (N := 6) (n := 6) hts uw_7 (hts _ (q_mt 112 (by decide +kernel)))
  obtain ⟨c8, i8, k8⟩ := u_known (C := RX8) (T := TX8) (N := 12) (n := 12) hts uw_8 (hts _ (q_mt 259 (by decide +kernel)))
  obtain ⟨c9, i9, k9⟩ := u_known (C := RX9) (T := TX9) (N := 6) (n := 6) hts uw_9 (hts _ (q_mt 43 (by decide +kernel)))
  obtain ⟨c10, i10, k10⟩ := u_known (C := RX10) (T := TX10) (N := 15) (n := 15) hts uw_10 (hts _ (q_mt 29 (by decide +kernel)))
  obtain ⟨c11, i11, k11⟩ := u_known (C := RX11) (T := TX11) (N := 34) (n := 34) hts uw_11 (hts _ (q_mt 1397 (by decide +kernel)))
  obtain ⟨a0, b0, p0, n0, m0, q0⟩ := Cond.arrayClass_spec (type := .int) (hts _ (q_mt 70 (by decide +kernel)))
  obtain ⟨a1, b1, p1, n1, m1, q1⟩ := Cond.arrayClass_spec (type := .boolean) (hts _ (q_mt 478 (by decide +kernel)))
  obtain ⟨a5, b5, p5, n5, m5, q5⟩ := Cond.arrayClass_spec (type := .long) (hts _ (q_mt 2122 (by decide +kernel)))
  obtain ⟨a6, b6, p6, n6, m6, q6⟩ := Cond.arrayClass_spec (type := .double) (hts _ (q_mt 2123 (by decide +kernel)))
  obtain ⟨p2, a2, b2, f2, -, m2, q2, n2⟩ := Cond.arrayOver_spec (n := "GoldenHeaps$Game") (hts _ (q_mt 321 (by decide +kernel)))
  obtain ⟨p3, a3, b3, f3, -, m3, q3, n3⟩ := Cond.arrayOver_spec (n := "GoldenHeaps$Rule") (hts _ (q_mt 78 (by decide +kernel)))
  obtain ⟨p4, a4, b4, f4, -, m4, q4, n4⟩ := Cond.arrayOver_spec (n := "GoldenHeaps$Table") (hts _ (q_mt 224 (by decide +kernel)))
  refine ⟨fun k => match k with | 0 => c0 | 1 => c1 | 2 => c2 | 3 => c3 | 4 => c4 | 5 => c5 | 6 => c6 | 7 => c7 | 8 => c8 | 9 => c9 | 10 => c10 | _ => c11, fun k => match k with | 0 => i0 | 1 => i1 | 2 => i2 | 3 => i3 | 4 => i4 | 5 => i5 | 6 => i6 | 7 => i7 | 8 => i8 | 9 => i9 | 10 => i10 | _ => i11, fun k => match k with | 0 => a0 | 1 => a1 | 2 => a2 | 3 => a3 | 4 => a4 | 5 => a5 | _ => a6, ?_, ?_⟩
  · intro c q hq
    match c, hq with
    | 0, hq => cases hq; exact k0
    | 1, hq => cases hq; exact k1
    | 2, hq => cases hq; exact k2
    | 3, hq => cases hq; exact k3
    | 4, hq => cases hq; exact k4
    | 5, hq => cases hq; exact k5
    | 6, hq => cases hq; exact k6
    | 7, hq => cases hq; exact k7
    | 8, hq => cases hq; exact k8
    | 9, hq => cases hq; exact k9
    | 10, hq => cases hq; exact k10
    | 11, hq => cases hq; exact k11
    | c + 12, hq => simp [vwCl] at hq
  · intro k q hk
    by_cases h7 : k < 7
    · rw [List.getElem?_map, List.getElem?_range h7] at hk
      have hk2 := (Option.some.inj hk).symm
      rw [hk2]
      match k, h7 with
      | 0, _ => exact ⟨fun n z => ⟨fun k h => (by cases h), b0, m0, p0, q0⟩, n0⟩
      | 1, _ => exact ⟨fun n z => ⟨fun k h => (by cases h), b1, m1, p1, q1⟩, n1⟩
      | 2, _ => exact ⟨fun n z => ⟨fun k h => (by cases h), b2, m2, p2, q2⟩, ⟨b2, p2, m2, q2, f2, n2⟩⟩
      | 3, _ => exact ⟨fun n z => ⟨fun k h => (by cases h), b3, m3, p3, q3⟩, ⟨b3, p3, m3, q3, f3, n3⟩⟩
      | 4, _ => exact ⟨fun n z => ⟨fun k h => (by cases h), b4, m4, p4, q4⟩, ⟨b4, p4, m4, q4, f4, n4⟩⟩
      | 5, _ => exact ⟨fun n z => ⟨fun k h => (by cases h), b5, m5, p5, q5⟩, n5⟩
      | 6, _ => exact ⟨fun n z => ⟨fun k h => (by cases h), b6, m6, p6, q6⟩, n6⟩
      | k + 7, h => exact absurd h (by omega)
    · rw [List.getElem?_eq_none (by simp; omega)] at hk
      cases hk
set_option maxHeartbeats 4000000 in
theorem whole_start0 {p : Program} {e : Env} {s : State} {m : MethodId} {below : List Frame} {meth : Method} {c : Code} (hfd : q_fdn) (hdd : q_ddn) (hf2 : q_f2n) (hds : q_dcs) (l : Launch) (hflags : l.flags = flags0) {b L : Nat} {xs : Nat → Int32} (hL : L ≤ 3072) (hx : p.tables.exec = Jvm.exec) (hb : c.code = code) (hr : meth.sig.returnType = ret) (hml : c.maxLocals = 9) (hown : s.vm.findClass RL = some m.cls) (hts : ∀ w ∈ lw_tbl, w.before #[Value.ref b] s = true) (hX : va_X b L xs s s.heap) (hbl : b < s.heap.size) (hlocks : meth.locks = false) (hgv : (Jvm.Cond.and given_1 narrow_1).before #[Value.ref b] s = true)
    (Q : State → Prop) (hQ : ∀ (kc ks : Nat) (lsA : Array Slot) (H : Heap), kc ≤ 601024 → ks ≤ 7293034 → W p l e room_1 s m #[Value.ref b] below meth c H [] kc ks Q (F0 m 3069 lsA [.int 1])) : W p l e room_1 s m #[Value.ref b] below meth c s.heap [] 0 0 Q (entryFrame m ([Value.ref b] : List Value).toArray 9) := by
  obtain ⟨dC, dI, cA, hK⟩ := ls_world hts
  have hOk : q_Ok (l, (dC, dI), cA, s.heap.size, s) := ⟨hflags, rfl, ⟨b, hts, hgv⟩, hK⟩
  have hXt : q_Xt (l, (dC, dI), cA, s.heap.size, s) s := ⟨hOk, State.WarmedH.refl s, fun _ _ => rfl⟩
  obtain ⟨hh, hhe⟩ : ∃ hh : List (Nat × Nat × Nat × Nat), c.exceptionTable.toList = tableOf hh := ⟨_, (table_eq c.exceptionTable.toList).symm⟩
  have hg : Gd (l, (dC, dI), cA, s.heap.size, s) (p, e, s, m, #[Value.ref b], below, meth, c, room_1) RL code 9 ret room_1 hh := ⟨hx, hb, hml, hr, hlocks, hown, hXt, Nat.le_refl _, rfl, hhe⟩
  have hXs : q_scr (l, (dC, dI), cA, s.heap.size, s) (p, e, s, m, #[Value.ref b], below, meth, c, room_1) b L xs := ⟨hX, hbl, Nat.not_le.mpr hbl, by omega⟩
  have hl := lv_entry ([.ref b]) (n := 9) (Nat.le_of_ble_eq_true rfl)
  rw [lg_entry_eq]
  refine law_main (l, (dC, dI), cA, s.heap.size, s) (p, e, s, m, #[Value.ref b], below, meth, c, room_1) Q hh hg b L xs hXs hL hfd hdd hf2 hds ?_ (fun _ => .inr (0, [])) _ s.heap [] ?_ ?_ ?_ ?_
  · intro kc ks ls σ hkc hks lsA H locs h1 h2 h3 h4
    refine lv_iconst (v := 1) hx hb dL_law_3068 (by decide) ?_
    refine va_forget h4.2.2 ?_
    exact hQ kc ks lsA H hkc hks
  · show q_lh _ c.maxLocals _
    rw [hml]
    refine q_has_lh hl fun i v hi => ?_
    match i, hi with
    | 0, hi => cases hi; exact List.mem_cons_self
    | 1, hi => cases hi
    | 2, hi => cases hi
    | 3, hi => cases hi
    | 4, hi => cases hi
    | 5, hi => cases hi
    | 6, hi => cases hi
    | 7, hi => cases hi
    | 8, hi => cases hi
    | i + 9, hi => simp at hi
  · intro i hi
    exact absurd hi (Nat.not_lt_zero i)
  · exact ⟨Nat.le_refl _, fun _ => rfl⟩
  · exact va_S.rf
end
