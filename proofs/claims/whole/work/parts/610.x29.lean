section
def x_pj (G : GL) (σ : Nat → va_E) : Prop := ∃ (bT skT : Nat) (kdT fiT seT tfT tsT : Nat → Nat), σ 236 = o6 G (236) (nI (bT)) (nI (skT)) ∧ σ (236 + 1) = q_an G 8 kdT ∧ σ (236 + 2) = q_an G 8 fiT ∧ σ (236 + 3) = q_an G 8 seT ∧ σ (236 + 4) = q_an G 8 tfT ∧ σ (236 + 5) = q_an G 8 tsT
theorem x_pj_e {G : GL} {σ σ2 : Nat → va_E} (e : ∀ i : Nat, 236 ≤ i → i ≤ 241 → σ2 i = σ i) (h : x_pj G σ) : x_pj G σ2 := by
  obtain ⟨b, sk, kd, fi, se, tf, ts, h0, h1, h2, h3, h4, h5⟩ := h
  exact ⟨b, sk, kd, fi, se, tf, ts, (e _ (by omega) (by omega)).trans h0, (e _ (by omega) (by omega)).trans h1, (e _ (by omega) (by omega)).trans h2, (e _ (by omega) (by omega)).trans h3, (e _ (by omega) (by omega)).trans h4, (e _ (by omega) (by omega)).trans h5⟩
set_option maxRecDepth 100000 in
set_option maxHeartbeats 4000000 in
theorem c_X10_turnsAhead (G : GL) (ex : Bool) (n : Nat) (σ : Nat → va_E) (z1 : Int32) (z2 : Int32) (z3 : Int32) (g : Nat → Nat) (kd : Nat → Nat) (fi : Nat → Nat) (se : Nat → Nat) (tf : Nat → Nat) (ts : Nat → Nat) (flA : Nat → Nat) (n0A : Nat → Nat) (gvA : Nat → Nat) (gsA : Nat → Nat) (lmA : Nat → Nat) (vsA : Nat → Nat) (nmA : Nat → Nat) (onA : Nat → Nat) (slA : Nat → Nat) (moA : Nat → Nat) (nbA : Nat → Nat) (bmA : Nat → Nat → Nat) (skA : Nat → Nat → Nat) (s2A : Nat → Nat → Nat) (vaA : Nat → Nat → Nat) (spA : Nat → Nat → Nat) (rfA : Nat → Nat → Nat) (bT : Nat) (skT : Nat) (kdT : Nat → Nat) (fiT : Nat → Nat) (seT : Nat → Nat) (tfT : Nat → Nat) (tsT : Nat → Nat) (e0 : Int32) (e1 : Int32) (e2 : Int32) (e3 : Int32) (e4 : Int32) (hc0 : σ 0 = o10 G (z1) (z2) (z3)) (hc1 : σ 25 = o0 G (25) (nI (g 0)) (nI (g 3)) (nI (g 4)) (nI (g 5)) (nI (g 6))) (hc2 : σ 27 = o6 G (27) (nI (g 1)) (nI (g 2))) (hc3 : σ (27 + 1) = q_an G 8 kd) (hc4 : σ (27 + 2) = q_an G 8 fi) (hc5 : σ (27 + 3) = q_an G 8 se) (hc6 : σ (27 + 4) = q_an G 8 tf) (hc7 : σ (27 + 5) = q_an G 8 ts) (hc8 : σ 43 = o4 G (43) ) (hc9 : σ 44 = q_rn G 4 4 (fun j => some (46 + 8 * j))) (hc10 : ∀ j9 : Nat, j9 < 4 → σ (46 + 8 * j9) = o8 G (46 + 8 * j9) (nI (flA j9)) (nI (n0A j9)) (nI (gvA j9)) (nI (gsA j9)) (nI (lmA j9)) (nI (vsA j9))) (hc11 : ∀ j9 : Nat, j9 < 4 → σ (46 + 8 * j9 + 1) = o7 G (46 + 8 * j9 + 1) (lN (nmA j9)) (lN (onA j9)) (nI (slA j9)) (nI (moA j9)) (nI (nbA j9))) (hc12 : ∀ j9 : Nat, j9 < 4 → σ (46 + 8 * j9 + 2) = q_an G 5 (bmA j9)) (hc13 : ∀ j9 : Nat, j9 < 4 → σ (46 + 8 * j9 + 3) = q_an G 1681 (skA j9)) (hc14 : ∀ j9 : Nat, j9 < 4 → σ (46 + 8 * j9 + 4) = q_an G 1681 (s2A j9)) (hc15 : ∀ j9 : Nat, j9 < 4 → σ (46 + 8 * j9 + 5) = q_an G 1681 (vaA j9)) (hc16 : ∀ j9 : Nat, j9 < 4 → σ (46 + 8 * j9 + 6) = q_an G 1681 (spA j9)) (hc17 : ∀ j9 : Nat, j9 < 4 → σ (46 + 8 * j9 + 7) = q_an G 1681 (rfA j9)) (hc18 : σ 236 = o6 G (236) (nI (bT)) (nI (skT))) (hc19 : σ (236 + 1) = q_an G 8 kdT) (hc20 : σ (236 + 2) = q_an G 8 fiT) (hc21 : σ (236 + 3) = q_an G 8 seT) (hc22 : σ (236 + 4) = q_an G 8 tfT) (hc23 : σ (236 + 5) = q_an G 8 tsT) (hc24 : σ 242 = o1 G (e0) (e1) (e2) (e3) (e4)) (hn9 : 279 ≤ n) (hgw : s_gwf g) (hxp : x_p g kd fi se) (hTF : x_TF g (g 1) onA slA moA nbA n0A gvA gsA lmA vsA bmA skA s2A vaA spA) : Ct G yX10_turnsAhead cX10_turnsAhead 4 (some .int) ⟨5, 0, 0, 123⟩ [.ref (q_h G + 0), .ref (q_h G + 43)] ex n σ (fun v9 σ2 => ∃ (bU : Nat), ∃ (skU : Nat), ∃ (kdU : Nat → Nat), ∃ (fiU : Nat → Nat), ∃ (seU : Nat → Nat), ∃ (tfU : Nat → Nat), ∃ (tsU : Nat → Nat), ∃ (u0 : Int32), ∃ (u1 : Int32), ∃ (u2 : Int32), ∃ (u3 : Int32), ∃ (u4 : Int32), v9 = some (.int (nI (s_fn g 600))) ∧ σ2 236 = o6 G (236) (nI (bU)) (nI (skU)) ∧ σ2 (236 + 1) = q_an G 8 kdU ∧ σ2 (236 + 2) = q_an G 8 fiU ∧ σ2 (236 + 3) = q_an G 8 seU ∧ σ2 (236 + 4) = q_an G 8 tfU ∧ σ2 (236 + 5) = q_an G 8 tsU ∧ σ2 242 = o1 G (u0) (u1) (u2) (u3) (u4) ∧ (∀ i : Nat, i < 236 ∨ 242 < i → σ2 i = σ i)) := by
  refine q_enter [some (.ref (q_h G + 0)), some (.ref (q_h G + 43)), none, none] (by decide) (Nat.le_of_ble_eq_true rfl) rfl ?_
  intro K hg
  obtain ⟨Q, hQ⟩ : ∃ Q, Q = q_Q G K ex n 0 0 (fun v9 n' σ' => n' = n ∧ (fun v9 σ2 => ∃ (bU : Nat), ∃ (skU : Nat), ∃ (kdU : Nat → Nat), ∃ (fiU : Nat → Nat), ∃ (seU : Nat → Nat), ∃ (tfU : Nat → Nat), ∃ (tsU : Nat → Nat), ∃ (u0 : Int32), ∃ (u1 : Int32), ∃ (u2 : Int32), ∃ (u3 : Int32), ∃ (u4 : Int32), v9 = some (.int (nI (s_fn g 600))) ∧ σ2 236 = o6 G (236) (nI (bU)) (nI (skU)) ∧ σ2 (236 + 1) = q_an G 8 kdU ∧ σ2 (236 + 2) = q_an G 8 fiU ∧ σ2 (236 + 3) = q_an G 8 seU ∧ σ2 (236 + 4) = q_an G 8 tfU ∧ σ2 (236 + 5) = q_an G 8 tsU ∧ σ2 242 = o1 G (u0) (u1) (u2) (u3) (u4) ∧ (∀ i : Nat, i < 236 ∨ 242 < i → σ2 i = σ i)) v9 σ') q_noX := ⟨_, rfl⟩
  refine (?_ : AJ G K (q_Q G K ex n 0 0 _ _) 0 0 ex n 0 _ _ σ)
  rw [← hQ]
  have hg0 := hgw.1
  have hg1 := hgw.2.1
  have hg2 := hgw.2.2.1
  refine A_aload_n hg dX10_turnsAhead_0 rfl rfl ?_
  refine A_getf (v := .ref (q_h G + 236)) hg fl_RX10_83 dX10_turnsAhead_1 hc0 (by omega) rfl ?_
  refine A_aload_n hg dX10_turnsAhead_4 rfl rfl ?_
  refine A_getf (v := .ref (q_h G + 25)) hg fl_RX10_40 dX10_turnsAhead_5 hc0 (by omega) rfl ?_
  refine A_getf (v := .ref (q_h G + 27)) hg fl_RX10_118 dX10_turnsAhead_8 hc1 (by omega) rfl ?_
  refine A_vV (kc2 := 0) (ks2 := 0) (As := [.ref (q_h G + 27)]) (rest := []) hg lk_RX10_351 in_X6_copyFrom se_X6_copyFrom rfl dX10_turnsAhead_11 ⟨by decide, by decide⟩ rfl rfl ⟨by decide, by decide⟩ hc18 (by omega) rfl rfl (Nat.le_of_ble_eq_true rfl) (c_X6_copyFrom G ex n σ 236 bT skT kdT fiT seT tfT tsT 27 (g 1) (g 2) kd fi se tf ts hc18 hc19 hc20 hc21 hc22 hc23 hc2 hc3 hc4 hc5 hc6 hc7 (by omega) (by omega) (by omega)) ?_
  rintro σ_8 ⟨hc_1, hc_2, hc_3, hc_4, hc_5, hc_6, hf_7⟩
  have hc_9 : σ_8 0 = o10 G (z1) (z2) (z3) := (hf_7 _ (by omega)).trans hc0
  have hc_10 : σ_8 25 = o0 G (25) (nI (g 0)) (nI (g 3)) (nI (g 4)) (nI (g 5)) (nI (g 6)) := (hf_7 _ (by omega)).trans hc1
  have hc_11 : σ_8 27 = o6 G (27) (nI (g 1)) (nI (g 2)) := (hf_7 _ (by omega)).trans hc2
  have hc_12 : σ_8 (27 + 1) = q_an G 8 kd := (hf_7 _ (by omega)).trans hc3
  have hc_13 : σ_8 (27 + 2) = q_an G 8 fi := (hf_7 _ (by omega)).trans hc4
  have hc_14 : σ_8 (27 + 3) = q_an G 8 se := (hf_7 _ (by omega)).trans hc5
  have hc_15 : σ_8 (27 + 4) = q_an G 8 tf := (hf_7 _ (by omega)).trans hc6
  have hc_16 : σ_8 (27 + 5) = q_an G 8 ts := (hf_7 _ (by omega)).trans hc7
  have hc_17 : σ_8 43 = o4 G (43)  := (hf_7 _ (by omega)).trans hc8
  have hc_18 : σ_8 44 = q_rn G 4 4 (fun j => some (46 + 8 * j)) := (hf_7 _ (by omega)).trans hc9
  have hc_19 : ∀ j9 : Nat, j9 < 4 → σ_8 (46 + 8 * j9) = o8 G (46 + 8 * j9) (nI (flA j9)) (nI (n0A j9)) (nI (gvA j9)) (nI (gsA j9)) (nI (lmA j9)) (nI (vsA j9)) := fun j9 hj0 => (hf_7 _ (by omega)).trans (hc10 j9 (by omega))
  have hc_20 : ∀ j9 : Nat, j9 < 4 → σ_8 (46 + 8 * j9 + 1) = o7 G (46 + 8 * j9 + 1) (lN (nmA j9)) (lN (onA j9)) (nI (slA j9)) (nI (moA j9)) (nI (nbA j9)) := fun j9 hj0 => (hf_7 _ (by omega)).trans (hc11 j9 (by omega))
  have hc_21 : ∀ j9 : Nat, j9 < 4 → σ_8 (46 + 8 * j9 + 2) = q_an G 5 (bmA j9) := fun j9 hj0 => (hf_7 _ (by omega)).trans (hc12 j9 (by omega))
  have hc_22 : ∀ j9 : Nat, j9 < 4 → σ_8 (46 + 8 * j9 + 3) = q_an G 1681 (skA j9) := fun j9 hj0 => (hf_7 _ (by omega)).trans (hc13 j9 (by omega))
  have hc_23 : ∀ j9 : Nat, j9 < 4 → σ_8 (46 + 8 * j9 + 4) = q_an G 1681 (s2A j9) := fun j9 hj0 => (hf_7 _ (by omega)).trans (hc14 j9 (by omega))
  have hc_24 : ∀ j9 : Nat, j9 < 4 → σ_8 (46 + 8 * j9 + 5) = q_an G 1681 (vaA j9) := fun j9 hj0 => (hf_7 _ (by omega)).trans (hc15 j9 (by omega))
  have hc_25 : ∀ j9 : Nat, j9 < 4 → σ_8 (46 + 8 * j9 + 6) = q_an G 1681 (spA j9) := fun j9 hj0 => (hf_7 _ (by omega)).trans (hc16 j9 (by omega))
  have hc_26 : ∀ j9 : Nat, j9 < 4 → σ_8 (46 + 8 * j9 + 7) = q_an G 1681 (rfA j9) := fun j9 hj0 => (hf_7 _ (by omega)).trans (hc17 j9 (by omega))
  have hc_27 : σ_8 242 = o1 G (e0) (e1) (e2) (e3) (e4) := (hf_7 _ (by omega)).trans hc24
  refine A_iconst (v := (nI (0))) hg dX10_turnsAhead_14 (by decide) ?_
  refine A_istore_n hg dX10_turnsAhead_15 rfl (by decide) (q_c1d rfl) ?_
  refine A_eq (ls2 := [some (.ref (q_h G + 0)), some (.ref (q_h G + 43)), some (.int (nI (0))), none]) (st2 := []) (pc2 := 0) rfl rfl ?_
  refine A_iconst (v := (nI (0))) hg dX10_turnsAhead_16 (by decide) ?_
  refine A_istore_n hg dX10_turnsAhead_17 rfl (by decide) (q_c1d rfl) ?_
  refine A_eq (ls2 := [some (.ref (q_h G + 0)), some (.ref (q_h G + 43)), some (.int (nI (0))), some (.int (nI (0)))]) (st2 := []) (pc2 := 0) rfl rfl ?_
  have hL18 : ∀ (fu : Nat) (i : Nat) (fiL : Nat → Nat) (seL : Nat → Nat) (f0 : Int32) (f1 : Int32) (f2 : Int32) (f3 : Int32) (f4 : Int32) (σ_28 : Nat → va_E), (σ_28 0 = o10 G (z1) (z2) (z3)) → (σ_28 25 = o0 G (25) (nI (g 0)) (nI (g 3)) (nI (g 4)) (nI (g 5)) (nI (g 6))) → (σ_28 27 = o6 G (27) (nI (g 1)) (nI (g 2))) → (σ_28 (27 + 1) = q_an G 8 kd) → (σ_28 (27 + 2) = q_an G 8 fi) → (σ_28 (27 + 3) = q_an G 8 se) → (σ_28 (27 + 4) = q_an G 8 tf) → (σ_28 (27 + 5) = q_an G 8 ts) → (σ_28 43 = o4 G (43) ) → (σ_28 44 = q_rn G 4 4 (fun j => some (46 + 8 * j))) → (∀ j9 : Nat, j9 < 4 → σ_28 (46 + 8 * j9) = o8 G (46 + 8 * j9) (nI (flA j9)) (nI (n0A j9)) (nI (gvA j9)) (nI (gsA j9)) (nI (lmA j9)) (nI (vsA j9))) → (∀ j9 : Nat, j9 < 4 → σ_28 (46 + 8 * j9 + 1) = o7 G (46 + 8 * j9 + 1) (lN (nmA j9)) (lN (onA j9)) (nI (slA j9)) (nI (moA j9)) (nI (nbA j9))) → (∀ j9 : Nat, j9 < 4 → σ_28 (46 + 8 * j9 + 2) = q_an G 5 (bmA j9)) → (∀ j9 : Nat, j9 < 4 → σ_28 (46 + 8 * j9 + 3) = q_an G 1681 (skA j9)) → (∀ j9 : Nat, j9 < 4 → σ_28 (46 + 8 * j9 + 4) = q_an G 1681 (s2A j9)) → (∀ j9 : Nat, j9 < 4 → σ_28 (46 + 8 * j9 + 5) = q_an G 1681 (vaA j9)) → (∀ j9 : Nat, j9 < 4 → σ_28 (46 + 8 * j9 + 6) = q_an G 1681 (spA j9)) → (∀ j9 : Nat, j9 < 4 → σ_28 (46 + 8 * j9 + 7) = q_an G 1681 (rfA j9)) → (σ_28 242 = o1 G (f0) (f1) (f2) (f3) (f4)) → (σ_28 236 = o6 G (236) (nI (s_it g i 1)) (nI (s_it g i 2))) → (σ_28 (236 + 1) = q_an G 8 kd) → (σ_28 (236 + 2) = q_an G 8 fiL) → (σ_28 (236 + 3) = q_an G 8 seL) → (σ_28 (236 + 4) = q_an G 8 tf) → (σ_28 (236 + 5) = q_an G 8 ts) → (∀ i : Nat, i < 236 ∨ 242 < i → σ_28 i = σ i) → (i ≤ 600) → (x_p (s_it g i) kd fiL seL) → (x_TF (s_it g i) (s_it g i 1) onA slA moA nbA n0A gvA gsA lmA vsA bmA skA s2A vaA spA) → (∀ j : Nat, j < i → s_adv (s_it g j) = true) → (600 - i) < fu → AJ G K Q 0 0 ex n 18 [some (.ref (q_h G + 0)), some (.ref (q_h G + 43)), some (.int (nI (i))), some (.int (nI (i)))] [] σ_28 := by
    intro fu
    induction fu with
    | zero => intro i fiL seL f0 f1 f2 f3 f4 σ_28 hc_29 hc_30 hc_31 hc_32 hc_33 hc_34 hc_35 hc_36 hc_37 hc_38 hc_39 hc_40 hc_41 hc_42 hc_43 hc_44 hc_45 hc_46 hc_47 hc_48 hc_49 hc_50 hc_51 hc_52 hc_53 hf_54 hi hx htf has hm; exact absurd hm (Nat.not_lt_zero _)
    | succ fu ih18 =>
      intro i fiL seL f0 f1 f2 f3 f4 σ_28 hc_29 hc_30 hc_31 hc_32 hc_33 hc_34 hc_35 hc_36 hc_37 hc_38 hc_39 hc_40 hc_41 hc_42 hc_43 hc_44 hc_45 hc_46 hc_47 hc_48 hc_49 hc_50 hc_51 hc_52 hc_53 hf_54 hi hx htf has hm18
      refine A_iload_n hg dX10_turnsAhead_18 rfl rfl ?_
      refine A_sipush (v := (nI (600))) hg dX10_turnsAhead_19 (by decide) ?_
      refine A_icmp_geN (tgt := 86) hg dX10_turnsAhead_22 (by omega) (by decide) (by decide) (fun c22 => ?_) (fun c22 => ?_)
      · skip
        refine A_iload_n hg dX10_turnsAhead_86 rfl rfl ?_
        rw [hQ]
        exact A_ireturn hg (by decide) (by decide) rfl dX10_turnsAhead_87 ⟨rfl, ⟨s_it g i 1, s_it g i 2, kd, fiL, seL, tf, ts, (f0), (f1), (f2), (f3), (f4), (by rw [x_fn_end hi has (Or.inl (by omega))]), hc_48, hc_49, hc_50, hc_51, hc_52, hc_53, hc_47, (fun i hi => (hf_54 i (by omega)))⟩⟩
      · skip
        have hgi := s_gwf_it hgw i
        have hgi1 := hgi.2.1
        have hgi2 := hgi.2.2.1
        refine A_aload_n hg dX10_turnsAhead_25 rfl rfl ?_
        refine A_aload_n hg dX10_turnsAhead_26 rfl rfl ?_
        refine A_getf (v := .ref (q_h G + 236)) hg fl_RX10_83 dX10_turnsAhead_27 hc_29 (by omega) rfl ?_
        refine A_aload_n hg dX10_turnsAhead_30 rfl rfl ?_
        refine A_getf (v := .ref (q_h G + 242)) hg fl_RX10_90 dX10_turnsAhead_31 hc_29 (by omega) rfl ?_
        refine A_vV (kc2 := 0) (ks2 := 0) (As := [.ref (q_h G + 236), .ref (q_h G + 242)]) (rest := []) hg lk_RX10_327 in_X4_advise se_X4_advise rfl dX10_turnsAhead_34 ⟨by decide, by decide⟩ rfl rfl ⟨by decide, by decide⟩ hc_37 (by omega) rfl rfl (Nat.le_of_ble_eq_true rfl) (c_X4_advise G ex n σ_28 236 (s_it g i) kd fiL seL flA n0A gvA gsA lmA vsA nmA onA slA moA nbA bmA skA s2A vaA spA rfA 242 f0 f1 f2 f3 f4 hc_37 hc_38 hc_48 hc_49 hc_50 hc_51 hc_39 hc_40 hc_41 hc_42 hc_43 hc_44 hc_45 hc_46 hc_47 (by omega) (Or.inr rfl) hgi hx htf (Or.inr rfl)) ?_
        rintro σ_57 ⟨px, kx, lx, hadv9, hc_55, hf_56⟩
        have hc_58 : σ_57 0 = o10 G (z1) (z2) (z3) := (hf_56 _ (by omega)).trans hc_29
        have hc_59 : σ_57 25 = o0 G (25) (nI (g 0)) (nI (g 3)) (nI (g 4)) (nI (g 5)) (nI (g 6)) := (hf_56 _ (by omega)).trans hc_30
        have hc_60 : σ_57 27 = o6 G (27) (nI (g 1)) (nI (g 2)) := (hf_56 _ (by omega)).trans hc_31
        have hc_61 : σ_57 (27 + 1) = q_an G 8 kd := (hf_56 _ (by omega)).trans hc_32
        have hc_62 : σ_57 (27 + 2) = q_an G 8 fi := (hf_56 _ (by omega)).trans hc_33
        have hc_63 : σ_57 (27 + 3) = q_an G 8 se := (hf_56 _ (by omega)).trans hc_34
        have hc_64 : σ_57 (27 + 4) = q_an G 8 tf := (hf_56 _ (by omega)).trans hc_35
        have hc_65 : σ_57 (27 + 5) = q_an G 8 ts := (hf_56 _ (by omega)).trans hc_36
        have hc_66 : σ_57 43 = o4 G (43)  := (hf_56 _ (by omega)).trans hc_37
        have hc_67 : σ_57 44 = q_rn G 4 4 (fun j => some (46 + 8 * j)) := (hf_56 _ (by omega)).trans hc_38
        have hc_68 : ∀ j9 : Nat, j9 < 4 → σ_57 (46 + 8 * j9) = o8 G (46 + 8 * j9) (nI (flA j9)) (nI (n0A j9)) (nI (gvA j9)) (nI (gsA j9)) (nI (lmA j9)) (nI (vsA j9)) := fun j9 hj0 => (hf_56 _ (by omega)).trans (hc_39 j9 (by omega))
        have hc_69 : ∀ j9 : Nat, j9 < 4 → σ_57 (46 + 8 * j9 + 1) = o7 G (46 + 8 * j9 + 1) (lN (nmA j9)) (lN (onA j9)) (nI (slA j9)) (nI (moA j9)) (nI (nbA j9)) := fun j9 hj0 => (hf_56 _ (by omega)).trans (hc_40 j9 (by omega))
        have hc_70 : ∀ j9 : Nat, j9 < 4 → σ_57 (46 + 8 * j9 + 2) = q_an G 5 (bmA j9) := fun j9 hj0 => (hf_56 _ (by omega)).trans (hc_41 j9 (by omega))
        have hc_71 : ∀ j9 : Nat, j9 < 4 → σ_57 (46 + 8 * j9 + 3) = q_an G 1681 (skA j9) := fun j9 hj0 => (hf_56 _ (by omega)).trans (hc_42 j9 (by omega))
        have hc_72 : ∀ j9 : Nat, j9 < 4 → σ_57 (46 + 8 * j9 + 4) = q_an G 1681 (s2A j9) := fun j9 hj0 => (hf_56 _ (by omega)).trans (hc_43 j9 (by omega))
        have hc_73 : ∀ j9 : Nat, j9 < 4 → σ_57 (46 + 8 * j9 + 5) = q_an G 1681 (vaA j9) := fun j9 hj0 => (hf_56 _ (by omega)).trans (hc_44 j9 (by omega))
        have hc_74 : ∀ j9 : Nat, j9 < 4 → σ_57 (46 + 8 * j9 + 6) = q_an G 1681 (spA j9) := fun j9 hj0 => (hf_56 _ (by omega)).trans (hc_45 j9 (by omega))
        have hc_75 : ∀ j9 : Nat, j9 < 4 → σ_57 (46 + 8 * j9 + 7) = q_an G 1681 (rfA j9) := fun j9 hj0 => (hf_56 _ (by omega)).trans (hc_46 j9 (by omega))
        have hc_76 : σ_57 236 = o6 G (236) (nI (s_it g i 1)) (nI (s_it g i 2)) := (hf_56 _ (by omega)).trans hc_48
        have hc_77 : σ_57 (236 + 1) = q_an G 8 kd := (hf_56 _ (by omega)).trans hc_49
        have hc_78 : σ_57 (236 + 2) = q_an G 8 fiL := (hf_56 _ (by omega)).trans hc_50
        have hc_79 : σ_57 (236 + 3) = q_an G 8 seL := (hf_56 _ (by omega)).trans hc_51
        have hc_80 : σ_57 (236 + 4) = q_an G 8 tf := (hf_56 _ (by omega)).trans hc_52
        have hc_81 : σ_57 (236 + 5) = q_an G 8 ts := (hf_56 _ (by omega)).trans hc_53
        refine A_aload_n hg dX10_turnsAhead_37 rfl rfl ?_
        refine A_getf (v := .ref (q_h G + 242)) hg fl_RX10_90 dX10_turnsAhead_38 hc_58 (by omega) rfl ?_
        refine A_getf (v := .int (q_b (s_adv (s_it g i)))) hg fl_RX10_331 dX10_turnsAhead_41 hc_55 (by omega) rfl ?_
        refine A_if_neB (tgt := 49) hg dX10_turnsAhead_44 (by decide) (fun c44 => ?_) (fun c44 => ?_)
        · skip
          have hadt : s_adv (s_it g i) = true := c44
          obtain ⟨ha1, ha2, ha3⟩ := hadv9 hadt
          subst ha1 ha2 ha3
          obtain ⟨ho1, ho2, ho3, -⟩ := s_adv_ok hadt
          have hnpi : s_np (s_it g i) = s_it g i 1 + s_it g i 2 := rfl
          have hlx := Nat.lt_of_le_of_lt ho2 (Nat.lt_succ_self _)
          refine A_aload_n hg dX10_turnsAhead_49 rfl rfl ?_
          refine A_getf (v := .ref (q_h G + 236)) hg fl_RX10_83 dX10_turnsAhead_50 hc_58 (by omega) rfl ?_
          refine A_aload_n hg dX10_turnsAhead_53 rfl rfl ?_
          refine A_getf (v := .ref (q_h G + 242)) hg fl_RX10_90 dX10_turnsAhead_54 hc_58 (by omega) rfl ?_
          refine A_getf (v := .int (nI (s_ap (s_it g i)))) hg fl_RX10_335 dX10_turnsAhead_57 hc_55 (by omega) rfl ?_
          refine A_aload_n hg dX10_turnsAhead_60 rfl rfl ?_
          refine A_getf (v := .ref (q_h G + 242)) hg fl_RX10_90 dX10_turnsAhead_61 hc_58 (by omega) rfl ?_
          refine A_getf (v := .int (nI (s_ak (s_it g i)))) hg fl_RX10_338 dX10_turnsAhead_64 hc_55 (by omega) rfl ?_
          refine A_aload_n hg dX10_turnsAhead_67 rfl rfl ?_
          refine A_getf (v := .ref (q_h G + 242)) hg fl_RX10_90 dX10_turnsAhead_68 hc_58 (by omega) rfl ?_
          refine A_getf (v := .int (nI (s_al2 (s_it g i)))) hg fl_RX10_341 dX10_turnsAhead_71 hc_55 (by omega) rfl ?_
          refine A_vV (kc2 := 0) (ks2 := 0) (As := [.int (nI (s_ap (s_it g i))), .int (nI (s_ak (s_it g i))), .int (nI (s_al2 (s_it g i)))]) (rest := []) hg lk_RX10_354 in_X6_take se_X6_take rfl dX10_turnsAhead_74 ⟨by decide, by decide⟩ rfl rfl ⟨by decide, by decide⟩ hc_76 (by omega) rfl rfl (Nat.le_of_ble_eq_true rfl) (c_X6_take G ex n σ_57 236 (s_it g i 1) (s_it g i 2) fiL seL (s_ap (s_it g i)) (s_ak (s_it g i)) (s_al2 (s_it g i)) hc_76 hc_78 hc_79 (by omega) (by omega) (by omega) (by rw [x_p_x hx ho1]; exact ho2) (by rw [x_p_y hx ho1]; exact ho3)) ?_
          rintro σ_85 ⟨hc_82, hc_83, hf_84⟩
          have hc_86 : σ_85 0 = o10 G (z1) (z2) (z3) := (hf_84 _ (by omega)).trans hc_58
          have hc_87 : σ_85 25 = o0 G (25) (nI (g 0)) (nI (g 3)) (nI (g 4)) (nI (g 5)) (nI (g 6)) := (hf_84 _ (by omega)).trans hc_59
          have hc_88 : σ_85 27 = o6 G (27) (nI (g 1)) (nI (g 2)) := (hf_84 _ (by omega)).trans hc_60
          have hc_89 : σ_85 (27 + 1) = q_an G 8 kd := (hf_84 _ (by omega)).trans hc_61
          have hc_90 : σ_85 (27 + 2) = q_an G 8 fi := (hf_84 _ (by omega)).trans hc_62
          have hc_91 : σ_85 (27 + 3) = q_an G 8 se := (hf_84 _ (by omega)).trans hc_63
          have hc_92 : σ_85 (27 + 4) = q_an G 8 tf := (hf_84 _ (by omega)).trans hc_64
          have hc_93 : σ_85 (27 + 5) = q_an G 8 ts := (hf_84 _ (by omega)).trans hc_65
          have hc_94 : σ_85 43 = o4 G (43)  := (hf_84 _ (by omega)).trans hc_66
          have hc_95 : σ_85 44 = q_rn G 4 4 (fun j => some (46 + 8 * j)) := (hf_84 _ (by omega)).trans hc_67
          have hc_96 : ∀ j9 : Nat, j9 < 4 → σ_85 (46 + 8 * j9) = o8 G (46 + 8 * j9) (nI (flA j9)) (nI (n0A j9)) (nI (gvA j9)) (nI (gsA j9)) (nI (lmA j9)) (nI (vsA j9)) := fun j9 hj0 => (hf_84 _ (by omega)).trans (hc_68 j9 (by omega))
          have hc_97 : ∀ j9 : Nat, j9 < 4 → σ_85 (46 + 8 * j9 + 1) = o7 G (46 + 8 * j9 + 1) (lN (nmA j9)) (lN (onA j9)) (nI (slA j9)) (nI (moA j9)) (nI (nbA j9)) := fun j9 hj0 => (hf_84 _ (by omega)).trans (hc_69 j9 (by omega))
          have hc_98 : ∀ j9 : Nat, j9 < 4 → σ_85 (46 + 8 * j9 + 2) = q_an G 5 (bmA j9) := fun j9 hj0 => (hf_84 _ (by omega)).trans (hc_70 j9 (by omega))
          have hc_99 : ∀ j9 : Nat, j9 < 4 → σ_85 (46 + 8 * j9 + 3) = q_an G 1681 (skA j9) := fun j9 hj0 => (hf_84 _ (by omega)).trans (hc_71 j9 (by omega))
          have hc_100 : ∀ j9 : Nat, j9 < 4 → σ_85 (46 + 8 * j9 + 4) = q_an G 1681 (s2A j9) := fun j9 hj0 => (hf_84 _ (by omega)).trans (hc_72 j9 (by omega))
          have hc_101 : ∀ j9 : Nat, j9 < 4 → σ_85 (46 + 8 * j9 + 5) = q_an G 1681 (vaA j9) := fun j9 hj0 => (hf_84 _ (by omega)).trans (hc_73 j9 (by omega))
          have hc_102 : ∀ j9 : Nat, j9 < 4 → σ_85 (46 + 8 * j9 + 6) = q_an G 1681 (spA j9) := fun j9 hj0 => (hf_84 _ (by omega)).trans (hc_74 j9 (by omega))
          have hc_103 : ∀ j9 : Nat, j9 < 4 → σ_85 (46 + 8 * j9 + 7) = q_an G 1681 (rfA j9) := fun j9 hj0 => (hf_84 _ (by omega)).trans (hc_75 j9 (by omega))
          have hc_104 : σ_85 236 = o6 G (236) (nI (s_it g i 1)) (nI (s_it g i 2)) := (hf_84 _ (by omega)).trans hc_76
          have hc_105 : σ_85 (236 + 1) = q_an G 8 kd := (hf_84 _ (by omega)).trans hc_77
          have hc_106 : σ_85 (236 + 4) = q_an G 8 tf := (hf_84 _ (by omega)).trans hc_80
          have hc_107 : σ_85 (236 + 5) = q_an G 8 ts := (hf_84 _ (by omega)).trans hc_81
          have hc_108 : σ_85 242 = o1 G (q_b (s_adv (s_it g i))) (q_b (s_aw (s_it g i))) (nI (s_ap (s_it g i))) (nI (s_ak (s_it g i))) (nI (s_al2 (s_it g i))) := (hf_84 _ (by omega)).trans hc_55
          have hsi := s_it_s hadt
          have hp1 := s_play_1 (k := s_ak (s_it g i)) (l := s_al2 (s_it g i)) hgi ho1
          rw [← hsi] at hp1
          have hc_109 : σ_85 236 = o6 G (236) (nI (s_it g (i + 1) 1)) (nI (s_it g (i + 1) 2)) := hc_104.trans (by rw [hp1.1, hp1.2])
          refine A_iincN (k' := 1) hg dX10_turnsAhead_77 (by decide) rfl (by decide) (q_c1d rfl) ?_
          refine A_eq (ls2 := [some (.ref (q_h G + 0)), some (.ref (q_h G + 43)), some (.int (nI (i + 1))), some (.int (nI (i)))]) (st2 := []) (pc2 := 0) rfl rfl ?_
          refine A_iincN (k' := 1) hg dX10_turnsAhead_80 (by decide) rfl (by decide) (q_c1d rfl) ?_
          refine A_eq (ls2 := [some (.ref (q_h G + 0)), some (.ref (q_h G + 43)), some (.int (nI (i + 1))), some (.int (nI (i + 1)))]) (st2 := []) (pc2 := 0) rfl rfl ?_
          refine A_goto (tgt := 18) hg dX10_turnsAhead_83 (by decide) ?_
          exact ih18 (i + 1) (va_up fiL (x_pl (s_it g i 1) (s_ap (s_it g i))) (fiL (x_pl (s_it g i 1) (s_ap (s_it g i))) - (s_ak (s_it g i)))) (va_up seL (x_pl (s_it g i 1) (s_ap (s_it g i))) (seL (x_pl (s_it g i 1) (s_ap (s_it g i))) - (s_al2 (s_it g i)))) (q_b (s_adv (s_it g i))) (q_b (s_aw (s_it g i))) (nI (s_ap (s_it g i))) (nI (s_ak (s_it g i))) (nI (s_al2 (s_it g i))) σ_85 hc_86 hc_87 hc_88 hc_89 hc_90 hc_91 hc_92 hc_93 hc_94 hc_95 hc_96 hc_97 hc_98 hc_99 hc_100 hc_101 hc_102 hc_103 hc_108 hc_109 hc_105 hc_82 hc_83 hc_106 hc_107 (fun i hi => ((hf_84 i (by omega)).trans ((hf_56 i (by omega)).trans (hf_54 i (by omega))))) (by omega) (by rw [hsi]; exact x_p_play hgi ho1 hx) (by rw [hp1.1, hsi]; exact x_TF_play hgi ho1 (Nat.le_refl _) htf) (lt_s has hadt) (by omega)
        · skip
          refine A_iload_n hg dX10_turnsAhead_47 rfl rfl ?_
          rw [hQ]
          exact A_ireturn hg (by decide) (by decide) rfl dX10_turnsAhead_48 ⟨rfl, ⟨s_it g i 1, s_it g i 2, kd, fiL, seL, tf, ts, (q_b (s_adv (s_it g i))), (q_b (s_aw (s_it g i))), (px), (kx), (lx), (by rw [x_fn_end hi has (Or.inr c44)]), hc_76, hc_77, hc_78, hc_79, hc_80, hc_81, hc_55, (fun i hi => ((hf_56 i (by omega)).trans (hf_54 i (by omega))))⟩⟩
  exact hL18 _ 0 fi se e0 e1 e2 e3 e4 σ_8 hc_9 hc_10 hc_11 hc_12 hc_13 hc_14 hc_15 hc_16 hc_17 hc_18 hc_19 hc_20 hc_21 hc_22 hc_23 hc_24 hc_25 hc_26 hc_27 hc_1 hc_2 hc_3 hc_4 hc_5 hc_6 (fun i hi => (hf_7 i (by omega))) (Nat.zero_le _) hxp hTF (fun j h => absurd h (Nat.not_lt_zero j)) (Nat.lt_succ_self _)
set_option maxRecDepth 100000 in
set_option maxHeartbeats 4000000 in
theorem c_X10_turnsIn (G : GL) (ex : Bool) (n : Nat) (σ : Nat → va_E) (z1 : Int32) (z2 : Int32) (z3 : Int32) (g : Nat → Nat) (hc0 : σ 0 = o10 G (z1) (z2) (z3)) (hn9 : 279 ≤ n) (hG : x_gm G σ 25 g) (hM : x_mx G σ) (hH : x_hn G σ) (hT : x_pj G σ) : Ct G yX10_turnsIn cX10_turnsIn 1 (some .int) ⟨6, 0, 0, 146⟩ [.ref (q_h G + 0)] ex n σ (fun v9 σ2 => v9 = some (.int (nI (s_fn g 600))) ∧ (x_mx G σ2) ∧ (x_hn G σ2) ∧ (x_pj G σ2) ∧ (∀ i : Nat, i < 43 ∨ (77 < i ∧ i < 236) ∨ 242 < i → σ2 i = σ i)) := by
  refine q_enter [some (.ref (q_h G + 0))] (by decide) (Nat.le_of_ble_eq_true rfl) rfl ?_
  intro K hg
  obtain ⟨Q, hQ⟩ : ∃ Q, Q = q_Q G K ex n 0 0 (fun v9 n' σ' => n' = n ∧ (fun v9 σ2 => v9 = some (.int (nI (s_fn g 600))) ∧ (x_mx G σ2) ∧ (x_hn G σ2) ∧ (x_pj G σ2) ∧ (∀ i : Nat, i < 43 ∨ (77 < i ∧ i < 236) ∨ 242 < i → σ2 i = σ i)) v9 σ') q_noX := ⟨_, rfl⟩
  refine (?_ : AJ G K (q_Q G K ex n 0 0 _ _) 0 0 ex n 0 _ _ σ)
  rw [← hQ]
  obtain ⟨kd, fi, se, tf, ts, ac, tu, nm, on, sl, mo, nb, bm, ⟨hg_1, hg_2, hg_3, hg_4, hg_5, hg_6, hg_7, hg_8, hg_9, hg_10, hg_11, hg_12⟩, hgr⟩ := hG
  obtain ⟨hgw, hxp, htp, hrl, hac, htu⟩ := hgr
  have hrs := x_rl_rs hrl
  have hg0 := hgw.1
  have hg1 := hgw.2.1
  have hg2 := hgw.2.2.1
  have hg3 := hgw.2.2.2.1
  have hg6 := hgw.2.2.2.2.1
  have hnp : s_np g = g 1 + g 2 := rfl
  have hc_13 : ∀ j9 : Nat, j9 < g 0 → σ (25 + 10 + 2 * j9) = o7 G (25 + 10 + 2 * j9) (lN (nm j9)) (lN (on j9)) (nI (s_rule g j9 18)) (nI (s_rule g j9 19)) (nI (s_rule g j9 20)) := fun j9 hj => (hg_11 j9 (by omega)).trans (by rw [(hrl j9 hj).2.2.2.1, (hrl j9 hj).2.2.2.2.1, (hrl j9 hj).2.2.2.2.2.1])
  have hc_14 : ∀ j9 : Nat, j9 < g 0 → σ (25 + 10 + 2 * j9 + 1) = q_an G 5 (bm j9) := fun j9 hj => hg_12 j9 (by omega)
  obtain ⟨h0, h1, h2, h3, h4, flA, n0A, gvA, gsA, lmA, vsA, nmA, onA, slA, moA, nbA, bmA, skA, s2A, vaA, spA, rfA, hm_15, hm_16, hm_17, hm_18, hm_19, hm_20, hm_21, hm_22, hm_23, hm_24, hm_25, hTI⟩ := hM
  obtain ⟨e0, e1, e2, e3, e4, hh_26⟩ := hH
  obtain ⟨bT, skT, kdT, fiT, seT, tfT, tsT, ht_27, ht_28, ht_29, ht_30, ht_31, ht_32⟩ := hT
  refine A_aload_n hg dX10_turnsIn_0 rfl rfl ?_
  refine A_aload_n hg dX10_turnsIn_1 rfl rfl ?_
  refine A_hV (kc2 := 0) (ks2 := 0) (As := []) (rest := [.ref (q_h G + 0)]) hg lk_RX10_140 in_X10_fittedMix se_X10_fittedMix rfl dX10_turnsIn_2 ⟨by decide, by decide⟩ rfl rfl ⟨by decide, by decide⟩ hc0 (by omega) rfl rfl (Nat.le_of_ble_eq_true rfl) (c_X10_fittedMix G ex n σ z1 z2 z3 g kd fi se nm on bm flA n0A gvA gsA lmA vsA nmA onA slA moA nbA bmA skA s2A vaA spA rfA hc0 hm_15 hm_16 hg_1 hg_2 hg_3 hg_4 hg_5 hg_6 hc_13 hc_14 hm_18 hm_19 hm_20 hm_21 hm_22 hm_23 hm_24 hm_25 (by omega) hgw hxp hrs hTI) ?_
  rintro _ σ_59 ⟨flB_33, n0B_34, gvB_35, gsB_36, lmB_37, vsB_38, nmB_39, onB_40, slB_41, moB_42, nbB_43, bmB_44, skB_45, s2B_46, vaB_47, spB_48, rfB_49, rfl, hTI2, hTF2, hc_50, hc_51, hc_52, hc_53, hc_54, hc_55, hc_56, hc_57, hf_58⟩
  refine (?_ : AJ G K Q 0 0 ex n 5 [some (.ref (q_h G + 0))] [.ref (q_h G + 43), .ref (q_h G + 0)] σ_59)
  have hc_60 : σ_59 0 = o10 G (z1) (z2) (z3) := (hf_58 _ (by omega)).trans hc0
  have hc_61 : σ_59 25 = o0 G (25) (nI (g 0)) (nI (g 3)) (nI (g 4)) (nI (g 5)) (nI (g 6)) := (hf_58 _ (by omega)).trans hg_1
  have hc_62 : σ_59 26 = q_rn G 3 4 (fun j => some (25 + 10 + 2 * j)) := (hf_58 _ (by omega)).trans hg_2
  have hc_63 : σ_59 27 = o6 G (27) (nI (g 1)) (nI (g 2)) := (hf_58 _ (by omega)).trans hg_3
  have hc_64 : σ_59 (27 + 1) = q_an G 8 kd := (hf_58 _ (by omega)).trans hg_4
  have hc_65 : σ_59 (27 + 2) = q_an G 8 fi := (hf_58 _ (by omega)).trans hg_5
  have hc_66 : σ_59 (27 + 3) = q_an G 8 se := (hf_58 _ (by omega)).trans hg_6
  have hc_67 : σ_59 (27 + 4) = q_an G 8 tf := (hf_58 _ (by omega)).trans hg_7
  have hc_68 : σ_59 (27 + 5) = q_an G 8 ts := (hf_58 _ (by omega)).trans hg_8
  have hc_69 : σ_59 (25 + 8) = q_an G 10 ac := (hf_58 _ (by omega)).trans hg_9
  have hc_70 : σ_59 (25 + 9) = q_an G 100 tu := (hf_58 _ (by omega)).trans hg_10
  have hc_71 : ∀ j9 : Nat, j9 < g 0 → σ_59 (25 + 10 + 2 * j9) = o7 G (25 + 10 + 2 * j9) (lN (nm j9)) (lN (on j9)) (nI (s_rule g j9 18)) (nI (s_rule g j9 19)) (nI (s_rule g j9 20)) := fun j9 hj0 => (hf_58 _ (by omega)).trans (hc_13 j9 (by omega))
  have hc_72 : ∀ j9 : Nat, j9 < g 0 → σ_59 (25 + 10 + 2 * j9 + 1) = q_an G 5 (bm j9) := fun j9 hj0 => (hf_58 _ (by omega)).trans (hc_14 j9 (by omega))
  have hc_73 : σ_59 43 = o4 G (43)  := (hf_58 _ (by omega)).trans hm_15
  have hc_74 : σ_59 44 = q_rn G 4 4 (fun j => some (46 + 8 * j)) := (hf_58 _ (by omega)).trans hm_16
  have hc_75 : σ_59 45 = o1 G (h0) (h1) (h2) (h3) (h4) := (hf_58 _ (by omega)).trans hm_17
  have hc_76 : σ_59 242 = o1 G (e0) (e1) (e2) (e3) (e4) := (hf_58 _ (by omega)).trans hh_26
  have hc_77 : σ_59 236 = o6 G (236) (nI (bT)) (nI (skT)) := (hf_58 _ (by omega)).trans ht_27
  have hc_78 : σ_59 (236 + 1) = q_an G 8 kdT := (hf_58 _ (by omega)).trans ht_28
  have hc_79 : σ_59 (236 + 2) = q_an G 8 fiT := (hf_58 _ (by omega)).trans ht_29
  have hc_80 : σ_59 (236 + 3) = q_an G 8 seT := (hf_58 _ (by omega)).trans ht_30
  have hc_81 : σ_59 (236 + 4) = q_an G 8 tfT := (hf_58 _ (by omega)).trans ht_31
  have hc_82 : σ_59 (236 + 5) = q_an G 8 tsT := (hf_58 _ (by omega)).trans ht_32
  refine A_hV (kc2 := 0) (ks2 := 0) (As := [.ref (q_h G + 43)]) (rest := []) hg lk_RX10_347 in_X10_turnsAhead se_X10_turnsAhead rfl dX10_turnsIn_5 ⟨by decide, by decide⟩ rfl rfl ⟨by decide, by decide⟩ hc_60 (by omega) rfl rfl (Nat.le_of_ble_eq_true rfl) (c_X10_turnsAhead G ex n σ_59 z1 z2 z3 g kd fi se tf ts flB_33 n0B_34 gvB_35 gsB_36 lmB_37 vsB_38 nmB_39 onB_40 slB_41 moB_42 nbB_43 bmB_44 skB_45 s2B_46 vaB_47 spB_48 rfB_49 bT skT kdT fiT seT tfT tsT e0 e1 e2 e3 e4 hc_60 hc_61 hc_63 hc_64 hc_65 hc_66 hc_67 hc_68 hc_73 hc_74 hc_50 hc_51 hc_52 hc_53 hc_54 hc_55 hc_56 hc_57 hc_77 hc_78 hc_79 hc_80 hc_81 hc_82 hc_76 (by omega) hgw hxp hTF2) ?_
  rintro _ σ_103 ⟨bU_83, skU_84, kdU_85, fiU_86, seU_87, tfU_88, tsU_89, u0_90, u1_91, u2_92, u3_93, u4_94, rfl, hc_95, hc_96, hc_97, hc_98, hc_99, hc_100, hc_101, hf_102⟩
  refine (?_ : AJ G K Q 0 0 ex n 8 [some (.ref (q_h G + 0))] [.int (nI (s_fn g 600))] σ_103)
  have hc_104 : σ_103 0 = o10 G (z1) (z2) (z3) := (hf_102 _ (by omega)).trans hc_60
  have hc_105 : σ_103 25 = o0 G (25) (nI (g 0)) (nI (g 3)) (nI (g 4)) (nI (g 5)) (nI (g 6)) := (hf_102 _ (by omega)).trans hc_61
  have hc_106 : σ_103 26 = q_rn G 3 4 (fun j => some (25 + 10 + 2 * j)) := (hf_102 _ (by omega)).trans hc_62
  have hc_107 : σ_103 27 = o6 G (27) (nI (g 1)) (nI (g 2)) := (hf_102 _ (by omega)).trans hc_63
  have hc_108 : σ_103 (27 + 1) = q_an G 8 kd := (hf_102 _ (by omega)).trans hc_64
  have hc_109 : σ_103 (27 + 2) = q_an G 8 fi := (hf_102 _ (by omega)).trans hc_65
  have hc_110 : σ_103 (27 + 3) = q_an G 8 se := (hf_102 _ (by omega)).trans hc_66
  have hc_111 : σ_103 (27 + 4) = q_an G 8 tf := (hf_102 _ (by omega)).trans hc_67
  have hc_112 : σ_103 (27 + 5) = q_an G 8 ts := (hf_102 _ (by omega)).trans hc_68
  have hc_113 : σ_103 (25 + 8) = q_an G 10 ac := (hf_102 _ (by omega)).trans hc_69
  have hc_114 : σ_103 (25 + 9) = q_an G 100 tu := (hf_102 _ (by omega)).trans hc_70
  have hc_115 : ∀ j9 : Nat, j9 < g 0 → σ_103 (25 + 10 + 2 * j9) = o7 G (25 + 10 + 2 * j9) (lN (nm j9)) (lN (on j9)) (nI (s_rule g j9 18)) (nI (s_rule g j9 19)) (nI (s_rule g j9 20)) := fun j9 hj0 => (hf_102 _ (by omega)).trans (hc_71 j9 (by omega))
  have hc_116 : ∀ j9 : Nat, j9 < g 0 → σ_103 (25 + 10 + 2 * j9 + 1) = q_an G 5 (bm j9) := fun j9 hj0 => (hf_102 _ (by omega)).trans (hc_72 j9 (by omega))
  have hc_117 : σ_103 43 = o4 G (43)  := (hf_102 _ (by omega)).trans hc_73
  have hc_118 : σ_103 44 = q_rn G 4 4 (fun j => some (46 + 8 * j)) := (hf_102 _ (by omega)).trans hc_74
  have hc_119 : σ_103 45 = o1 G (h0) (h1) (h2) (h3) (h4) := (hf_102 _ (by omega)).trans hc_75
  have hc_120 : ∀ j9 : Nat, j9 < 4 → σ_103 (46 + 8 * j9) = o8 G (46 + 8 * j9) (nI (flB_33 j9)) (nI (n0B_34 j9)) (nI (gvB_35 j9)) (nI (gsB_36 j9)) (nI (lmB_37 j9)) (nI (vsB_38 j9)) := fun j9 hj0 => (hf_102 _ (by omega)).trans (hc_50 j9 (by omega))
  have hc_121 : ∀ j9 : Nat, j9 < 4 → σ_103 (46 + 8 * j9 + 1) = o7 G (46 + 8 * j9 + 1) (lN (nmB_39 j9)) (lN (onB_40 j9)) (nI (slB_41 j9)) (nI (moB_42 j9)) (nI (nbB_43 j9)) := fun j9 hj0 => (hf_102 _ (by omega)).trans (hc_51 j9 (by omega))
  have hc_122 : ∀ j9 : Nat, j9 < 4 → σ_103 (46 + 8 * j9 + 2) = q_an G 5 (bmB_44 j9) := fun j9 hj0 => (hf_102 _ (by omega)).trans (hc_52 j9 (by omega))
  have hc_123 : ∀ j9 : Nat, j9 < 4 → σ_103 (46 + 8 * j9 + 3) = q_an G 1681 (skB_45 j9) := fun j9 hj0 => (hf_102 _ (by omega)).trans (hc_53 j9 (by omega))
  have hc_124 : ∀ j9 : Nat, j9 < 4 → σ_103 (46 + 8 * j9 + 4) = q_an G 1681 (s2B_46 j9) := fun j9 hj0 => (hf_102 _ (by omega)).trans (hc_54 j9 (by omega))
  have hc_125 : ∀ j9 : Nat, j9 < 4 → σ_103 (46 + 8 * j9 + 5) = q_an G 1681 (vaB_47 j9) := fun j9 hj0 => (hf_102 _ (by omega)).trans (hc_55 j9 (by omega))
  have hc_126 : ∀ j9 : Nat, j9 < 4 → σ_103 (46 + 8 * j9 + 6) = q_an G 1681 (spB_48 j9) := fun j9 hj0 => (hf_102 _ (by omega)).trans (hc_56 j9 (by omega))
  have hc_127 : ∀ j9 : Nat, j9 < 4 → σ_103 (46 + 8 * j9 + 7) = q_an G 1681 (rfB_49 j9) := fun j9 hj0 => (hf_102 _ (by omega)).trans (hc_57 j9 (by omega))
  rw [hQ]
  exact A_ireturn hg (by decide) (by decide) rfl dX10_turnsIn_8 ⟨rfl, ⟨rfl, ⟨(h0), (h1), (h2), (h3), (h4), flB_33, n0B_34, gvB_35, gsB_36, lmB_37, vsB_38, nmB_39, onB_40, slB_41, moB_42, nbB_43, bmB_44, skB_45, s2B_46, vaB_47, spB_48, rfB_49, hc_117, hc_118, hc_119, hc_120, hc_121, hc_122, hc_123, hc_124, hc_125, hc_126, hc_127, hTI2⟩, ⟨_, _, _, _, _, hc_101⟩, ⟨_, _, _, _, _, _, _, hc_95, hc_96, hc_97, hc_98, hc_99, hc_100⟩, (fun i hi => ((hf_102 i (by omega)).trans (hf_58 i (by omega))))⟩⟩
set_option maxRecDepth 100000 in
set_option maxHeartbeats 4000000 in
theorem c_X10_winner (G : GL) (ex : Bool) (n : Nat) (σ : Nat → va_E) (z1 : Int32) (z2 : Int32) (z3 : Int32) (g : Nat → Nat) (hc0 : σ 0 = o10 G (z1) (z2) (z3)) (hn9 : 279 ≤ n) (hG : x_gm G σ 25 g) (hM : x_mx G σ) (hH : x_hn G σ) (hT : x_pj G σ) : Ct G yX10_winner cX10_winner 1 (some .int) ⟨6, 0, 0, 146⟩ [.ref (q_h G + 0)] ex n σ (fun v9 σ2 => v9 = some (.int (nI (1 - s_it g (s_fn g 600) 3))) ∧ (x_mx G σ2) ∧ (x_hn G σ2) ∧ (x_pj G σ2) ∧ (∀ i : Nat, i < 43 ∨ (77 < i ∧ i < 236) ∨ 242 < i → σ2 i = σ i)) := by
  refine q_enter [some (.ref (q_h G + 0))] (by decide) (Nat.le_of_ble_eq_true rfl) rfl ?_
  intro K hg
  obtain ⟨Q, hQ⟩ : ∃ Q, Q = q_Q G K ex n 0 0 (fun v9 n' σ' => n' = n ∧ (fun v9 σ2 => v9 = some (.int (nI (1 - s_it g (s_fn g 600) 3))) ∧ (x_mx G σ2) ∧ (x_hn G σ2) ∧ (x_pj G σ2) ∧ (∀ i : Nat, i < 43 ∨ (77 < i ∧ i < 236) ∨ 242 < i → σ2 i = σ i)) v9 σ') q_noX := ⟨_, rfl⟩
  refine (?_ : AJ G K (q_Q G K ex n 0 0 _ _) 0 0 ex n 0 _ _ σ)
  rw [← hQ]
  obtain ⟨kd, fi, se, tf, ts, ac, tu, nm, on, sl, mo, nb, bm, ⟨hg_1, hg_2, hg_3, hg_4, hg_5, hg_6, hg_7, hg_8, hg_9, hg_10, hg_11, hg_12⟩, hgr⟩ := hG
  obtain ⟨hgw, hxp, htp, hrl, hac, htu⟩ := hgr
  have hrs := x_rl_rs hrl
  have hg0 := hgw.1
  have hg1 := hgw.2.1
  have hg2 := hgw.2.2.1
  have hg3 := hgw.2.2.2.1
  have hg6 := hgw.2.2.2.2.1
  have hnp : s_np g = g 1 + g 2 := rfl
  have hc_13 : ∀ j9 : Nat, j9 < g 0 → σ (25 + 10 + 2 * j9) = o7 G (25 + 10 + 2 * j9) (lN (nm j9)) (lN (on j9)) (nI (s_rule g j9 18)) (nI (s_rule g j9 19)) (nI (s_rule g j9 20)) := fun j9 hj => (hg_11 j9 (by omega)).trans (by rw [(hrl j9 hj).2.2.2.1, (hrl j9 hj).2.2.2.2.1, (hrl j9 hj).2.2.2.2.2.1])
  have hc_14 : ∀ j9 : Nat, j9 < g 0 → σ (25 + 10 + 2 * j9 + 1) = q_an G 5 (bm j9) := fun j9 hj => hg_12 j9 (by omega)
  obtain ⟨h0, h1, h2, h3, h4, flA, n0A, gvA, gsA, lmA, vsA, nmA, onA, slA, moA, nbA, bmA, skA, s2A, vaA, spA, rfA, hm_15, hm_16, hm_17, hm_18, hm_19, hm_20, hm_21, hm_22, hm_23, hm_24, hm_25, hTI⟩ := hM
  obtain ⟨e0, e1, e2, e3, e4, hh_26⟩ := hH
  obtain ⟨bT, skT, kdT, fiT, seT, tfT, tsT, ht_27, ht_28, ht_29, ht_30, ht_31, ht_32⟩ := hT
  have hfl : s_fn g 600 ≤ 600 := s_first_le _ _
  refine A_aload_n hg dX10_winner_0 rfl rfl ?_
  refine A_getf (v := .ref (q_h G + 25)) hg fl_RX10_40 dX10_winner_1 hc0 (by omega) rfl ?_
  refine A_getf (v := .int (nI (g 3))) hg fl_RX10_134 dX10_winner_4 hg_1 (by omega) rfl ?_
  refine A_aload_n hg dX10_winner_7 rfl rfl ?_
  refine A_aload_n hg dX10_winner_8 rfl rfl ?_
  refine A_hV (kc2 := 0) (ks2 := 0) (As := []) (rest := [.ref (q_h G + 0), .int (nI (g 3))]) hg lk_RX10_140 in_X10_fittedMix se_X10_fittedMix rfl dX10_winner_9 ⟨by decide, by decide⟩ rfl rfl ⟨by decide, by decide⟩ hc0 (by omega) rfl rfl (Nat.le_of_ble_eq_true rfl) (c_X10_fittedMix G ex n σ z1 z2 z3 g kd fi se nm on bm flA n0A gvA gsA lmA vsA nmA onA slA moA nbA bmA skA s2A vaA spA rfA hc0 hm_15 hm_16 hg_1 hg_2 hg_3 hg_4 hg_5 hg_6 hc_13 hc_14 hm_18 hm_19 hm_20 hm_21 hm_22 hm_23 hm_24 hm_25 (by omega) hgw hxp hrs hTI) ?_
  rintro _ σ_59 ⟨flB_33, n0B_34, gvB_35, gsB_36, lmB_37, vsB_38, nmB_39, onB_40, slB_41, moB_42, nbB_43, bmB_44, skB_45, s2B_46, vaB_47, spB_48, rfB_49, rfl, hTI2, hTF2, hc_50, hc_51, hc_52, hc_53, hc_54, hc_55, hc_56, hc_57, hf_58⟩
  refine (?_ : AJ G K Q 0 0 ex n 12 [some (.ref (q_h G + 0))] [.ref (q_h G + 43), .ref (q_h G + 0), .int (nI (g 3))] σ_59)
  have hc_60 : σ_59 0 = o10 G (z1) (z2) (z3) := (hf_58 _ (by omega)).trans hc0
  have hc_61 : σ_59 25 = o0 G (25) (nI (g 0)) (nI (g 3)) (nI (g 4)) (nI (g 5)) (nI (g 6)) := (hf_58 _ (by omega)).trans hg_1
  have hc_62 : σ_59 26 = q_rn G 3 4 (fun j => some (25 + 10 + 2 * j)) := (hf_58 _ (by omega)).trans hg_2
  have hc_63 : σ_59 27 = o6 G (27) (nI (g 1)) (nI (g 2)) := (hf_58 _ (by omega)).trans hg_3
  have hc_64 : σ_59 (27 + 1) = q_an G 8 kd := (hf_58 _ (by omega)).trans hg_4
  have hc_65 : σ_59 (27 + 2) = q_an G 8 fi := (hf_58 _ (by omega)).trans hg_5
  have hc_66 : σ_59 (27 + 3) = q_an G 8 se := (hf_58 _ (by omega)).trans hg_6
  have hc_67 : σ_59 (27 + 4) = q_an G 8 tf := (hf_58 _ (by omega)).trans hg_7
  have hc_68 : σ_59 (27 + 5) = q_an G 8 ts := (hf_58 _ (by omega)).trans hg_8
  have hc_69 : σ_59 (25 + 8) = q_an G 10 ac := (hf_58 _ (by omega)).trans hg_9
  have hc_70 : σ_59 (25 + 9) = q_an G 100 tu := (hf_58 _ (by omega)).trans hg_10
  have hc_71 : ∀ j9 : Nat, j9 < g 0 → σ_59 (25 + 10 + 2 * j9) = o7 G (25 + 10 + 2 * j9) (lN (nm j9)) (lN (on j9)) (nI (s_rule g j9 18)) (nI (s_rule g j9 19)) (nI (s_rule g j9 20)) := fun j9 hj0 => (hf_58 _ (by omega)).trans (hc_13 j9 (by omega))
  have hc_72 : ∀ j9 : Nat, j9 < g 0 → σ_59 (25 + 10 + 2 * j9 + 1) = q_an G 5 (bm j9) := fun j9 hj0 => (hf_58 _ (by omega)).trans (hc_14 j9 (by omega))
  have hc_73 : σ_59 43 = o4 G (43)  := (hf_58 _ (by omega)).trans hm_15
  have hc_74 : σ_59 44 = q_rn G 4 4 (fun j => some (46 + 8 * j)) := (hf_58 _ (by omega)).trans hm_16
  have hc_75 : σ_59 45 = o1 G (h0) (h1) (h2) (h3) (h4) := (hf_58 _ (by omega)).trans hm_17
  have hc_76 : σ_59 242 = o1 G (e0) (e1) (e2) (e3) (e4) := (hf_58 _ (by omega)).trans hh_26
  have hc_77 : σ_59 236 = o6 G (236) (nI (bT)) (nI (skT)) := (hf_58 _ (by omega)).trans ht_27
  have hc_78 : σ_59 (236 + 1) = q_an G 8 kdT := (hf_58 _ (by omega)).trans ht_28
  have hc_79 : σ_59 (236 + 2) = q_an G 8 fiT := (hf_58 _ (by omega)).trans ht_29
  have hc_80 : σ_59 (236 + 3) = q_an G 8 seT := (hf_58 _ (by omega)).trans ht_30
  have hc_81 : σ_59 (236 + 4) = q_an G 8 tfT := (hf_58 _ (by omega)).trans ht_31
  have hc_82 : σ_59 (236 + 5) = q_an G 8 tsT := (hf_58 _ (by omega)).trans ht_32
  refine A_hV (kc2 := 0) (ks2 := 0) (As := [.ref (q_h G + 43)]) (rest := [.int (nI (g 3))]) hg lk_RX10_347 in_X10_turnsAhead se_X10_turnsAhead rfl dX10_winner_12 ⟨by decide, by decide⟩ rfl rfl ⟨by decide, by decide⟩ hc_60 (by omega) rfl rfl (Nat.le_of_ble_eq_true rfl) (c_X10_turnsAhead G ex n σ_59 z1 z2 z3 g kd fi se tf ts flB_33 n0B_34 gvB_35 gsB_36 lmB_37 vsB_38 nmB_39 onB_40 slB_41 moB_42 nbB_43 bmB_44 skB_45 s2B_46 vaB_47 spB_48 rfB_49 bT skT kdT fiT seT tfT tsT e0 e1 e2 e3 e4 hc_60 hc_61 hc_63 hc_64 hc_65 hc_66 hc_67 hc_68 hc_73 hc_74 hc_50 hc_51 hc_52 hc_53 hc_54 hc_55 hc_56 hc_57 hc_77 hc_78 hc_79 hc_80 hc_81 hc_82 hc_76 (by omega) hgw hxp hTF2) ?_
  rintro _ σ_103 ⟨bU_83, skU_84, kdU_85, fiU_86, seU_87, tfU_88, tsU_89, u0_90, u1_91, u2_92, u3_93, u4_94, rfl, hc_95, hc_96, hc_97, hc_98, hc_99, hc_100, hc_101, hf_102⟩
  refine (?_ : AJ G K Q 0 0 ex n 15 [some (.ref (q_h G + 0))] [.int (nI (s_fn g 600)), .int (nI (g 3))] σ_103)
  have hc_104 : σ_103 0 = o10 G (z1) (z2) (z3) := (hf_102 _ (by omega)).trans hc_60
  have hc_105 : σ_103 25 = o0 G (25) (nI (g 0)) (nI (g 3)) (nI (g 4)) (nI (g 5)) (nI (g 6)) := (hf_102 _ (by omega)).trans hc_61
  have hc_106 : σ_103 26 = q_rn G 3 4 (fun j => some (25 + 10 + 2 * j)) := (hf_102 _ (by omega)).trans hc_62
  have hc_107 : σ_103 27 = o6 G (27) (nI (g 1)) (nI (g 2)) := (hf_102 _ (by omega)).trans hc_63
  have hc_108 : σ_103 (27 + 1) = q_an G 8 kd := (hf_102 _ (by omega)).trans hc_64
  have hc_109 : σ_103 (27 + 2) = q_an G 8 fi := (hf_102 _ (by omega)).trans hc_65
  have hc_110 : σ_103 (27 + 3) = q_an G 8 se := (hf_102 _ (by omega)).trans hc_66
  have hc_111 : σ_103 (27 + 4) = q_an G 8 tf := (hf_102 _ (by omega)).trans hc_67
  have hc_112 : σ_103 (27 + 5) = q_an G 8 ts := (hf_102 _ (by omega)).trans hc_68
  have hc_113 : σ_103 (25 + 8) = q_an G 10 ac := (hf_102 _ (by omega)).trans hc_69
  have hc_114 : σ_103 (25 + 9) = q_an G 100 tu := (hf_102 _ (by omega)).trans hc_70
  have hc_115 : ∀ j9 : Nat, j9 < g 0 → σ_103 (25 + 10 + 2 * j9) = o7 G (25 + 10 + 2 * j9) (lN (nm j9)) (lN (on j9)) (nI (s_rule g j9 18)) (nI (s_rule g j9 19)) (nI (s_rule g j9 20)) := fun j9 hj0 => (hf_102 _ (by omega)).trans (hc_71 j9 (by omega))
  have hc_116 : ∀ j9 : Nat, j9 < g 0 → σ_103 (25 + 10 + 2 * j9 + 1) = q_an G 5 (bm j9) := fun j9 hj0 => (hf_102 _ (by omega)).trans (hc_72 j9 (by omega))
  have hc_117 : σ_103 43 = o4 G (43)  := (hf_102 _ (by omega)).trans hc_73
  have hc_118 : σ_103 44 = q_rn G 4 4 (fun j => some (46 + 8 * j)) := (hf_102 _ (by omega)).trans hc_74
  have hc_119 : σ_103 45 = o1 G (h0) (h1) (h2) (h3) (h4) := (hf_102 _ (by omega)).trans hc_75
  have hc_120 : ∀ j9 : Nat, j9 < 4 → σ_103 (46 + 8 * j9) = o8 G (46 + 8 * j9) (nI (flB_33 j9)) (nI (n0B_34 j9)) (nI (gvB_35 j9)) (nI (gsB_36 j9)) (nI (lmB_37 j9)) (nI (vsB_38 j9)) := fun j9 hj0 => (hf_102 _ (by omega)).trans (hc_50 j9 (by omega))
  have hc_121 : ∀ j9 : Nat, j9 < 4 → σ_103 (46 + 8 * j9 + 1) = o7 G (46 + 8 * j9 + 1) (lN (nmB_39 j9)) (lN (onB_40 j9)) (nI (slB_41 j9)) (nI (moB_42 j9)) (nI (nbB_43 j9)) := fun j9 hj0 => (hf_102 _ (by omega)).trans (hc_51 j9 (by omega))
  have hc_122 : ∀ j9 : Nat, j9 < 4 → σ_103 (46 + 8 * j9 + 2) = q_an G 5 (bmB_44 j9) := fun j9 hj0 => (hf_102 _ (by omega)).trans (hc_52 j9 (by omega))
  have hc_123 : ∀ j9 : Nat, j9 < 4 → σ_103 (46 + 8 * j9 + 3) = q_an G 1681 (skB_45 j9) := fun j9 hj0 => (hf_102 _ (by omega)).trans (hc_53 j9 (by omega))
  have hc_124 : ∀ j9 : Nat, j9 < 4 → σ_103 (46 + 8 * j9 + 4) = q_an G 1681 (s2B_46 j9) := fun j9 hj0 => (hf_102 _ (by omega)).trans (hc_54 j9 (by omega))
  have hc_125 : ∀ j9 : Nat, j9 < 4 → σ_103 (46 + 8 * j9 + 5) = q_an G 1681 (vaB_47 j9) := fun j9 hj0 => (hf_102 _ (by omega)).trans (hc_55 j9 (by omega))
  have hc_126 : ∀ j9 : Nat, j9 < 4 → σ_103 (46 + 8 * j9 + 6) = q_an G 1681 (spB_48 j9) := fun j9 hj0 => (hf_102 _ (by omega)).trans (hc_56 j9 (by omega))
  have hc_127 : ∀ j9 : Nat, j9 < 4 → σ_103 (46 + 8 * j9 + 7) = q_an G 1681 (rfB_49 j9) := fun j9 hj0 => (hf_102 _ (by omega)).trans (hc_57 j9 (by omega))
  refine A_iaddN hg dX10_winner_15 ?_
  refine A_iconst (v := (nI (1))) hg dX10_winner_16 (by decide) ?_
  refine A_iaddN hg dX10_winner_17 ?_
  refine A_iconst (v := (nI (2))) hg dX10_winner_18 (by decide) ?_
  refine A_iremN hg dX10_winner_19 (by omega) (by decide) (by decide) ?_
  rw [hQ]
  exact A_ireturn hg (by decide) (by decide) rfl dX10_winner_20 ⟨rfl, ⟨(congrArg (fun z => some (Value.int (nI z))) (x_winner hgw 600)), ⟨(h0), (h1), (h2), (h3), (h4), flB_33, n0B_34, gvB_35, gsB_36, lmB_37, vsB_38, nmB_39, onB_40, slB_41, moB_42, nbB_43, bmB_44, skB_45, s2B_46, vaB_47, spB_48, rfB_49, hc_117, hc_118, hc_119, hc_120, hc_121, hc_122, hc_123, hc_124, hc_125, hc_126, hc_127, hTI2⟩, ⟨_, _, _, _, _, hc_101⟩, ⟨_, _, _, _, _, _, _, hc_95, hc_96, hc_97, hc_98, hc_99, hc_100⟩, (fun i hi => ((hf_102 i (by omega)).trans (hf_58 i (by omega))))⟩⟩
set_option maxRecDepth 100000 in
set_option maxHeartbeats 4000000 in
theorem c_X10_totalBehind (G : GL) (ex : Bool) (n : Nat) (σ : Nat → va_E) (z1 : Int32) (z2 : Int32) (z3 : Int32) (g : Nat → Nat) (p : Int32) (k : Int32) (l : Int32) (hc0 : σ 0 = o10 G (z1) (z2) (z3)) (hn9 : 279 ≤ n) (hG : x_gm G σ 25 g) (hM : x_mx G σ) (hH : x_hn G σ) (hT : x_pj G σ) : CtX G yX10_totalBehind cX10_totalBehind 4 (some .int) ⟨7, 1, 6, 140⟩ [.ref (q_h G + 0), .int (p), .int (k), .int (l)] ex n σ (fun v9 σ2 => (∃ (p1 : Nat), v9 = some (.int (q_d (0))) ∧ (p = nI p1) ∧ (p1 < s_np g) ∧ (¬ s_refI g p1 k l = 0) ∧ (x_mx G σ2) ∧ (x_hn G σ2) ∧ (x_pj G σ2) ∧ (∀ i : Nat, i < 43 ∨ (77 < i ∧ i < 236) ∨ 242 < i → σ2 i = σ i)) ∨ (∃ (p1 : Nat), ∃ (a1 : Nat), ∃ (b1 : Nat), v9 = some (.int (nI (((s_tot g) ^^^ (s_pv g p1 0 0)) ^^^ (s_pv g p1 a1 b1)))) ∧ (p = nI p1) ∧ (p1 < s_np g) ∧ (k = nI a1) ∧ (l = nI b1) ∧ (s_ref g p1 a1 b1 = 0) ∧ (x_mx G σ2) ∧ (x_hn G σ2) ∧ (x_pj G σ2) ∧ (∀ i : Nat, i < 43 ∨ (77 < i ∧ i < 236) ∨ 242 < i → σ2 i = σ i))) (fun E σ2 => σ2 = σ ∧ ((E = "java/lang/IndexOutOfBoundsException" ∧ (∀ j : Nat, j < s_np g → p = nI j → False)))) := by
  refine q_enter [some (.ref (q_h G + 0)), some (.int (p)), some (.int (k)), some (.int (l))] (by decide) (Nat.le_of_ble_eq_true rfl) rfl ?_
  intro K hg
  obtain ⟨Q, hQ⟩ : ∃ Q, Q = q_Q G K ex n 1 6 (fun v9 n' σ' => n' = n ∧ (fun v9 σ2 => (∃ (p1 : Nat), v9 = some (.int (q_d (0))) ∧ (p = nI p1) ∧ (p1 < s_np g) ∧ (¬ s_refI g p1 k l = 0) ∧ (x_mx G σ2) ∧ (x_hn G σ2) ∧ (x_pj G σ2) ∧ (∀ i : Nat, i < 43 ∨ (77 < i ∧ i < 236) ∨ 242 < i → σ2 i = σ i)) ∨ (∃ (p1 : Nat), ∃ (a1 : Nat), ∃ (b1 : Nat), v9 = some (.int (nI (((s_tot g) ^^^ (s_pv g p1 0 0)) ^^^ (s_pv g p1 a1 b1)))) ∧ (p = nI p1) ∧ (p1 < s_np g) ∧ (k = nI a1) ∧ (l = nI b1) ∧ (s_ref g p1 a1 b1 = 0) ∧ (x_mx G σ2) ∧ (x_hn G σ2) ∧ (x_pj G σ2) ∧ (∀ i : Nat, i < 43 ∨ (77 < i ∧ i < 236) ∨ 242 < i → σ2 i = σ i))) v9 σ') (fun E σ2 => σ2 = σ ∧ ((E = "java/lang/IndexOutOfBoundsException" ∧ (∀ j : Nat, j < s_np g → p = nI j → False)))) := ⟨_, rfl⟩
  refine (?_ : AJ G K (q_Q G K ex n 1 6 _ _) 0 0 ex n 0 _ _ σ)
  rw [← hQ]
  obtain ⟨kd, fi, se, tf, ts, ac, tu, nm, on, sl, mo, nb, bm, ⟨hg_1, hg_2, hg_3, hg_4, hg_5, hg_6, hg_7, hg_8, hg_9, hg_10, hg_11, hg_12⟩, hgr⟩ := hG
  obtain ⟨hgw, hxp, htp, hrl, hac, htu⟩ := hgr
  have hrs := x_rl_rs hrl
  have hg0 := hgw.1
  have hg1 := hgw.2.1
  have hg2 := hgw.2.2.1
  have hg3 := hgw.2.2.2.1
  have hg6 := hgw.2.2.2.2.1
  have hnp : s_np g = g 1 + g 2 := rfl
  have hc_13 : ∀ j9 : Nat, j9 < g 0 → σ (25 + 10 + 2 * j9) = o7 G (25 + 10 + 2 * j9) (lN (nm j9)) (lN (on j9)) (nI (s_rule g j9 18)) (nI (s_rule g j9 19)) (nI (s_rule g j9 20)) := fun j9 hj => (hg_11 j9 (by omega)).trans (by rw [(hrl j9 hj).2.2.2.1, (hrl j9 hj).2.2.2.2.1, (hrl j9 hj).2.2.2.2.2.1])
  have hc_14 : ∀ j9 : Nat, j9 < g 0 → σ (25 + 10 + 2 * j9 + 1) = q_an G 5 (bm j9) := fun j9 hj => hg_12 j9 (by omega)
  obtain ⟨h0, h1, h2, h3, h4, flA, n0A, gvA, gsA, lmA, vsA, nmA, onA, slA, moA, nbA, bmA, skA, s2A, vaA, spA, rfA, hm_15, hm_16, hm_17, hm_18, hm_19, hm_20, hm_21, hm_22, hm_23, hm_24, hm_25, hTI⟩ := hM
  obtain ⟨e0, e1, e2, e3, e4, hh_26⟩ := hH
  obtain ⟨bT, skT, kdT, fiT, seT, tfT, tsT, ht_27, ht_28, ht_29, ht_30, ht_31, ht_32⟩ := hT
  refine A_aload_n hg dX10_totalBehind_0 rfl rfl ?_
  refine A_iload_n hg dX10_totalBehind_1 rfl rfl ?_
  refine A_pVX (kc2 := 1) (ks2 := 6) (As := [.int (p)]) (rest := []) hg lk_RX10_257 in_X10_needPart se_X10_needPart rfl dX10_totalBehind_2 ⟨by decide, by decide⟩ rfl rfl ⟨by decide, by decide⟩ hc0 (by omega) rfl rfl (Nat.le_of_ble_eq_true rfl) (c_X10_needPart G ex n σ z1 z2 z3 (g 0) (g 3) (g 4) (g 5) (g 6) (g 1) (g 2) p hc0 hg_1 hg_3 (by omega) (by omega) (by omega)) (fun E σx hx => by rw [hQ]; exact A_out hg (by decide) (by decide) (by obtain ⟨hs, hE, hx⟩ := hx; exact ⟨hs, ⟨hE, hx⟩⟩)) ?_
  rintro _ ⟨p1, rfl, hpe, hpl9⟩
  refine (?_ : AJ G K Q 1 6 ex n 5 [some (.ref (q_h G + 0)), some (.int (p)), some (.int (k)), some (.int (l))] [] σ)
  subst hpe
  have hpp : p1 < s_np g := hpl9
  refine A_aload_n hg dX10_totalBehind_5 rfl rfl ?_
  refine A_getf (v := .ref (q_h G + 25)) hg fl_RX10_40 dX10_totalBehind_6 hc0 (by omega) rfl ?_
  refine A_iload_n hg dX10_totalBehind_9 rfl rfl ?_
  refine A_iload_n hg dX10_totalBehind_10 rfl rfl ?_
  refine A_iload_n hg dX10_totalBehind_11 rfl rfl ?_
  refine A_eV (kc2 := 1) (ks2 := 6) (As := [.int (nI (p1)), .int (k), .int (l)]) (rest := []) hg lk_RX10_299 in_X0_reasonAgainst se_X0_reasonAgainst rfl dX10_totalBehind_12 ⟨by decide, by decide⟩ rfl rfl ⟨by decide, by decide⟩ hg_1 (by omega) rfl rfl (Nat.le_of_ble_eq_true rfl) (c_X0_reasonAgainst G ex n σ 25 (g 0) (g 3) (g 4) (g 5) (g 6) g kd fi se nm on bm p1 k l hg_1 hg_2 hg_3 hg_4 hg_5 hg_6 hc_13 hc_14 (by omega) hgw hxp hrs (by omega)) ?_
  have hrle : s_refI g p1 k l ≤ 7 := by
    unfold s_refI
    split
    · omega
    · exact s_ref_le _ _ _ _
  refine A_if_eqN (tgt := 20) hg dX10_totalBehind_15 (by omega) (by decide) (fun c15 => ?_) (fun c15 => ?_)
  · skip
    obtain ⟨a1, b1, hke, hle, hka, hkb, hkx, hly, hrf⟩ := s_refI_0 c15
    subst hke
    subst hle
    refine A_aload_n hg dX10_totalBehind_20 rfl rfl ?_
    refine A_getf (v := .ref (q_h G + 236)) hg fl_RX10_83 dX10_totalBehind_21 hc0 (by omega) rfl ?_
    refine A_aload_n hg dX10_totalBehind_24 rfl rfl ?_
    refine A_getf (v := .ref (q_h G + 25)) hg fl_RX10_40 dX10_totalBehind_25 hc0 (by omega) rfl ?_
    refine A_getf (v := .ref (q_h G + 27)) hg fl_RX10_118 dX10_totalBehind_28 hg_1 (by omega) rfl ?_
    refine A_vV (kc2 := 1) (ks2 := 6) (As := [.ref (q_h G + 27)]) (rest := []) hg lk_RX10_351 in_X6_copyFrom se_X6_copyFrom rfl dX10_totalBehind_31 ⟨by decide, by decide⟩ rfl rfl ⟨by decide, by decide⟩ ht_27 (by omega) rfl rfl (Nat.le_of_ble_eq_true rfl) (c_X6_copyFrom G ex n σ 236 bT skT kdT fiT seT tfT tsT 27 (g 1) (g 2) kd fi se tf ts ht_27 ht_28 ht_29 ht_30 ht_31 ht_32 hg_3 hg_4 hg_5 hg_6 hg_7 hg_8 (by omega) (by omega) (by omega)) ?_
    rintro σ_40 ⟨hc_33, hc_34, hc_35, hc_36, hc_37, hc_38, hf_39⟩
    have hc_41 : σ_40 0 = o10 G (z1) (z2) (z3) := (hf_39 _ (by omega)).trans hc0
    have hc_42 : σ_40 25 = o0 G (25) (nI (g 0)) (nI (g 3)) (nI (g 4)) (nI (g 5)) (nI (g 6)) := (hf_39 _ (by omega)).trans hg_1
    have hc_43 : σ_40 26 = q_rn G 3 4 (fun j => some (25 + 10 + 2 * j)) := (hf_39 _ (by omega)).trans hg_2
    have hc_44 : σ_40 27 = o6 G (27) (nI (g 1)) (nI (g 2)) := (hf_39 _ (by omega)).trans hg_3
    have hc_45 : σ_40 (27 + 1) = q_an G 8 kd := (hf_39 _ (by omega)).trans hg_4
    have hc_46 : σ_40 (27 + 2) = q_an G 8 fi := (hf_39 _ (by omega)).trans hg_5
    have hc_47 : σ_40 (27 + 3) = q_an G 8 se := (hf_39 _ (by omega)).trans hg_6
    have hc_48 : σ_40 (27 + 4) = q_an G 8 tf := (hf_39 _ (by omega)).trans hg_7
    have hc_49 : σ_40 (27 + 5) = q_an G 8 ts := (hf_39 _ (by omega)).trans hg_8
    have hc_50 : σ_40 (25 + 8) = q_an G 10 ac := (hf_39 _ (by omega)).trans hg_9
    have hc_51 : σ_40 (25 + 9) = q_an G 100 tu := (hf_39 _ (by omega)).trans hg_10
    have hc_52 : ∀ j9 : Nat, j9 < g 0 → σ_40 (25 + 10 + 2 * j9) = o7 G (25 + 10 + 2 * j9) (lN (nm j9)) (lN (on j9)) (nI (s_rule g j9 18)) (nI (s_rule g j9 19)) (nI (s_rule g j9 20)) := fun j9 hj0 => (hf_39 _ (by omega)).trans (hc_13 j9 (by omega))
    have hc_53 : ∀ j9 : Nat, j9 < g 0 → σ_40 (25 + 10 + 2 * j9 + 1) = q_an G 5 (bm j9) := fun j9 hj0 => (hf_39 _ (by omega)).trans (hc_14 j9 (by omega))
    have hc_54 : σ_40 43 = o4 G (43)  := (hf_39 _ (by omega)).trans hm_15
    have hc_55 : σ_40 44 = q_rn G 4 4 (fun j => some (46 + 8 * j)) := (hf_39 _ (by omega)).trans hm_16
    have hc_56 : σ_40 45 = o1 G (h0) (h1) (h2) (h3) (h4) := (hf_39 _ (by omega)).trans hm_17
    have hc_57 : ∀ j9 : Nat, j9 < 4 → σ_40 (46 + 8 * j9) = o8 G (46 + 8 * j9) (nI (flA j9)) (nI (n0A j9)) (nI (gvA j9)) (nI (gsA j9)) (nI (lmA j9)) (nI (vsA j9)) := fun j9 hj0 => (hf_39 _ (by omega)).trans (hm_18 j9 (by omega))
    have hc_58 : ∀ j9 : Nat, j9 < 4 → σ_40 (46 + 8 * j9 + 1) = o7 G (46 + 8 * j9 + 1) (lN (nmA j9)) (lN (onA j9)) (nI (slA j9)) (nI (moA j9)) (nI (nbA j9)) := fun j9 hj0 => (hf_39 _ (by omega)).trans (hm_19 j9 (by omega))
    have hc_59 : ∀ j9 : Nat, j9 < 4 → σ_40 (46 + 8 * j9 + 2) = q_an G 5 (bmA j9) := fun j9 hj0 => (hf_39 _ (by omega)).trans (hm_20 j9 (by omega))
    have hc_60 : ∀ j9 : Nat, j9 < 4 → σ_40 (46 + 8 * j9 + 3) = q_an G 1681 (skA j9) := fun j9 hj0 => (hf_39 _ (by omega)).trans (hm_21 j9 (by omega))
    have hc_61 : ∀ j9 : Nat, j9 < 4 → σ_40 (46 + 8 * j9 + 4) = q_an G 1681 (s2A j9) := fun j9 hj0 => (hf_39 _ (by omega)).trans (hm_22 j9 (by omega))
    have hc_62 : ∀ j9 : Nat, j9 < 4 → σ_40 (46 + 8 * j9 + 5) = q_an G 1681 (vaA j9) := fun j9 hj0 => (hf_39 _ (by omega)).trans (hm_23 j9 (by omega))
    have hc_63 : ∀ j9 : Nat, j9 < 4 → σ_40 (46 + 8 * j9 + 6) = q_an G 1681 (spA j9) := fun j9 hj0 => (hf_39 _ (by omega)).trans (hm_24 j9 (by omega))
    have hc_64 : ∀ j9 : Nat, j9 < 4 → σ_40 (46 + 8 * j9 + 7) = q_an G 1681 (rfA j9) := fun j9 hj0 => (hf_39 _ (by omega)).trans (hm_25 j9 (by omega))
    have hc_65 : σ_40 242 = o1 G (e0) (e1) (e2) (e3) (e4) := (hf_39 _ (by omega)).trans hh_26
    refine A_aload_n hg dX10_totalBehind_34 rfl rfl ?_
    refine A_getf (v := .ref (q_h G + 236)) hg fl_RX10_83 dX10_totalBehind_35 hc_41 (by omega) rfl ?_
    refine A_iload_n hg dX10_totalBehind_38 rfl rfl ?_
    refine A_iload_n hg dX10_totalBehind_39 rfl rfl ?_
    refine A_iload_n hg dX10_totalBehind_40 rfl rfl ?_
    refine A_vV (kc2 := 1) (ks2 := 6) (As := [.int (nI (p1)), .int (nI (a1)), .int (nI (b1))]) (rest := []) hg lk_RX10_354 in_X6_take se_X6_take rfl dX10_totalBehind_41 ⟨by decide, by decide⟩ rfl rfl ⟨by decide, by decide⟩ hc_33 (by omega) rfl rfl (Nat.le_of_ble_eq_true rfl) (c_X6_take G ex n σ_40 236 (g 1) (g 2) fi se p1 a1 b1 hc_33 hc_35 hc_36 (by omega) (by omega) (by omega) (by rw [x_p_x hxp hpp]; exact hkx) (by rw [x_p_y hxp hpp]; exact hly)) ?_
    rintro σ_69 ⟨hc_66, hc_67, hf_68⟩
    have hc_70 : σ_69 0 = o10 G (z1) (z2) (z3) := (hf_68 _ (by omega)).trans hc_41
    have hc_71 : σ_69 25 = o0 G (25) (nI (g 0)) (nI (g 3)) (nI (g 4)) (nI (g 5)) (nI (g 6)) := (hf_68 _ (by omega)).trans hc_42
    have hc_72 : σ_69 26 = q_rn G 3 4 (fun j => some (25 + 10 + 2 * j)) := (hf_68 _ (by omega)).trans hc_43
    have hc_73 : σ_69 27 = o6 G (27) (nI (g 1)) (nI (g 2)) := (hf_68 _ (by omega)).trans hc_44
    have hc_74 : σ_69 (27 + 1) = q_an G 8 kd := (hf_68 _ (by omega)).trans hc_45
    have hc_75 : σ_69 (27 + 2) = q_an G 8 fi := (hf_68 _ (by omega)).trans hc_46
    have hc_76 : σ_69 (27 + 3) = q_an G 8 se := (hf_68 _ (by omega)).trans hc_47
    have hc_77 : σ_69 (27 + 4) = q_an G 8 tf := (hf_68 _ (by omega)).trans hc_48
    have hc_78 : σ_69 (27 + 5) = q_an G 8 ts := (hf_68 _ (by omega)).trans hc_49
    have hc_79 : σ_69 (25 + 8) = q_an G 10 ac := (hf_68 _ (by omega)).trans hc_50
    have hc_80 : σ_69 (25 + 9) = q_an G 100 tu := (hf_68 _ (by omega)).trans hc_51
    have hc_81 : ∀ j9 : Nat, j9 < g 0 → σ_69 (25 + 10 + 2 * j9) = o7 G (25 + 10 + 2 * j9) (lN (nm j9)) (lN (on j9)) (nI (s_rule g j9 18)) (nI (s_rule g j9 19)) (nI (s_rule g j9 20)) := fun j9 hj0 => (hf_68 _ (by omega)).trans (hc_52 j9 (by omega))
    have hc_82 : ∀ j9 : Nat, j9 < g 0 → σ_69 (25 + 10 + 2 * j9 + 1) = q_an G 5 (bm j9) := fun j9 hj0 => (hf_68 _ (by omega)).trans (hc_53 j9 (by omega))
    have hc_83 : σ_69 43 = o4 G (43)  := (hf_68 _ (by omega)).trans hc_54
    have hc_84 : σ_69 44 = q_rn G 4 4 (fun j => some (46 + 8 * j)) := (hf_68 _ (by omega)).trans hc_55
    have hc_85 : σ_69 45 = o1 G (h0) (h1) (h2) (h3) (h4) := (hf_68 _ (by omega)).trans hc_56
    have hc_86 : ∀ j9 : Nat, j9 < 4 → σ_69 (46 + 8 * j9) = o8 G (46 + 8 * j9) (nI (flA j9)) (nI (n0A j9)) (nI (gvA j9)) (nI (gsA j9)) (nI (lmA j9)) (nI (vsA j9)) := fun j9 hj0 => (hf_68 _ (by omega)).trans (hc_57 j9 (by omega))
    have hc_87 : ∀ j9 : Nat, j9 < 4 → σ_69 (46 + 8 * j9 + 1) = o7 G (46 + 8 * j9 + 1) (lN (nmA j9)) (lN (onA j9)) (nI (slA j9)) (nI (moA j9)) (nI (nbA j9)) := fun j9 hj0 => (hf_68 _ (by omega)).trans (hc_58 j9 (by omega))
    have hc_88 : ∀ j9 : Nat, j9 < 4 → σ_69 (46 + 8 * j9 + 2) = q_an G 5 (bmA j9) := fun j9 hj0 => (hf_68 _ (by omega)).trans (hc_59 j9 (by omega))
    have hc_89 : ∀ j9 : Nat, j9 < 4 → σ_69 (46 + 8 * j9 + 3) = q_an G 1681 (skA j9) := fun j9 hj0 => (hf_68 _ (by omega)).trans (hc_60 j9 (by omega))
    have hc_90 : ∀ j9 : Nat, j9 < 4 → σ_69 (46 + 8 * j9 + 4) = q_an G 1681 (s2A j9) := fun j9 hj0 => (hf_68 _ (by omega)).trans (hc_61 j9 (by omega))
    have hc_91 : ∀ j9 : Nat, j9 < 4 → σ_69 (46 + 8 * j9 + 5) = q_an G 1681 (vaA j9) := fun j9 hj0 => (hf_68 _ (by omega)).trans (hc_62 j9 (by omega))
    have hc_92 : ∀ j9 : Nat, j9 < 4 → σ_69 (46 + 8 * j9 + 6) = q_an G 1681 (spA j9) := fun j9 hj0 => (hf_68 _ (by omega)).trans (hc_63 j9 (by omega))
    have hc_93 : ∀ j9 : Nat, j9 < 4 → σ_69 (46 + 8 * j9 + 7) = q_an G 1681 (rfA j9) := fun j9 hj0 => (hf_68 _ (by omega)).trans (hc_64 j9 (by omega))
    have hc_94 : σ_69 242 = o1 G (e0) (e1) (e2) (e3) (e4) := (hf_68 _ (by omega)).trans hc_65
    have hc_95 : σ_69 236 = o6 G (236) (nI (g 1)) (nI (g 2)) := (hf_68 _ (by omega)).trans hc_33
    have hc_96 : σ_69 (236 + 1) = q_an G 8 kd := (hf_68 _ (by omega)).trans hc_34
    have hc_97 : σ_69 (236 + 4) = q_an G 8 tf := (hf_68 _ (by omega)).trans hc_37
    have hc_98 : σ_69 (236 + 5) = q_an G 8 ts := (hf_68 _ (by omega)).trans hc_38
    have ek1 : s_take g p1 a1 b1 1 = g 1 := s_take_at (by omega)
    have ek2 : s_take g p1 a1 b1 2 = g 2 := s_take_at (by omega)
    have hc_99 : σ_69 236 = o6 G (236) (nI (s_take g p1 a1 b1 1)) (nI (s_take g p1 a1 b1 2)) := hc_95.trans (by rw [ek1, ek2])
    refine A_aload_n hg dX10_totalBehind_44 rfl rfl ?_
    refine A_hV (kc2 := 1) (ks2 := 6) (As := []) (rest := []) hg lk_RX10_140 in_X10_fittedMix se_X10_fittedMix rfl dX10_totalBehind_45 ⟨by decide, by decide⟩ rfl rfl ⟨by decide, by decide⟩ hc_70 (by omega) rfl rfl (Nat.le_of_ble_eq_true rfl) (c_X10_fittedMix G ex n σ_69 z1 z2 z3 g kd fi se nm on bm flA n0A gvA gsA lmA vsA nmA onA slA moA nbA bmA skA s2A vaA spA rfA hc_70 hc_83 hc_84 hc_71 hc_72 hc_73 hc_74 hc_75 hc_76 hc_81 hc_82 hc_86 hc_87 hc_88 hc_89 hc_90 hc_91 hc_92 hc_93 (by omega) hgw hxp hrs hTI) ?_
    rintro _ σ_126 ⟨flB_100, n0B_101, gvB_102, gsB_103, lmB_104, vsB_105, nmB_106, onB_107, slB_108, moB_109, nbB_110, bmB_111, skB_112, s2B_113, vaB_114, spB_115, rfB_116, rfl, hTI2, hTF2, hc_117, hc_118, hc_119, hc_120, hc_121, hc_122, hc_123, hc_124, hf_125⟩
    refine (?_ : AJ G K Q 1 6 ex n 48 [some (.ref (q_h G + 0)), some (.int (nI (p1))), some (.int (nI (a1))), some (.int (nI (b1)))] [.ref (q_h G + 43)] σ_126)
    have hc_127 : σ_126 0 = o10 G (z1) (z2) (z3) := (hf_125 _ (by omega)).trans hc_70
    have hc_128 : σ_126 25 = o0 G (25) (nI (g 0)) (nI (g 3)) (nI (g 4)) (nI (g 5)) (nI (g 6)) := (hf_125 _ (by omega)).trans hc_71
    have hc_129 : σ_126 26 = q_rn G 3 4 (fun j => some (25 + 10 + 2 * j)) := (hf_125 _ (by omega)).trans hc_72
    have hc_130 : σ_126 27 = o6 G (27) (nI (g 1)) (nI (g 2)) := (hf_125 _ (by omega)).trans hc_73
    have hc_131 : σ_126 (27 + 1) = q_an G 8 kd := (hf_125 _ (by omega)).trans hc_74
    have hc_132 : σ_126 (27 + 2) = q_an G 8 fi := (hf_125 _ (by omega)).trans hc_75
    have hc_133 : σ_126 (27 + 3) = q_an G 8 se := (hf_125 _ (by omega)).trans hc_76
    have hc_134 : σ_126 (27 + 4) = q_an G 8 tf := (hf_125 _ (by omega)).trans hc_77
    have hc_135 : σ_126 (27 + 5) = q_an G 8 ts := (hf_125 _ (by omega)).trans hc_78
    have hc_136 : σ_126 (25 + 8) = q_an G 10 ac := (hf_125 _ (by omega)).trans hc_79
    have hc_137 : σ_126 (25 + 9) = q_an G 100 tu := (hf_125 _ (by omega)).trans hc_80
    have hc_138 : ∀ j9 : Nat, j9 < g 0 → σ_126 (25 + 10 + 2 * j9) = o7 G (25 + 10 + 2 * j9) (lN (nm j9)) (lN (on j9)) (nI (s_rule g j9 18)) (nI (s_rule g j9 19)) (nI (s_rule g j9 20)) := fun j9 hj0 => (hf_125 _ (by omega)).trans (hc_81 j9 (by omega))
    have hc_139 : ∀ j9 : Nat, j9 < g 0 → σ_126 (25 + 10 + 2 * j9 + 1) = q_an G 5 (bm j9) := fun j9 hj0 => (hf_125 _ (by omega)).trans (hc_82 j9 (by omega))
    have hc_140 : σ_126 43 = o4 G (43)  := (hf_125 _ (by omega)).trans hc_83
    have hc_141 : σ_126 44 = q_rn G 4 4 (fun j => some (46 + 8 * j)) := (hf_125 _ (by omega)).trans hc_84
    have hc_142 : σ_126 45 = o1 G (h0) (h1) (h2) (h3) (h4) := (hf_125 _ (by omega)).trans hc_85
    have hc_143 : σ_126 242 = o1 G (e0) (e1) (e2) (e3) (e4) := (hf_125 _ (by omega)).trans hc_94
    have hc_144 : σ_126 (236 + 1) = q_an G 8 kd := (hf_125 _ (by omega)).trans hc_96
    have hc_145 : σ_126 (236 + 4) = q_an G 8 tf := (hf_125 _ (by omega)).trans hc_97
    have hc_146 : σ_126 (236 + 5) = q_an G 8 ts := (hf_125 _ (by omega)).trans hc_98
    have hc_147 : σ_126 (236 + 2) = q_an G 8 (va_up fi (x_pl (g 1) p1) (fi (x_pl (g 1) p1) - a1)) := (hf_125 _ (by omega)).trans hc_66
    have hc_148 : σ_126 (236 + 3) = q_an G 8 (va_up se (x_pl (g 1) p1) (se (x_pl (g 1) p1) - b1)) := (hf_125 _ (by omega)).trans hc_67
    have hc_149 : σ_126 236 = o6 G (236) (nI (s_take g p1 a1 b1 1)) (nI (s_take g p1 a1 b1 2)) := (hf_125 _ (by omega)).trans hc_99
    refine A_aload_n hg dX10_totalBehind_48 rfl rfl ?_
    refine A_getf (v := .ref (q_h G + 236)) hg fl_RX10_83 dX10_totalBehind_49 hc_127 (by omega) rfl ?_
    refine A_eV (kc2 := 1) (ks2 := 6) (As := [.ref (q_h G + 236)]) (rest := []) hg lk_RX10_144 in_X4_totalOf se_X4_totalOf rfl dX10_totalBehind_52 ⟨by decide, by decide⟩ rfl rfl ⟨by decide, by decide⟩ hc_140 (by omega) rfl rfl (Nat.le_of_ble_eq_true rfl) (c_X4_totalOf G ex n σ_126 236 (s_take g p1 a1 b1) kd (va_up fi (x_pl (g 1) p1) (fi (x_pl (g 1) p1) - a1)) (va_up se (x_pl (g 1) p1) (se (x_pl (g 1) p1) - b1)) flB_100 n0B_101 gvB_102 gsB_103 lmB_104 vsB_105 nmB_106 onB_107 slB_108 moB_109 nbB_110 bmB_111 skB_112 s2B_113 vaB_114 spB_115 rfB_116 hc_140 hc_141 hc_149 hc_144 hc_147 hc_148 hc_117 hc_118 hc_119 hc_120 hc_121 hc_122 hc_123 hc_124 (by omega) (Or.inr rfl) (s_gwf_take hgw hpp) (x_p_take hgw hpp hxp) (by rw [ek1]; exact x_TF_take hgw hpp (Nat.le_refl _) hTF2)) ?_
    rw [hQ]
    exact A_ireturn hg (by decide) (by decide) rfl dX10_totalBehind_55 ⟨rfl, Or.inr ((⟨p1, a1, b1, (congrArg (fun z => some (Value.int (nI z))) (x_tot_take hgw hpp)), rfl, hpl9, rfl, rfl, hrf, ⟨(h0), (h1), (h2), (h3), (h4), flB_100, n0B_101, gvB_102, gsB_103, lmB_104, vsB_105, nmB_106, onB_107, slB_108, moB_109, nbB_110, bmB_111, skB_112, s2B_113, vaB_114, spB_115, rfB_116, hc_140, hc_141, hc_142, hc_117, hc_118, hc_119, hc_120, hc_121, hc_122, hc_123, hc_124, hTI2⟩, ⟨_, _, _, _, _, hc_143⟩, ⟨_, _, _, _, _, _, _, hc_149, hc_144, hc_147, hc_148, hc_145, hc_146⟩, (fun i hi => ((hf_125 i (by omega)).trans ((hf_68 i (by omega)).trans (hf_39 i (by omega)))))⟩))⟩
  · skip
    refine A_iconst (v := (q_d (0))) hg dX10_totalBehind_18 (by decide) ?_
    rw [hQ]
    exact A_ireturn hg (by decide) (by decide) rfl dX10_totalBehind_19 ⟨rfl, Or.inl (⟨p1, rfl, rfl, hpl9, c15, ⟨(h0), (h1), (h2), (h3), (h4), flA, n0A, gvA, gsA, lmA, vsA, nmA, onA, slA, moA, nbA, bmA, skA, s2A, vaA, spA, rfA, hm_15, hm_16, hm_17, hm_18, hm_19, hm_20, hm_21, hm_22, hm_23, hm_24, hm_25, hTI⟩, ⟨_, _, _, _, _, hh_26⟩, ⟨_, _, _, _, _, _, _, ht_27, ht_28, ht_29, ht_30, ht_31, ht_32⟩, (fun _ _ => rfl)⟩)⟩
end
