section
def x_pj (G : GL) (σ : Nat → va_E) : Prop := ∃ (bT skT : Nat) (kdT fiT seT tfT tsT : Nat → Nat), σ 236 = o6 G (236) (nI (bT)) (nI (skT)) ∧ σ (236 + 1) = q_an G 8 kdT ∧ σ (236 + 2) = q_an G 8 fiT ∧ σ (236 + 3) = q_an G 8 seT ∧ σ (236 + 4) = q_an G 8 tfT ∧ σ (236 + 5) = q_an G 8 tsT
theorem x_pj_e {G : GL} {σ σ2 : Nat → va_E} (e : ∀ i : Nat, 236 ≤ i → i ≤ 241 → σ2 i = σ i) (h : x_pj G σ) : x_pj G σ2 := by
  obtain ⟨b, sk, kd, fi, se, tf, ts, h0, h1, h2, h3, h4, h5⟩ := h
  exact ⟨b, sk, kd, fi, se, tf, ts, (e _ (by omega) (by omega)).trans h0, (e _ (by omega) (by omega)).trans h1, (e _ (by omega) (by omega)).trans h2, (e _ (by omega) (by omega)).trans h3, (e _ (by omega) (by omega)).trans h4, (e _ (by omega) (by omega)).trans h5⟩
set_option maxRecDepth 100000 in
set_option maxHeartbeats 4000000 in
theorem c_X10_turnsAhead (G : GL) (ex : Bool) (n : Nat) (σ : Nat → va_E) (z1 : Int32) (z2 : Int32) (z3 : Int32) (g : Nat → Nat) (kd : Nat → Nat) (fi : Nat → Nat) (se : Nat → Nat) (tf : Nat → Nat) (ts : Nat → Nat) (flA : Nat → Nat) (n0A : Nat → Nat) (gvA : Nat → Nat) (gsA : Nat → Nat) (lmA : Nat → Nat) (vsA : Nat → Nat) (nmA : Nat → Nat) (onA : Nat → Nat) (slA : Nat → Nat) (moA : Nat → Nat) (nbA : Nat → Nat) (bmA : Nat → Nat → Nat) (skA : Nat → Nat → Nat) (s2A : Nat → Nat → Nat) (vaA : Nat → Nat → Nat) (spA : Nat → Nat → Nat) (rfA : Nat → Nat → Nat) (bT : Nat) (skT : Nat) (kdT : Nat → Nat) (fiT : Nat → Nat) (seT : Nat → Nat) (tfT : Nat → Nat) (tsT : Nat → Nat) (e0 : Int32) (e1 : Int32) (e2 : Int32) (e3 : Int32) (e4 : Int32) (hc0 : σ 0 = o10 G (z1) (z2) (z3)) (hc1 : σ 25 = o0 G (25) (nI (g 0)) (nI (g 3)) (nI (g 4)) (nI (g 5)) (nI (g 6))) (hc2 : σ 27 = o6 G (27) (nI (g 1)) (nI (g 2))) (hc3 : σ (27 + 1) = q_an G 8 kd) (hc4 : σ (27 + 2) = q_an G 8 fi) (hc5 : σ (27 + 3) = q_an G 8 se) (hc6 : σ (27 + 4) = q_an G 8 tf) (hc7 : σ (27 + 5) = q_an G 8 ts) (hc8 : σ 43 = o4 G (43) ) (hc9 : σ 44 = q_rn G 4 4 (fun j => some (46 + 8 * j))) (hc10 : ∀ j9 : Nat, j9 < 4 → σ (46 + 8 * j9) = o8 G (46 + 8 * j9) (nI (flA j9)) (nI (n0A j9)) (nI (gvA j9)) (nI (gsA j9)) (nI (lmA j9)) (nI (vsA j9))) (hc11 : ∀ j9 : Nat, j9 < 4 → σ (46 + 8 * j9 + 1) = o7 G (46 + 8 * j9 + 1) (lN (nmA j9)) (lN (onA j9)) (nI (slA j9)) (nI (moA j9)) (nI (nbA j9))) (hc12 : ∀ j9 : Nat, j9 < 4 → σ (46 + 8 * j9 + 2) = q_an G 5 (bmA j9)) (hc13 : ∀ j9 : Nat, j9 < 4 → σ (46 + 8 * j9 + 3) = q_an G 1681 (skA j9)) (hc14 : ∀ j9 : Nat, j9 < 4 → σ (46 + 8 * j9 + 4) = q_an G 1681 (s2A j9)) (hc15 : ∀ j9 : Nat, j9 < 4 → σ (46 + 8 * j9 + 5) = q_an G 1681 (vaA j9)) (hc16 : ∀ j9 : Nat, j9 < 4 → σ (46 + 8 * j9 + 6) = q_an G 1681 (spA j9)) (hc17 : ∀ j9 : Nat, j9 < 4 → σ (46 + 8 * j9 + 7) = q_an G 1681 (rfA j9)) (hc18 : σ 236 = o6 G (236) (nI (bT)) (nI (skT))) (hc19 : σ (236 + 1) = q_an G 8 kdT) (hc20 : σ (236 + 2) = q_an G 8 fiT) (hc21 : σ (236 + 3) = q_an G 8 seT) (hc22 : σ (236 + 4) = q_an G 8 tfT) (hc23 : σ (236 + 5) = q_an G 8 tsT) (hc24 : σ 242 = o1 G (e0) (e1) (e2) (e3) (e4)) (hn9 : 279 ≤ n) (hgw : s_gwf g) (hxp : x_p g kd fi se) (hTF : x_TF g (g 1) onA slA moA nbA n0A gvA gsA lmA vsA bmA skA s2A vaA spA) : Ct G yX10_turnsAhead cX10_turnsAhead 4 (some .int) ⟨5, 0, 0, 123⟩ [.ref (q_h G + 0), .ref (q_h G + 43)] ex n σ (fun v9 σ2 => v9 = some (.int (nI (s_fn g 600))) ∧ (x_hn G σ2) ∧ (x_pj G σ2) ∧ (∀ i : Nat, i < 236 ∨ 242 < i → σ2 i = σ i)) := by
  refine q_enter [some (.ref (q_h G + 0)), some (.ref (q_h G + 43)), none, none] (by decide) (Nat.le_of_ble_eq_true rfl) rfl ?_
  intro K hg
  obtain ⟨Q, hQ⟩ : ∃ Q, Q = q_Q G K ex n 0 0 (fun v9 n' σ' => n' = n ∧ (fun v9 σ2 => v9 = some (.int (nI (s_fn g 600))) ∧ (x_hn G σ2) ∧ (x_pj G σ2) ∧ (∀ i : Nat, i < 236 ∨ 242 < i → σ2 i = σ i)) v9 σ') q_noX := ⟨_, rfl⟩
  refine (?_ : AJ G K (q_Q G K ex n 0 0 _ _) 0 0 ex n 0 _ _ σ)
  rw [← hQ]
  have hg0 := hgw.1
  have hg1 := hgw.2.1
  have hg2 := hgw.2.2.1
  refine A_aload_n hg dX10_turnsAhead_0 rfl rfl ?_
  refine A_getf (v := .ref (q_h G + 236)) hg fl_RX10_83 dX10_turnsAhead_1 hc0 (by omega) rfl ?_
  refine A_aload_n hg dX10_turnsAhead_4 rfl rfl ?_
  refine A_getf (v := .ref (q_h G + 25)) hg fl_RX10_40 dX10_turnsAhead_5 hc0 (by omega) rfl ?_
  refine A_getf (v := .ref (q_h G + 27)) hg fl_RX10_118 dX10_turnsAhead_8 hc1 (by omega) rfl ?_
  refine A_vV (kc2 := 0) (ks2 := 0) (As := [.ref (q_h G + 27)]) (rest := []) hg lk_RX10_351 in_X6_copyFrom se_X6_copyFrom rfl dX10_turnsAhead_11 ⟨by decide, by decide⟩ rfl rfl ⟨by decide, by decide⟩ hc18 (by omega) rfl rfl (Nat.le_of_ble_eq_true rfl) (c_X6_copyFrom G ex n σ 236 bT skT kdT fiT seT tfT tsT 27 (g 1) (g 2) kd fi se tf ts hc18 hc19 hc20 hc21 hc22 hc23 hc2 hc3 hc4 hc5 hc6 hc7 (by omega) (by omega) (by omega)) ?_
  rintro σ_8 ⟨hc_1, hc_2, hc_3, hc_4, hc_5, hc_6, hf_7⟩
  have hc_9 : σ_8 0 = o10 G (z1) (z2) (z3) := (hf_7 _ (by omega)).trans hc0
  have hc_10 : σ_8 25 = o0 G (25) (nI (g 0)) (nI (g 3)) (nI (g 4)) (nI (g 5)) (nI (g 6)) := (hf_7 _ (by omega)).trans hc1
  have hc_11 : σ_8 27 = o6 G (27) (nI (g 1)) (nI (g 2)) := (hf_7 _ (by omega)).trans hc2
  have hc_12 : σ_8 (27 + 1) = q_an G 8 kd := (hf_7 _ (by omega)).trans hc3
  have hc_13 : σ_8 (27 + 2) = q_an G 8 fi := (hf_7 _ (by omega)).trans hc4
  have hc_14 : σ_8 (27 + 3) = q_an G 8 se := (hf_7 _ (by omega)).trans hc5
  have hc_15 : σ_8 (27 + 4) = q_an G 8 tf := (hf_7 _ (by omega)).trans hc6
  have hc_16 : σ_8 (27 + 5) = q_an G 8 ts := (hf_7 _ (by omega)).trans hc7
  have hc_17 : σ_8 43 = o4 G (43)  := (hf_7 _ (by omega)).trans hc8
  have hc_18 : σ_8 44 = q_rn G 4 4 (fun j => some (46 + 8 * j)) := (hf_7 _ (by omega)).trans hc9
  have hc_19 : ∀ j9 : Nat, j9 < 4 → σ_8 (46 + 8 * j9) = o8 G (46 + 8 * j9) (nI (flA j9)) (nI (n0A j9)) (nI (gvA j9)) (nI (gsA j9)) (nI (lmA j9)) (nI (vsA j9)) := fun j9 hj0 => (hf_7 _ (by omega)).trans (hc10 j9 (by omega))
  have hc_20 : ∀ j9 : Nat, j9 < 4 → σ_8 (46 + 8 * j9 + 1) = o7 G (46 + 8 * j9 + 1) (lN (nmA j9)) (lN (onA j9)) (nI (slA j9)) (nI (moA j9)) (nI (nbA j9)) := fun j9 hj0 => (hf_7 _ (by omega)).trans (hc11 j9 (by omega))
  have hc_21 : ∀ j9 : Nat, j9 < 4 → σ_8 (46 + 8 * j9 + 2) = q_an G 5 (bmA j9) := fun j9 hj0 => (hf_7 _ (by omega)).trans (hc12 j9 (by omega))
  have hc_22 : ∀ j9 : Nat, j9 < 4 → σ_8 (46 + 8 * j9 + 3) = q_an G 1681 (skA j9) := fun j9 hj0 => (hf_7 _ (by omega)).trans (hc13 j9 (by omega))
  have hc_23 : ∀ j9 : Nat, j9 < 4 → σ_8 (46 + 8 * j9 + 4) = q_an G 1681 (s2A j9) := fun j9 hj0 => (hf_7 _ (by omega)).trans (hc14 j9 (by omega))
  have hc_24 : ∀ j9 : Nat, j9 < 4 → σ_8 (46 + 8 * j9 + 5) = q_an G 1681 (vaA j9) := fun j9 hj0 => (hf_7 _ (by omega)).trans (hc15 j9 (by omega))
  have hc_25 : ∀ j9 : Nat, j9 < 4 → σ_8 (46 + 8 * j9 + 6) = q_an G 1681 (spA j9) := fun j9 hj0 => (hf_7 _ (by omega)).trans (hc16 j9 (by omega))
  have hc_26 : ∀ j9 : Nat, j9 < 4 → σ_8 (46 + 8 * j9 + 7) = q_an G 1681 (rfA j9) := fun j9 hj0 => (hf_7 _ (by omega)).trans (hc17 j9 (by omega))
  have hc_27 : σ_8 242 = o1 G (e0) (e1) (e2) (e3) (e4) := (hf_7 _ (by omega)).trans hc24
  refine A_iconst (v := (nI (0))) hg dX10_turnsAhead_14 (by decide) ?_
  refine A_istore_n hg dX10_turnsAhead_15 rfl (by decide) (q_c1d rfl) ?_
  refine A_eq (ls2 := [some (.ref (q_h G + 0)), some (.ref (q_h G + 43)), some (.int (nI (0))), none]) (st2 := []) (pc2 := 0) rfl rfl ?_
  refine A_iconst (v := (nI (0))) hg dX10_turnsAhead_16 (by decide) ?_
  refine A_istore_n hg dX10_turnsAhead_17 rfl (by decide) (q_c1d rfl) ?_
  refine A_eq (ls2 := [some (.ref (q_h G + 0)), some (.ref (q_h G + 43)), some (.int (nI (0))), some (.int (nI (0)))]) (st2 := []) (pc2 := 0) rfl rfl ?_
  have hL18 : ∀ (fu : Nat) (i : Nat) (fiL : Nat → Nat) (seL : Nat → Nat) (f0 : Int32) (f1 : Int32) (f2 : Int32) (f3 : Int32) (f4 : Int32) (σ_28 : Nat → va_E), (σ_28 0 = o10 G (z1) (z2) (z3)) → (σ_28 25 = o0 G (25) (nI (g 0)) (nI (g 3)) (nI (g 4)) (nI (g 5)) (nI (g 6))) → (σ_28 27 = o6 G (27) (nI (g 1)) (nI (g 2))) → (σ_28 (27 + 1) = q_an G 8 kd) → (σ_28 (27 + 2) = q_an G 8 fi) → (σ_28 (27 + 3) = q_an G 8 se) → (σ_28 (27 + 4) = q_an G 8 tf) → (σ_28 (27 + 5) = q_an G 8 ts) → (σ_28 43 = o4 G (43) ) → (σ_28 44 = q_rn G 4 4 (fun j => some (46 + 8 * j))) → (∀ j9 : Nat, j9 < 4 → σ_28 (46 + 8 * j9) = o8 G (46 + 8 * j9) (nI (flA j9)) (nI (n0A j9)) (nI (gvA j9)) (nI (gsA j9)) (nI (lmA j9)) (nI (vsA j9))) → (∀ j9 : Nat, j9 < 4 → σ_28 (46 + 8 * j9 + 1) = o7 G (46 + 8 * j9 + 1) (lN (nmA j9)) (lN (onA j9)) (nI (slA j9)) (nI (moA j9)) (nI (nbA j9))) → (∀ j9 : Nat, j9 < 4 → σ_28 (46 + 8 * j9 + 2) = q_an G 5 (bmA j9)) → (∀ j9 : Nat, j9 < 4 → σ_28 (46 + 8 * j9 + 3) = q_an G 1681 (skA j9)) → (∀ j9 : Nat, j9 < 4 → σ_28 (46 + 8 * j9 + 4) = q_an G 1681 (s2A j9)) → (∀ j9 : Nat, j9 < 4 → σ_28 (46 + 8 * j9 + 5) = q_an G 1681 (vaA j9)) → (∀ j9 : Nat, j9 < 4 → σ_28 (46 + 8 * j9 + 6) = q_an G 1681 (spA j9)) → (∀ j9 : Nat, j9 < 4 → σ_28 (46 + 8 * j9 + 7) = q_an G 1681 (rfA j9)) → (σ_28 242 = o1 G (f0) (f1) (f2) (f3) (f4)) → (σ_28 236 = o6 G (236) (nI (s_it g i 1)) (nI (s_it g i 2))) → (σ_28 (236 + 1) = q_an G 8 kd) → (σ_28 (236 + 2) = q_an G 8 fiL) → (σ_28 (236 + 3) = q_an G 8 seL) → (σ_28 (236 + 4) = q_an G 8 tf) → (σ_28 (236 + 5) = q_an G 8 ts) → (∀ i : Nat, i < 236 ∨ 242 < i → σ_28 i = σ i) → (i ≤ 600) → (x_p (s_it g i) kd fiL seL) → (x_TF (s_it g i) (s_it g i 1) onA slA moA nbA n0A gvA gsA lmA vsA bmA skA s2A vaA spA) → (∀ j : Nat, j < i → s_adv (s_it g j) = true) → (600 - i) < fu → AJ G K Q 0 0 ex n 18 [some (.ref (q_h G + 0)), some (.ref (q_h G + 43)), some (.int (nI (i))), some (.int (nI (i)))] [] σ_28 := by
    intro fu
    induction fu with
    | zero => intro i fiL seL f0 f1 f2 f3 f4 σ_28 hc_29 hc_30 hc_31 hc_32 hc_33 hc_34 hc_35 hc_36 hc_37 hc_38 hc_39 hc_40 hc_41 hc_42 hc_43 hc_44 hc_45 hc_46 hc_47 hc_48 hc_49 hc_50 hc_51 hc_52 hc_53 hf_54 hi hx htf has hm; exact absurd hm (Nat.not_lt_zero _)
    | succ fu ih18 =>
      intro i fiL seL f0 f1 f2 f3 f4 σ_28 hc_29 hc_30 hc_31 hc_32 hc_33 hc_34 hc_35 hc_36 hc_37 hc_38 hc_39 hc_40 hc_41 hc_42 hc_43 hc_44 hc_45 hc_46 hc_47 hc_48 hc_49 hc_50 hc_51 hc_52 hc_53 hf_54 hi hx htf has hm18
      refine A_iload_n hg dX10_turnsAhead_18 rfl rfl ?_
      refine A_sipush (v := (nI (600))) hg dX10_turnsAhead_19 (by decide) ?_
      refine A_icmp_geN (tgt := 86) hg dX10_turnsAhead_22 (by omega) (by decide) (by decide) (fun c22 => ?_) (fun c22 => ?_)
      · skip
        refine A_iload_n hg dX10_turnsAhead_86 rfl rfl ?_
        rw [hQ]
        exact A_ireturn hg (by decide) (by decide) rfl dX10_turnsAhead_87 ⟨rfl, ⟨(by rw [x_fn_end hi has (Or.inl (by omega))]), ⟨_, _, _, _, _, hc_47⟩, ⟨_, _, _, _, _, _, _, hc_48, hc_49, hc_50, hc_51, hc_52, hc_53⟩, (fun i hi => (hf_54 i (by omega)))⟩⟩
      · skip
        have hgi := s_gwf_it hgw i
        have hgi1 := hgi.2.1
        have hgi2 := hgi.2.2.1
        refine A_aload_n hg dX10_turnsAhead_25 rfl rfl ?_
        refine A_aload_n hg dX10_turnsAhead_26 rfl rfl ?_
        refine A_getf (v := .ref (q_h G + 236)) hg fl_RX10_83 dX10_turnsAhead_27 hc_29 (by omega) rfl ?_
        refine A_aload_n hg dX10_turnsAhead_30 rfl rfl ?_
        refine A_getf (v := .ref (q_h G + 242)) hg fl_RX10_90 dX10_turnsAhead_31 hc_29 (by omega) rfl ?_
        refine A_vV (kc2 := 0) (ks2 := 0) (As := [.ref (q_h G + 236), .ref (q_h G + 242)]) (rest := []) hg lk_RX10_327 in_X4_advise se_X4_advise rfl dX10_turnsAhead_34 ⟨by decide, by decide⟩ rfl rfl ⟨by decide, by decide⟩ hc_37 (by omega) rfl rfl (Nat.le_of_ble_eq_true rfl) (c_X4_advise G ex n σ_28 236 (s_it g i) kd fiL seL flA n0A gvA gsA lmA vsA nmA onA slA moA nbA bmA skA s2A vaA spA rfA 242 f0 f1 f2 f3 f4 hc_37 hc_38 hc_48 hc_49 hc_50 hc_51 hc_39 hc_40 hc_41 hc_42 hc_43 hc_44 hc_45 hc_46 hc_47 (by omega) (Or.inr rfl) hgi hx htf (Or.inr rfl)) ?_
        rintro σ_57 ⟨px, kx, lx, hadv9, hc_55, hf_56⟩
        have hc_58 : σ_57 0 = o10 G (z1) (z2) (z3) := (hf_56 _ (by omega)).trans hc_29
        have hc_59 : σ_57 25 = o0 G (25) (nI (g 0)) (nI (g 3)) (nI (g 4)) (nI (g 5)) (nI (g 6)) := (hf_56 _ (by omega)).trans hc_30
        have hc_60 : σ_57 27 = o6 G (27) (nI (g 1)) (nI (g 2)) := (hf_56 _ (by omega)).trans hc_31
        have hc_61 : σ_57 (27 + 1) = q_an G 8 kd := (hf_56 _ (by omega)).trans hc_32
        have hc_62 : σ_57 (27 + 2) = q_an G 8 fi := (hf_56 _ (by omega)).trans hc_33
        have hc_63 : σ_57 (27 + 3) = q_an G 8 se := (hf_56 _ (by omega)).trans hc_34
        have hc_64 : σ_57 (27 + 4) = q_an G 8 tf := (hf_56 _ (by omega)).trans hc_35
        have hc_65 : σ_57 (27 + 5) = q_an G 8 ts := (hf_56 _ (by omega)).trans hc_36
        have hc_66 : σ_57 43 = o4 G (43)  := (hf_56 _ (by omega)).trans hc_37
        have hc_67 : σ_57 44 = q_rn G 4 4 (fun j => some (46 + 8 * j)) := (hf_56 _ (by omega)).trans hc_38
        have hc_68 : ∀ j9 : Nat, j9 < 4 → σ_57 (46 + 8 * j9) = o8 G (46 + 8 * j9) (nI (flA j9)) (nI (n0A j9)) (nI (gvA j9)) (nI (gsA j9)) (nI (lmA j9)) (nI (vsA j9)) := fun j9 hj0 => (hf_56 _ (by omega)).trans (hc_39 j9 (by omega))
        have hc_69 : ∀ j9 : Nat, j9 < 4 → σ_57 (46 + 8 * j9 + 1) = o7 G (46 + 8 * j9 + 1) (lN (nmA j9)) (lN (onA j9)) (nI (slA j9)) (nI (moA j9)) (nI (nbA j9)) := fun j9 hj0 => (hf_56 _ (by omega)).trans (hc_40 j9 (by omega))
        have hc_70 : ∀ j9 : Nat, j9 < 4 → σ_57 (46 + 8 * j9 + 2) = q_an G 5 (bmA j9) := fun j9 hj0 => (hf_56 _ (by omega)).trans (hc_41 j9 (by omega))
        have hc_71 : ∀ j9 : Nat, j9 < 4 → σ_57 (46 + 8 * j9 + 3) = q_an G 1681 (skA j9) := fun j9 hj0 => (hf_56 _ (by omega)).trans (hc_42 j9 (by omega))
        have hc_72 : ∀ j9 : Nat, j9 < 4 → σ_57 (46 + 8 * j9 + 4) = q_an G 1681 (s2A j9) := fun j9 hj0 => (hf_56 _ (by omega)).trans (hc_43 j9 (by omega))
        have hc_73 : ∀ j9 : Nat, j9 < 4 → σ_57 (46 + 8 * j9 + 5) = q_an G 1681 (vaA j9) := fun j9 hj0 => (hf_56 _ (by omega)).trans (hc_44 j9 (by omega))
        have hc_74 : ∀ j9 : Nat, j9 < 4 → σ_57 (46 + 8 * j9 + 6) = q_an G 1681 (spA j9) := fun j9 hj0 => (hf_56 _ (by omega)).trans (hc_45 j9 (by omega))
        have hc_75 : ∀ j9 : Nat, j9 < 4 → σ_57 (46 + 8 * j9 + 7) = q_an G 1681 (rfA j9) := fun j9 hj0 => (hf_56 _ (by omega)).trans (hc_46 j9 (by omega))
        have hc_76 : σ_57 236 = o6 G (236) (nI (s_it g i 1)) (nI (s_it g i 2)) := (hf_56 _ (by omega)).trans hc_48
        have hc_77 : σ_57 (236 + 1) = q_an G 8 kd := (hf_56 _ (by omega)).trans hc_49
        have hc_78 : σ_57 (236 + 2) = q_an G 8 fiL := (hf_56 _ (by omega)).trans hc_50
        have hc_79 : σ_57 (236 + 3) = q_an G 8 seL := (hf_56 _ (by omega)).trans hc_51
        have hc_80 : σ_57 (236 + 4) = q_an G 8 tf := (hf_56 _ (by omega)).trans hc_52
        have hc_81 : σ_57 (236 + 5) = q_an G 8 ts := (hf_56 _ (by omega)).trans hc_53
        refine A_aload_n hg dX10_turnsAhead_37 rfl rfl ?_
        refine A_getf (v := .ref (q_h G + 242)) hg fl_RX10_90 dX10_turnsAhead_38 hc_58 (by omega) rfl ?_
        refine A_getf (v := .int (q_b (s_adv (s_it g i)))) hg fl_RX10_331 dX10_turnsAhead_41 hc_55 (by omega) rfl ?_
        refine A_if_neB (tgt := 49) hg dX10_turnsAhead_44 (by decide) (fun c44 => ?_) (fun c44 => ?_)
        · skip
          have hadt : s_adv (s_it g i) = true := c44
          obtain ⟨ha1, ha2, ha3⟩ := hadv9 hadt
          subst ha1 ha2 ha3
          obtain ⟨ho1, ho2, ho3, -⟩ := s_adv_ok hadt
          have hnpi : s_np (s_it g i) = s_it g i 1 + s_it g i 2 := rfl
          have hlx := Nat.lt_of_le_of_lt ho2 (Nat.lt_succ_self _)
          refine A_aload_n hg dX10_turnsAhead_49 rfl rfl ?_
          refine A_getf (v := .ref (q_h G + 236)) hg fl_RX10_83 dX10_turnsAhead_50 hc_58 (by omega) rfl ?_
          refine A_aload_n hg dX10_turnsAhead_53 rfl rfl ?_
          refine A_getf (v := .ref (q_h G + 242)) hg fl_RX10_90 dX10_turnsAhead_54 hc_58 (by omega) rfl ?_
          refine A_getf (v := .int (nI (s_ap (s_it g i)))) hg fl_RX10_335 dX10_turnsAhead_57 hc_55 (by omega) rfl ?_
          refine A_aload_n hg dX10_turnsAhead_60 rfl rfl ?_
          refine A_getf (v := .ref (q_h G + 242)) hg fl_RX10_90 dX10_turnsAhead_61 hc_58 (by omega) rfl ?_
          refine A_getf (v := .int (nI (s_ak (s_it g i)))) hg fl_RX10_338 dX10_turnsAhead_64 hc_55 (by omega) rfl ?_
          refine A_aload_n hg dX10_turnsAhead_67 rfl rfl ?_
          refine A_getf (v := .ref (q_h G + 242)) hg fl_RX10_90 dX10_turnsAhead_68 hc_58 (by omega) rfl ?_
          refine A_getf (v := .int (nI (s_al2 (s_it g i)))) hg fl_RX10_341 dX10_turnsAhead_71 hc_55 (by omega) rfl ?_
          refine A_vV (kc2 := 0) (ks2 := 0) (As := [.int (nI (s_ap (s_it g i))), .int (nI (s_ak (s_it g i))), .int (nI (s_al2 (s_it g i)))]) (rest := []) hg lk_RX10_354 in_X6_take se_X6_take rfl dX10_turnsAhead_74 ⟨by decide, by decide⟩ rfl rfl ⟨by decide, by decide⟩ hc_76 (by omega) rfl rfl (Nat.le_of_ble_eq_true rfl) (c_X6_take G ex n σ_57 236 (s_it g i 1) (s_it g i 2) fiL seL (s_ap (s_it g i)) (s_ak (s_it g i)) (s_al2 (s_it g i)) hc_76 hc_78 hc_79 (by omega) (by omega) (by omega) (by rw [x_p_x hx ho1]; exact ho2) (by rw [x_p_y hx ho1]; exact ho3)) ?_
          rintro σ_85 ⟨hc_82, hc_83, hf_84⟩
          have hc_86 : σ_85 0 = o10 G (z1) (z2) (z3) := (hf_84 _ (by omega)).trans hc_58
          have hc_87 : σ_85 25 = o0 G (25) (nI (g 0)) (nI (g 3)) (nI (g 4)) (nI (g 5)) (nI (g 6)) := (hf_84 _ (by omega)).trans hc_59
          have hc_88 : σ_85 27 = o6 G (27) (nI (g 1)) (nI (g 2)) := (hf_84 _ (by omega)).trans hc_60
          have hc_89 : σ_85 (27 + 1) = q_an G 8 kd := (hf_84 _ (by omega)).trans hc_61
          have hc_90 : σ_85 (27 + 2) = q_an G 8 fi := (hf_84 _ (by omega)).trans hc_62
          have hc_91 : σ_85 (27 + 3) = q_an G 8 se := (hf_84 _ (by omega)).trans hc_63
          have hc_92 : σ_85 (27 + 4) = q_an G 8 tf := (hf_84 _ (by omega)).trans hc_64
          have hc_93 : σ_85 (27 + 5) = q_an G 8 ts := (hf_84 _ (by omega)).trans hc_65
          have hc_94 : σ_85 43 = o4 G (43)  := (hf_84 _ (by omega)).trans hc_66
          have hc_95 : σ_85 44 = q_rn G 4 4 (fun j => some (46 + 8 * j)) := (hf_84 _ (by omega)).trans hc_67
          have hc_96 : ∀ j9 : Nat, j9 < 4 → σ_85 (46 + 8 * j9) = o8 G (46 + 8 * j9) (nI (flA j9)) (nI (n0A j9)) (nI (gvA j9)) (nI (gsA j9)) (nI (lmA j9)) (nI (vsA j9)) := fun j9 hj0 => (hf_84 _ (by omega)).trans (hc_68 j9 (by omega))
          have hc_97 : ∀ j9 : Nat, j9 < 4 → σ_85 (46 + 8 * j9 + 1) = o7 G (46 + 8 * j9 + 1) (lN (nmA j9)) (lN (onA j9)) (nI (slA j9)) (nI (moA j9)) (nI (nbA j9)) := fun j9 hj0 => (hf_84 _ (by omega)).trans (hc_69 j9 (by omega))
          have hc_98 : ∀ j9 : Nat, j9 < 4 → σ_85 (46 + 8 * j9 + 2) = q_an G 5 (bmA j9) := fun j9 hj0 => (hf_84 _ (by omega)).trans (hc_70 j9 (by omega))
          have hc_99 : ∀ j9 : Nat, j9 < 4 → σ_85 (46 + 8 * j9 + 3) = q_an G 1681 (skA j9) := fun j9 hj0 => (hf_84 _ (by omega)).trans (hc_71 j9 (by omega))
          have hc_100 : ∀ j9 : Nat, j9 < 4 → σ_85 (46 + 8 * j9 + 4) = q_an G 1681 (s2A j9) := fun j9 hj0 => (hf_84 _ (by omega)).trans (hc_72 j9 (by omega))
          have hc_101 : ∀ j9 : Nat, j9 < 4 → σ_85 (46 + 8 * j9 + 5) = q_an G 1681 (vaA j9) := fun j9 hj0 => (hf_84 _ (by omega)).trans (hc_73 j9 (by omega))
          have hc_102 : ∀ j9 : Nat, j9 < 4 → σ_85 (46 + 8 * j9 + 6) = q_an G 1681 (spA j9) := fun j9 hj0 => (hf_84 _ (by omega)).trans (hc_74 j9 (by omega))
          have hc_103 : ∀ j9 : Nat, j9 < 4 → σ_85 (46 + 8 * j9 + 7) = q_an G 1681 (rfA j9) := fun j9 hj0 => (hf_84 _ (by omega)).trans (hc_75 j9 (by omega))
          have hc_104 : σ_85 236 = o6 G (236) (nI (s_it g i 1)) (nI (s_it g i 2)) := (hf_84 _ (by omega)).trans hc_76
          have hc_105 : σ_85 (236 + 1) = q_an G 8 kd := (hf_84 _ (by omega)).trans hc_77
          have hc_106 : σ_85 (236 + 4) = q_an G 8 tf := (hf_84 _ (by omega)).trans hc_80
          have hc_107 : σ_85 (236 + 5) = q_an G 8 ts := (hf_84 _ (by omega)).trans hc_81
          have hc_108 : σ_85 242 = o1 G (q_b (s_adv (s_it g i))) (q_b (s_aw (s_it g i))) (nI (s_ap (s_it g i))) (nI (s_ak (s_it g i))) (nI (s_al2 (s_it g i))) := (hf_84 _ (by omega)).trans hc_55
          have hsi := s_it_s hadt
          have hp1 := s_play_1 (k := s_ak (s_it g i)) (l := s_al2 (s_it g i)) hgi ho1
          rw [← hsi] at hp1
          have hc_109 : σ_85 236 = o6 G (236) (nI (s_it g (i + 1) 1)) (nI (s_it g (i + 1) 2)) := hc_104.trans (by rw [hp1.1, hp1.2])
          refine A_iincN (k' := 1) hg dX10_turnsAhead_77 (by decide) rfl (by decide) (q_c1d rfl) ?_
          refine A_eq (ls2 := [some (.ref (q_h G + 0)), some (.ref (q_h G + 43)), some (.int (nI (i + 1))), some (.int (nI (i)))]) (st2 := []) (pc2 := 0) rfl rfl ?_
          refine A_iincN (k' := 1) hg dX10_turnsAhead_80 (by decide) rfl (by decide) (q_c1d rfl) ?_
          refine A_eq (ls2 := [some (.ref (q_h G + 0)), some (.ref (q_h G + 43)), some (.int (nI (i + 1))), some (.int (nI (i + 1)))]) (st2 := []) (pc2 := 0) rfl rfl ?_
          refine A_goto (tgt := 18) hg dX10_turnsAhead_83 (by decide) ?_
          exact ih18 (i + 1) (va_up fiL (x_pl (s_it g i 1) (s_ap (s_it g i))) (fiL (x_pl (s_it g i 1) (s_ap (s_it g i))) - (s_ak (s_it g i)))) (va_up seL (x_pl (s_it g i 1) (s_ap (s_it g i))) (seL (x_pl (s_it g i 1) (s_ap (s_it g i))) - (s_al2 (s_it g i)))) (q_b (s_adv (s_it g i))) (q_b (s_aw (s_it g i))) (nI (s_ap (s_it g i))) (nI (s_ak (s_it g i))) (nI (s_al2 (s_it g i))) σ_85 hc_86 hc_87 hc_88 hc_89 hc_90 hc_91 hc_92 hc_93 hc_94 hc_95 hc_96 hc_97 hc_98 hc_99 hc_100 hc_101 hc_102 hc_103 hc_108 hc_109 hc_105 hc_82 hc_83 hc_106 hc_107 (fun i hi => ((hf_84 i (by omega)).trans ((hf_56 i (by omega)).trans (hf_54 i (by omega))))) (by omega) (by rw [hsi]; exact x_p_play hgi ho1 hx) (by rw [hp1.1, hsi]; exact x_TF_play hgi ho1 (Nat.le_refl _) htf) (lt_s has hadt) (by omega)
        · skip
          refine A_iload_n hg dX10_turnsAhead_47 rfl rfl ?_
          rw [hQ]
          exact A_ireturn hg (by decide) (by decide) rfl dX10_turnsAhead_48 ⟨rfl, ⟨(by rw [x_fn_end hi has (Or.inr c44)]), ⟨_, _, _, _, _, hc_55⟩, ⟨_, _, _, _, _, _, _, hc_76, hc_77, hc_78, hc_79, hc_80, hc_81⟩, (fun i hi => ((hf_56 i (by omega)).trans (hf_54 i (by omega))))⟩⟩
  exact hL18 _ 0 fi se e0 e1 e2 e3 e4 σ_8 hc_9 hc_10 hc_11 hc_12 hc_13 hc_14 hc_15 hc_16 hc_17 hc_18 hc_19 hc_20 hc_21 hc_22 hc_23 hc_24 hc_25 hc_26 hc_27 hc_1 hc_2 hc_3 hc_4 hc_5 hc_6 (fun i hi => (hf_7 i (by omega))) (Nat.zero_le _) hxp hTF (fun j h => absurd h (Nat.not_lt_zero j)) (Nat.lt_succ_self _)
end
