section
set_option maxRecDepth 100000 in
set_option maxHeartbeats 4000000 in
theorem c_X10_makeTurn (G : GL) (ex : Bool) (n : Nat) (σ : Nat → va_E) (z1 : Int32) (z2 : Int32) (z3 : Int32) (g : Nat → Nat) (flA : Nat → Nat) (n0A : Nat → Nat) (gvA : Nat → Nat) (gsA : Nat → Nat) (lmA : Nat → Nat) (vsA : Nat → Nat) (nmA : Nat → Nat) (onA : Nat → Nat) (slA : Nat → Nat) (moA : Nat → Nat) (nbA : Nat → Nat) (bmA : Nat → Nat → Nat) (skA : Nat → Nat → Nat) (s2A : Nat → Nat → Nat) (vaA : Nat → Nat → Nat) (spA : Nat → Nat → Nat) (rfA : Nat → Nat → Nat) (p : Nat) (k : Nat) (l : Nat) (h0 : Int32) (h1 : Int32) (h2 : Int32) (h3 : Int32) (h4 : Int32) (hc0 : σ 0 = o10 G (z1) (z2) (z3)) (hc1 : σ 43 = o4 G (43) ) (hc2 : σ 44 = q_rn G 4 4 (fun j => some (46 + 8 * j))) (hc3 : ∀ j9 : Nat, j9 < 4 → σ (46 + 8 * j9) = o8 G (46 + 8 * j9) (nI (flA j9)) (nI (n0A j9)) (nI (gvA j9)) (nI (gsA j9)) (nI (lmA j9)) (nI (vsA j9))) (hc4 : ∀ j9 : Nat, j9 < 4 → σ (46 + 8 * j9 + 1) = o7 G (46 + 8 * j9 + 1) (lN (nmA j9)) (lN (onA j9)) (nI (slA j9)) (nI (moA j9)) (nI (nbA j9))) (hc5 : ∀ j9 : Nat, j9 < 4 → σ (46 + 8 * j9 + 2) = q_an G 5 (bmA j9)) (hc6 : ∀ j9 : Nat, j9 < 4 → σ (46 + 8 * j9 + 3) = q_an G 1681 (skA j9)) (hc7 : ∀ j9 : Nat, j9 < 4 → σ (46 + 8 * j9 + 4) = q_an G 1681 (s2A j9)) (hc8 : ∀ j9 : Nat, j9 < 4 → σ (46 + 8 * j9 + 5) = q_an G 1681 (vaA j9)) (hc9 : ∀ j9 : Nat, j9 < 4 → σ (46 + 8 * j9 + 6) = q_an G 1681 (spA j9)) (hc10 : ∀ j9 : Nat, j9 < 4 → σ (46 + 8 * j9 + 7) = q_an G 1681 (rfA j9)) (hc11 : σ 45 = o1 G (h0) (h1) (h2) (h3) (h4)) (hn9 : 279 ≤ n) (hG : x_gm G σ 25 g) (hTF : x_TF g (g 1) onA slA moA nbA n0A gvA gsA lmA vsA bmA skA s2A vaA spA) (hpp : p < s_np g) (hk : k ≤ s_x g p) (hl : l ≤ s_y g p) : Ct G yX10_makeTurn cX10_makeTurn 7 (some .int) ⟨5, 0, 0, 120⟩ [.ref (q_h G + 0), .ref (q_h G + 43), .int (nI (p)), .int (nI (k)), .int (nI (l))] ex n σ (fun v9 σ2 => ∃ (h3x : Int32), ∃ (h4x : Int32), v9 = some (.int (nI (s_tot (s_take g p k l)))) ∧ (x_gm G σ2 25 (s_play g p k l)) ∧ σ2 45 = o1 G (h0) (h1) (h2) (h3x) (h4x) ∧ (∀ i : Nat, i < 25 ∨ (42 < i ∧ i ≠ 45) → σ2 i = σ i)) := by
  refine q_enter [some (.ref (q_h G + 0)), some (.ref (q_h G + 43)), some (.int (nI (p))), some (.int (nI (k))), some (.int (nI (l))), none, none] (by decide) (Nat.le_of_ble_eq_true rfl) rfl ?_
  intro K hg
  obtain ⟨Q, hQ⟩ : ∃ Q, Q = q_Q G K ex n 0 0 (fun v9 n' σ' => n' = n ∧ (fun v9 σ2 => ∃ (h3x : Int32), ∃ (h4x : Int32), v9 = some (.int (nI (s_tot (s_take g p k l)))) ∧ (x_gm G σ2 25 (s_play g p k l)) ∧ σ2 45 = o1 G (h0) (h1) (h2) (h3x) (h4x) ∧ (∀ i : Nat, i < 25 ∨ (42 < i ∧ i ≠ 45) → σ2 i = σ i)) v9 σ') q_noX := ⟨_, rfl⟩
  refine (?_ : AJ G K (q_Q G K ex n 0 0 _ _) 0 0 ex n 0 _ _ σ)
  rw [← hQ]
  obtain ⟨kd, fi, se, tf, ts, ac, tu, nm, on, sl, mo, nb, bm, ⟨hg_1, hg_2, hg_3, hg_4, hg_5, hg_6, hg_7, hg_8, hg_9, hg_10, hg_11, hg_12⟩, hgr⟩ := hG
  obtain ⟨hgw, hxp, htp, hrl, hac, htu⟩ := hgr
  have hrs := x_rl_rs hrl
  have hg0 := hgw.1
  have hg1 := hgw.2.1
  have hg2 := hgw.2.2.1
  have hg3 := hgw.2.2.2.1
  have hg6 := hgw.2.2.2.2.1
  have hnp : s_np g = g 1 + g 2 := rfl
  have hgr0 : x_gr g kd fi se tf ts ac tu nm on sl mo nb bm := ⟨hgw, hxp, htp, hrl, hac, htu⟩
  have hsp := s_part hgw hpp
  have htl := s_tot_lt hgw
  refine A_aload_n hg dX10_makeTurn_0 rfl rfl ?_
  refine A_aload_n hg dX10_makeTurn_1 rfl rfl ?_
  refine A_getf (v := .ref (q_h G + 25)) hg fl_RX10_40 dX10_makeTurn_2 hc0 (by omega) rfl ?_
  refine A_getf (v := .ref (q_h G + 27)) hg fl_RX10_118 dX10_makeTurn_5 hg_1 (by omega) rfl ?_
  refine A_eV (kc2 := 0) (ks2 := 0) (As := [.ref (q_h G + 27)]) (rest := []) hg lk_RX10_144 in_X4_totalOf se_X4_totalOf rfl dX10_makeTurn_8 ⟨by decide, by decide⟩ rfl rfl ⟨by decide, by decide⟩ hc1 (by omega) rfl rfl (Nat.le_of_ble_eq_true rfl) (c_X4_totalOf G ex n σ 27 g kd fi se flA n0A gvA gsA lmA vsA nmA onA slA moA nbA bmA skA s2A vaA spA rfA hc1 hc2 hg_3 hg_4 hg_5 hg_6 hc3 hc4 hc5 hc6 hc7 hc8 hc9 hc10 (by omega) (Or.inl rfl) hgw hxp hTF) ?_
  refine A_if_eqN (tgt := 18) hg dX10_makeTurn_11 (by omega) (by decide) (fun c11 => ?_) (fun c11 => ?_)
  · skip
    refine A_iconst (v := (nI (0))) hg dX10_makeTurn_18 (by decide) ?_
    refine A_istore hg dX10_makeTurn_19 (by decide) (q_c1d rfl) ?_
    refine A_eq (ls2 := [some (.ref (q_h G + 0)), some (.ref (q_h G + 43)), some (.int (nI (p))), some (.int (nI (k))), some (.int (nI (l))), some (.int (nI (0))), none]) (st2 := []) (pc2 := 0) rfl rfl ?_
    refine A_aload_n hg dX10_makeTurn_21 rfl rfl ?_
    refine A_getf (v := .ref (q_h G + 25)) hg fl_RX10_40 dX10_makeTurn_22 hc0 (by omega) rfl ?_
    refine A_getf (v := .ref (q_h G + 27)) hg fl_RX10_118 dX10_makeTurn_25 hg_1 (by omega) rfl ?_
    refine A_iload_n hg dX10_makeTurn_28 rfl rfl ?_
    refine A_iload_n hg dX10_makeTurn_29 rfl rfl ?_
    refine A_iload hg dX10_makeTurn_30 rfl ?_
    refine A_vV (kc2 := 0) (ks2 := 0) (As := [.int (nI (p)), .int (nI (k)), .int (nI (l))]) (rest := []) hg lk_RX10_354 in_X6_take se_X6_take rfl dX10_makeTurn_32 ⟨by decide, by decide⟩ rfl rfl ⟨by decide, by decide⟩ hg_3 (by omega) rfl rfl (Nat.le_of_ble_eq_true rfl) (c_X6_take G ex n σ 27 (g 1) (g 2) fi se p k l hg_3 hg_5 hg_6 (by omega) (by omega) (by omega) (by rw [x_p_x hxp hpp]; exact hk) (by rw [x_p_y hxp hpp]; exact hl)) ?_
    rintro σ_16 ⟨hc_13, hc_14, hf_15⟩
    have hc_17 : σ_16 0 = o10 G (z1) (z2) (z3) := (hf_15 _ (by omega)).trans hc0
    have hc_18 : σ_16 43 = o4 G (43)  := (hf_15 _ (by omega)).trans hc1
    have hc_19 : σ_16 44 = q_rn G 4 4 (fun j => some (46 + 8 * j)) := (hf_15 _ (by omega)).trans hc2
    have hc_20 : ∀ j9 : Nat, j9 < 4 → σ_16 (46 + 8 * j9) = o8 G (46 + 8 * j9) (nI (flA j9)) (nI (n0A j9)) (nI (gvA j9)) (nI (gsA j9)) (nI (lmA j9)) (nI (vsA j9)) := fun j9 hj0 => (hf_15 _ (by omega)).trans (hc3 j9 (by omega))
    have hc_21 : ∀ j9 : Nat, j9 < 4 → σ_16 (46 + 8 * j9 + 1) = o7 G (46 + 8 * j9 + 1) (lN (nmA j9)) (lN (onA j9)) (nI (slA j9)) (nI (moA j9)) (nI (nbA j9)) := fun j9 hj0 => (hf_15 _ (by omega)).trans (hc4 j9 (by omega))
    have hc_22 : ∀ j9 : Nat, j9 < 4 → σ_16 (46 + 8 * j9 + 2) = q_an G 5 (bmA j9) := fun j9 hj0 => (hf_15 _ (by omega)).trans (hc5 j9 (by omega))
    have hc_23 : ∀ j9 : Nat, j9 < 4 → σ_16 (46 + 8 * j9 + 3) = q_an G 1681 (skA j9) := fun j9 hj0 => (hf_15 _ (by omega)).trans (hc6 j9 (by omega))
    have hc_24 : ∀ j9 : Nat, j9 < 4 → σ_16 (46 + 8 * j9 + 4) = q_an G 1681 (s2A j9) := fun j9 hj0 => (hf_15 _ (by omega)).trans (hc7 j9 (by omega))
    have hc_25 : ∀ j9 : Nat, j9 < 4 → σ_16 (46 + 8 * j9 + 5) = q_an G 1681 (vaA j9) := fun j9 hj0 => (hf_15 _ (by omega)).trans (hc8 j9 (by omega))
    have hc_26 : ∀ j9 : Nat, j9 < 4 → σ_16 (46 + 8 * j9 + 6) = q_an G 1681 (spA j9) := fun j9 hj0 => (hf_15 _ (by omega)).trans (hc9 j9 (by omega))
    have hc_27 : ∀ j9 : Nat, j9 < 4 → σ_16 (46 + 8 * j9 + 7) = q_an G 1681 (rfA j9) := fun j9 hj0 => (hf_15 _ (by omega)).trans (hc10 j9 (by omega))
    have hc_28 : σ_16 45 = o1 G (h0) (h1) (h2) (h3) (h4) := (hf_15 _ (by omega)).trans hc11
    have hc_29 : σ_16 25 = o0 G (25) (nI (g 0)) (nI (g 3)) (nI (g 4)) (nI (g 5)) (nI (g 6)) := (hf_15 _ (by omega)).trans hg_1
    have hc_30 : σ_16 26 = q_rn G 3 4 (fun j => some (25 + 10 + 2 * j)) := (hf_15 _ (by omega)).trans hg_2
    have hc_31 : σ_16 27 = o6 G (27) (nI (g 1)) (nI (g 2)) := (hf_15 _ (by omega)).trans hg_3
    have hc_32 : σ_16 (27 + 1) = q_an G 8 kd := (hf_15 _ (by omega)).trans hg_4
    have hc_33 : σ_16 (27 + 4) = q_an G 8 tf := (hf_15 _ (by omega)).trans hg_7
    have hc_34 : σ_16 (27 + 5) = q_an G 8 ts := (hf_15 _ (by omega)).trans hg_8
    have hc_35 : σ_16 (25 + 8) = q_an G 10 ac := (hf_15 _ (by omega)).trans hg_9
    have hc_36 : σ_16 (25 + 9) = q_an G 100 tu := (hf_15 _ (by omega)).trans hg_10
    have hc_37 : ∀ j9 : Nat, j9 < 4 → σ_16 (25 + 10 + 2 * j9) = o7 G (25 + 10 + 2 * j9) (lN (nm j9)) (lN (on j9)) (nI (sl j9)) (nI (mo j9)) (nI (nb j9)) := fun j9 hj0 => (hf_15 _ (by omega)).trans (hg_11 j9 (by omega))
    have hc_38 : ∀ j9 : Nat, j9 < 4 → σ_16 (25 + 10 + 2 * j9 + 1) = q_an G 5 (bm j9) := fun j9 hj0 => (hf_15 _ (by omega)).trans (hg_12 j9 (by omega))
    have ek1 : s_take g p k l 1 = g 1 := s_take_at (by omega)
    have ek2 : s_take g p k l 2 = g 2 := s_take_at (by omega)
    have hgwT : s_gwf (s_take g p k l) := s_gwf_take hgw hpp
    have hxpT := x_p_take (k := k) (l := l) hgw hpp hxp
    have hTFT := x_TF_take (k := k) (l := l) hgw hpp (Nat.le_refl _) hTF
    have hTF9 : x_TF (s_take g p k l) (s_take g p k l 1) onA slA moA nbA n0A gvA gsA lmA vsA bmA skA s2A vaA spA := by rw [ek1]; exact hTFT
    have hc_39 : σ_16 27 = o6 G (27) (nI (s_take g p k l 1)) (nI (s_take g p k l 2)) := hc_31.trans (by rw [ek1, ek2])
    have htl2 := s_tot_lt hgwT
    refine A_aload_n hg dX10_makeTurn_35 rfl rfl ?_
    refine A_aload_n hg dX10_makeTurn_36 rfl rfl ?_
    refine A_getf (v := .ref (q_h G + 25)) hg fl_RX10_40 dX10_makeTurn_37 hc_17 (by omega) rfl ?_
    refine A_getf (v := .ref (q_h G + 27)) hg fl_RX10_118 dX10_makeTurn_40 hc_29 (by omega) rfl ?_
    refine A_eV (kc2 := 0) (ks2 := 0) (As := [.ref (q_h G + 27)]) (rest := []) hg lk_RX10_144 in_X4_totalOf se_X4_totalOf rfl dX10_makeTurn_43 ⟨by decide, by decide⟩ rfl rfl ⟨by decide, by decide⟩ hc_18 (by omega) rfl rfl (Nat.le_of_ble_eq_true rfl) (c_X4_totalOf G ex n σ_16 27 (s_take g p k l) kd (va_up fi (x_pl (g 1) p) (fi (x_pl (g 1) p) - k)) (va_up se (x_pl (g 1) p) (se (x_pl (g 1) p) - l)) flA n0A gvA gsA lmA vsA nmA onA slA moA nbA bmA skA s2A vaA spA rfA hc_18 hc_19 hc_39 hc_32 hc_13 hc_14 hc_20 hc_21 hc_22 hc_23 hc_24 hc_25 hc_26 hc_27 (by omega) (Or.inl rfl) hgwT hxpT hTF9) ?_
    refine A_istore hg dX10_makeTurn_46 (by decide) (q_c1d rfl) ?_
    refine A_eq (ls2 := [some (.ref (q_h G + 0)), some (.ref (q_h G + 43)), some (.int (nI (p))), some (.int (nI (k))), some (.int (nI (l))), some (.int (nI (0))), some (.int (nI (s_tot (s_take g p k l))))]) (st2 := []) (pc2 := 0) rfl rfl ?_
    refine A_aload_n hg dX10_makeTurn_48 rfl rfl ?_
    refine A_getf (v := .ref (q_h G + 25)) hg fl_RX10_40 dX10_makeTurn_49 hc_17 (by omega) rfl ?_
    refine A_iconst (v := (nI (0))) hg dX10_makeTurn_52 (by decide) ?_
    refine A_iconst (v := (nI (1))) hg dX10_makeTurn_53 (by decide) ?_
    refine A_vV (kc2 := 0) (ks2 := 0) (As := [.int (nI (0)), .int (nI (1))]) (rest := []) hg lk_RX10_396 in_X0_addToAccount se_X0_addToAccount rfl dX10_makeTurn_54 ⟨by decide, by decide⟩ rfl rfl ⟨by decide, by decide⟩ hc_29 (by omega) rfl rfl (Nat.le_of_ble_eq_true rfl) (c_X0_addToAccount G ex n σ_16 25 (g 0) (g 3) (g 4) (g 5) (g 6) ac 0 1 hc_29 hc_35 (by omega) (by omega) (by omega)) ?_
    rintro σ_42 ⟨hc_40, hf_41⟩
    have hc_43 : σ_42 0 = o10 G (z1) (z2) (z3) := (hf_41 _ (by omega)).trans hc_17
    have hc_44 : σ_42 43 = o4 G (43)  := (hf_41 _ (by omega)).trans hc_18
    have hc_45 : σ_42 44 = q_rn G 4 4 (fun j => some (46 + 8 * j)) := (hf_41 _ (by omega)).trans hc_19
    have hc_46 : ∀ j9 : Nat, j9 < 4 → σ_42 (46 + 8 * j9) = o8 G (46 + 8 * j9) (nI (flA j9)) (nI (n0A j9)) (nI (gvA j9)) (nI (gsA j9)) (nI (lmA j9)) (nI (vsA j9)) := fun j9 hj0 => (hf_41 _ (by omega)).trans (hc_20 j9 (by omega))
    have hc_47 : ∀ j9 : Nat, j9 < 4 → σ_42 (46 + 8 * j9 + 1) = o7 G (46 + 8 * j9 + 1) (lN (nmA j9)) (lN (onA j9)) (nI (slA j9)) (nI (moA j9)) (nI (nbA j9)) := fun j9 hj0 => (hf_41 _ (by omega)).trans (hc_21 j9 (by omega))
    have hc_48 : ∀ j9 : Nat, j9 < 4 → σ_42 (46 + 8 * j9 + 2) = q_an G 5 (bmA j9) := fun j9 hj0 => (hf_41 _ (by omega)).trans (hc_22 j9 (by omega))
    have hc_49 : ∀ j9 : Nat, j9 < 4 → σ_42 (46 + 8 * j9 + 3) = q_an G 1681 (skA j9) := fun j9 hj0 => (hf_41 _ (by omega)).trans (hc_23 j9 (by omega))
    have hc_50 : ∀ j9 : Nat, j9 < 4 → σ_42 (46 + 8 * j9 + 4) = q_an G 1681 (s2A j9) := fun j9 hj0 => (hf_41 _ (by omega)).trans (hc_24 j9 (by omega))
    have hc_51 : ∀ j9 : Nat, j9 < 4 → σ_42 (46 + 8 * j9 + 5) = q_an G 1681 (vaA j9) := fun j9 hj0 => (hf_41 _ (by omega)).trans (hc_25 j9 (by omega))
    have hc_52 : ∀ j9 : Nat, j9 < 4 → σ_42 (46 + 8 * j9 + 6) = q_an G 1681 (spA j9) := fun j9 hj0 => (hf_41 _ (by omega)).trans (hc_26 j9 (by omega))
    have hc_53 : ∀ j9 : Nat, j9 < 4 → σ_42 (46 + 8 * j9 + 7) = q_an G 1681 (rfA j9) := fun j9 hj0 => (hf_41 _ (by omega)).trans (hc_27 j9 (by omega))
    have hc_54 : σ_42 45 = o1 G (h0) (h1) (h2) (h3) (h4) := (hf_41 _ (by omega)).trans hc_28
    have hc_55 : σ_42 25 = o0 G (25) (nI (g 0)) (nI (g 3)) (nI (g 4)) (nI (g 5)) (nI (g 6)) := (hf_41 _ (by omega)).trans hc_29
    have hc_56 : σ_42 26 = q_rn G 3 4 (fun j => some (25 + 10 + 2 * j)) := (hf_41 _ (by omega)).trans hc_30
    have hc_57 : σ_42 (27 + 1) = q_an G 8 kd := (hf_41 _ (by omega)).trans hc_32
    have hc_58 : σ_42 (27 + 4) = q_an G 8 tf := (hf_41 _ (by omega)).trans hc_33
    have hc_59 : σ_42 (27 + 5) = q_an G 8 ts := (hf_41 _ (by omega)).trans hc_34
    have hc_60 : σ_42 (25 + 9) = q_an G 100 tu := (hf_41 _ (by omega)).trans hc_36
    have hc_61 : ∀ j9 : Nat, j9 < 4 → σ_42 (25 + 10 + 2 * j9) = o7 G (25 + 10 + 2 * j9) (lN (nm j9)) (lN (on j9)) (nI (sl j9)) (nI (mo j9)) (nI (nb j9)) := fun j9 hj0 => (hf_41 _ (by omega)).trans (hc_37 j9 (by omega))
    have hc_62 : ∀ j9 : Nat, j9 < 4 → σ_42 (25 + 10 + 2 * j9 + 1) = q_an G 5 (bm j9) := fun j9 hj0 => (hf_41 _ (by omega)).trans (hc_38 j9 (by omega))
    have hc_63 : σ_42 (27 + 2) = q_an G 8 (va_up fi (x_pl (g 1) p) (fi (x_pl (g 1) p) - k)) := (hf_41 _ (by omega)).trans hc_13
    have hc_64 : σ_42 (27 + 3) = q_an G 8 (va_up se (x_pl (g 1) p) (se (x_pl (g 1) p) - l)) := (hf_41 _ (by omega)).trans hc_14
    have hc_65 : σ_42 27 = o6 G (27) (nI (s_take g p k l 1)) (nI (s_take g p k l 2)) := (hf_41 _ (by omega)).trans hc_39
    refine A_aload_n hg dX10_makeTurn_57 rfl rfl ?_
    refine A_getf (v := .ref (q_h G + 25)) hg fl_RX10_40 dX10_makeTurn_58 hc_43 (by omega) rfl ?_
    refine A_iconst (v := (nI (1))) hg dX10_makeTurn_61 (by decide) ?_
    refine A_iload_n hg dX10_makeTurn_62 rfl rfl ?_
    refine A_iload hg dX10_makeTurn_63 rfl ?_
    refine A_iaddN hg dX10_makeTurn_65 ?_
    refine A_vV (kc2 := 0) (ks2 := 0) (As := [.int (nI (1)), .int (nI (k + l))]) (rest := []) hg lk_RX10_396 in_X0_addToAccount se_X0_addToAccount rfl dX10_makeTurn_66 ⟨by decide, by decide⟩ rfl rfl ⟨by decide, by decide⟩ hc_55 (by omega) rfl rfl (Nat.le_of_ble_eq_true rfl) (c_X0_addToAccount G ex n σ_42 25 (g 0) (g 3) (g 4) (g 5) (g 6) (va_up ac ((g 3) * 5 + 0) (ac ((g 3) * 5 + 0) + 1)) 1 (k + l) hc_55 hc_40 (by omega) (by omega) (by omega)) ?_
    rintro σ_68 ⟨hc_66, hf_67⟩
    have hc_69 : σ_68 0 = o10 G (z1) (z2) (z3) := (hf_67 _ (by omega)).trans hc_43
    have hc_70 : σ_68 43 = o4 G (43)  := (hf_67 _ (by omega)).trans hc_44
    have hc_71 : σ_68 44 = q_rn G 4 4 (fun j => some (46 + 8 * j)) := (hf_67 _ (by omega)).trans hc_45
    have hc_72 : ∀ j9 : Nat, j9 < 4 → σ_68 (46 + 8 * j9) = o8 G (46 + 8 * j9) (nI (flA j9)) (nI (n0A j9)) (nI (gvA j9)) (nI (gsA j9)) (nI (lmA j9)) (nI (vsA j9)) := fun j9 hj0 => (hf_67 _ (by omega)).trans (hc_46 j9 (by omega))
    have hc_73 : ∀ j9 : Nat, j9 < 4 → σ_68 (46 + 8 * j9 + 1) = o7 G (46 + 8 * j9 + 1) (lN (nmA j9)) (lN (onA j9)) (nI (slA j9)) (nI (moA j9)) (nI (nbA j9)) := fun j9 hj0 => (hf_67 _ (by omega)).trans (hc_47 j9 (by omega))
    have hc_74 : ∀ j9 : Nat, j9 < 4 → σ_68 (46 + 8 * j9 + 2) = q_an G 5 (bmA j9) := fun j9 hj0 => (hf_67 _ (by omega)).trans (hc_48 j9 (by omega))
    have hc_75 : ∀ j9 : Nat, j9 < 4 → σ_68 (46 + 8 * j9 + 3) = q_an G 1681 (skA j9) := fun j9 hj0 => (hf_67 _ (by omega)).trans (hc_49 j9 (by omega))
    have hc_76 : ∀ j9 : Nat, j9 < 4 → σ_68 (46 + 8 * j9 + 4) = q_an G 1681 (s2A j9) := fun j9 hj0 => (hf_67 _ (by omega)).trans (hc_50 j9 (by omega))
    have hc_77 : ∀ j9 : Nat, j9 < 4 → σ_68 (46 + 8 * j9 + 5) = q_an G 1681 (vaA j9) := fun j9 hj0 => (hf_67 _ (by omega)).trans (hc_51 j9 (by omega))
    have hc_78 : ∀ j9 : Nat, j9 < 4 → σ_68 (46 + 8 * j9 + 6) = q_an G 1681 (spA j9) := fun j9 hj0 => (hf_67 _ (by omega)).trans (hc_52 j9 (by omega))
    have hc_79 : ∀ j9 : Nat, j9 < 4 → σ_68 (46 + 8 * j9 + 7) = q_an G 1681 (rfA j9) := fun j9 hj0 => (hf_67 _ (by omega)).trans (hc_53 j9 (by omega))
    have hc_80 : σ_68 45 = o1 G (h0) (h1) (h2) (h3) (h4) := (hf_67 _ (by omega)).trans hc_54
    have hc_81 : σ_68 25 = o0 G (25) (nI (g 0)) (nI (g 3)) (nI (g 4)) (nI (g 5)) (nI (g 6)) := (hf_67 _ (by omega)).trans hc_55
    have hc_82 : σ_68 26 = q_rn G 3 4 (fun j => some (25 + 10 + 2 * j)) := (hf_67 _ (by omega)).trans hc_56
    have hc_83 : σ_68 (27 + 1) = q_an G 8 kd := (hf_67 _ (by omega)).trans hc_57
    have hc_84 : σ_68 (27 + 4) = q_an G 8 tf := (hf_67 _ (by omega)).trans hc_58
    have hc_85 : σ_68 (27 + 5) = q_an G 8 ts := (hf_67 _ (by omega)).trans hc_59
    have hc_86 : σ_68 (25 + 9) = q_an G 100 tu := (hf_67 _ (by omega)).trans hc_60
    have hc_87 : ∀ j9 : Nat, j9 < 4 → σ_68 (25 + 10 + 2 * j9) = o7 G (25 + 10 + 2 * j9) (lN (nm j9)) (lN (on j9)) (nI (sl j9)) (nI (mo j9)) (nI (nb j9)) := fun j9 hj0 => (hf_67 _ (by omega)).trans (hc_61 j9 (by omega))
    have hc_88 : ∀ j9 : Nat, j9 < 4 → σ_68 (25 + 10 + 2 * j9 + 1) = q_an G 5 (bm j9) := fun j9 hj0 => (hf_67 _ (by omega)).trans (hc_62 j9 (by omega))
    have hc_89 : σ_68 (27 + 2) = q_an G 8 (va_up fi (x_pl (g 1) p) (fi (x_pl (g 1) p) - k)) := (hf_67 _ (by omega)).trans hc_63
    have hc_90 : σ_68 (27 + 3) = q_an G 8 (va_up se (x_pl (g 1) p) (se (x_pl (g 1) p) - l)) := (hf_67 _ (by omega)).trans hc_64
    have hc_91 : σ_68 27 = o6 G (27) (nI (s_take g p k l 1)) (nI (s_take g p k l 2)) := (hf_67 _ (by omega)).trans hc_65
    refine A_aload_n hg dX10_makeTurn_69 rfl rfl ?_
    refine A_aload_n hg dX10_makeTurn_70 rfl rfl ?_
    refine A_getf (v := .ref (q_h G + 25)) hg fl_RX10_40 dX10_makeTurn_71 hc_69 (by omega) rfl ?_
    refine A_getf (v := .ref (q_h G + 27)) hg fl_RX10_118 dX10_makeTurn_74 hc_81 (by omega) rfl ?_
    refine A_hV (kc2 := 0) (ks2 := 0) (As := [.ref (q_h G + 27)]) (rest := []) hg lk_RX10_154 in_X4_isOver se_X4_isOver rfl dX10_makeTurn_77 ⟨by decide, by decide⟩ rfl rfl ⟨by decide, by decide⟩ hc_70 (by omega) rfl rfl (Nat.le_of_ble_eq_true rfl) (c_X4_isOver G ex n σ_68 27 (s_take g p k l) kd (va_up fi (x_pl (g 1) p) (fi (x_pl (g 1) p) - k)) (va_up se (x_pl (g 1) p) (se (x_pl (g 1) p) - l)) flA n0A gvA gsA lmA vsA nmA onA slA moA nbA bmA skA s2A vaA spA rfA h0 h1 h2 h3 h4 hc_70 hc_71 hc_91 hc_83 hc_89 hc_90 hc_72 hc_73 hc_74 hc_75 hc_76 hc_77 hc_78 hc_79 hc_80 (by omega) (Or.inl rfl) hgwT hxpT hTF9) ?_
    rintro _ σ_96 ⟨h3x_92, h4x_93, rfl, hc_94, hf_95⟩
    refine (?_ : AJ G K Q 0 0 ex n 80 [some (.ref (q_h G + 0)), some (.ref (q_h G + 43)), some (.int (nI (p))), some (.int (nI (k))), some (.int (nI (l))), some (.int (nI (0))), some (.int (nI (s_tot (s_take g p k l))))] [.int (q_b (s_over (s_take g p k l)))] σ_96)
    have hc_97 : σ_96 0 = o10 G (z1) (z2) (z3) := (hf_95 _ (by omega)).trans hc_69
    have hc_98 : σ_96 43 = o4 G (43)  := (hf_95 _ (by omega)).trans hc_70
    have hc_99 : σ_96 44 = q_rn G 4 4 (fun j => some (46 + 8 * j)) := (hf_95 _ (by omega)).trans hc_71
    have hc_100 : ∀ j9 : Nat, j9 < 4 → σ_96 (46 + 8 * j9) = o8 G (46 + 8 * j9) (nI (flA j9)) (nI (n0A j9)) (nI (gvA j9)) (nI (gsA j9)) (nI (lmA j9)) (nI (vsA j9)) := fun j9 hj0 => (hf_95 _ (by omega)).trans (hc_72 j9 (by omega))
    have hc_101 : ∀ j9 : Nat, j9 < 4 → σ_96 (46 + 8 * j9 + 1) = o7 G (46 + 8 * j9 + 1) (lN (nmA j9)) (lN (onA j9)) (nI (slA j9)) (nI (moA j9)) (nI (nbA j9)) := fun j9 hj0 => (hf_95 _ (by omega)).trans (hc_73 j9 (by omega))
    have hc_102 : ∀ j9 : Nat, j9 < 4 → σ_96 (46 + 8 * j9 + 2) = q_an G 5 (bmA j9) := fun j9 hj0 => (hf_95 _ (by omega)).trans (hc_74 j9 (by omega))
    have hc_103 : ∀ j9 : Nat, j9 < 4 → σ_96 (46 + 8 * j9 + 3) = q_an G 1681 (skA j9) := fun j9 hj0 => (hf_95 _ (by omega)).trans (hc_75 j9 (by omega))
    have hc_104 : ∀ j9 : Nat, j9 < 4 → σ_96 (46 + 8 * j9 + 4) = q_an G 1681 (s2A j9) := fun j9 hj0 => (hf_95 _ (by omega)).trans (hc_76 j9 (by omega))
    have hc_105 : ∀ j9 : Nat, j9 < 4 → σ_96 (46 + 8 * j9 + 5) = q_an G 1681 (vaA j9) := fun j9 hj0 => (hf_95 _ (by omega)).trans (hc_77 j9 (by omega))
    have hc_106 : ∀ j9 : Nat, j9 < 4 → σ_96 (46 + 8 * j9 + 6) = q_an G 1681 (spA j9) := fun j9 hj0 => (hf_95 _ (by omega)).trans (hc_78 j9 (by omega))
    have hc_107 : ∀ j9 : Nat, j9 < 4 → σ_96 (46 + 8 * j9 + 7) = q_an G 1681 (rfA j9) := fun j9 hj0 => (hf_95 _ (by omega)).trans (hc_79 j9 (by omega))
    have hc_108 : σ_96 25 = o0 G (25) (nI (g 0)) (nI (g 3)) (nI (g 4)) (nI (g 5)) (nI (g 6)) := (hf_95 _ (by omega)).trans hc_81
    have hc_109 : σ_96 26 = q_rn G 3 4 (fun j => some (25 + 10 + 2 * j)) := (hf_95 _ (by omega)).trans hc_82
    have hc_110 : σ_96 (27 + 1) = q_an G 8 kd := (hf_95 _ (by omega)).trans hc_83
    have hc_111 : σ_96 (27 + 4) = q_an G 8 tf := (hf_95 _ (by omega)).trans hc_84
    have hc_112 : σ_96 (27 + 5) = q_an G 8 ts := (hf_95 _ (by omega)).trans hc_85
    have hc_113 : σ_96 (25 + 9) = q_an G 100 tu := (hf_95 _ (by omega)).trans hc_86
    have hc_114 : ∀ j9 : Nat, j9 < 4 → σ_96 (25 + 10 + 2 * j9) = o7 G (25 + 10 + 2 * j9) (lN (nm j9)) (lN (on j9)) (nI (sl j9)) (nI (mo j9)) (nI (nb j9)) := fun j9 hj0 => (hf_95 _ (by omega)).trans (hc_87 j9 (by omega))
    have hc_115 : ∀ j9 : Nat, j9 < 4 → σ_96 (25 + 10 + 2 * j9 + 1) = q_an G 5 (bm j9) := fun j9 hj0 => (hf_95 _ (by omega)).trans (hc_88 j9 (by omega))
    have hc_116 : σ_96 (27 + 2) = q_an G 8 (va_up fi (x_pl (g 1) p) (fi (x_pl (g 1) p) - k)) := (hf_95 _ (by omega)).trans hc_89
    have hc_117 : σ_96 (27 + 3) = q_an G 8 (va_up se (x_pl (g 1) p) (se (x_pl (g 1) p) - l)) := (hf_95 _ (by omega)).trans hc_90
    have hc_118 : σ_96 27 = o6 G (27) (nI (s_take g p k l 1)) (nI (s_take g p k l 2)) := (hf_95 _ (by omega)).trans hc_91
    have hc_119 : σ_96 (25 + 8) = q_an G 10 (va_up (va_up ac ((g 3) * 5 + 0) (ac ((g 3) * 5 + 0) + 1)) ((g 3) * 5 + 1) ((va_up ac ((g 3) * 5 + 0) (ac ((g 3) * 5 + 0) + 1)) ((g 3) * 5 + 1) + (k + l))) := (hf_95 _ (by omega)).trans hc_66
    refine A_if_eqB (tgt := 92) hg dX10_makeTurn_80 (by decide) (fun c80 => ?_) (fun c80 => ?_)
    · skip
      refine A_iload hg dX10_makeTurn_92 rfl ?_
      refine A_if_neN (tgt := 109) hg dX10_makeTurn_94 (by omega) (by decide) (fun c94 => ?_) (fun c94 => ?_)
      · skip
        refine A_iload hg dX10_makeTurn_109 rfl ?_
        refine A_if_eqN (tgt := 123) hg dX10_makeTurn_111 (by decide) (by decide) (fun c111 => ?_) (fun c111 => absurd (by decide) c111)
        refine A_canon (x_acP ac (g 3) (k + l) (s_over (s_take g p k l)) (s_tot (s_take g p k l)) (decide (s_tot g ≠ 0))) hc_119 (fun jj hj => by unfold x_acP; rw [if_neg c94, if_neg (show ¬ (decide (s_tot g ≠ 0) = true) from fun z => absurd c11 (of_decide_eq_true z)), if_neg (show ¬ (s_over (s_take g p k l) = true) by rw [c80]; decide)]; rfl) (fun σ_120 hc_121 hf_122 => ?_)
        have hc_123 : σ_120 0 = o10 G (z1) (z2) (z3) := (hf_122 _ (by omega)).trans hc_97
        have hc_124 : σ_120 43 = o4 G (43)  := (hf_122 _ (by omega)).trans hc_98
        have hc_125 : σ_120 44 = q_rn G 4 4 (fun j => some (46 + 8 * j)) := (hf_122 _ (by omega)).trans hc_99
        have hc_126 : ∀ j9 : Nat, j9 < 4 → σ_120 (46 + 8 * j9) = o8 G (46 + 8 * j9) (nI (flA j9)) (nI (n0A j9)) (nI (gvA j9)) (nI (gsA j9)) (nI (lmA j9)) (nI (vsA j9)) := fun j9 hj0 => (hf_122 _ (by omega)).trans (hc_100 j9 (by omega))
        have hc_127 : ∀ j9 : Nat, j9 < 4 → σ_120 (46 + 8 * j9 + 1) = o7 G (46 + 8 * j9 + 1) (lN (nmA j9)) (lN (onA j9)) (nI (slA j9)) (nI (moA j9)) (nI (nbA j9)) := fun j9 hj0 => (hf_122 _ (by omega)).trans (hc_101 j9 (by omega))
        have hc_128 : ∀ j9 : Nat, j9 < 4 → σ_120 (46 + 8 * j9 + 2) = q_an G 5 (bmA j9) := fun j9 hj0 => (hf_122 _ (by omega)).trans (hc_102 j9 (by omega))
        have hc_129 : ∀ j9 : Nat, j9 < 4 → σ_120 (46 + 8 * j9 + 3) = q_an G 1681 (skA j9) := fun j9 hj0 => (hf_122 _ (by omega)).trans (hc_103 j9 (by omega))
        have hc_130 : ∀ j9 : Nat, j9 < 4 → σ_120 (46 + 8 * j9 + 4) = q_an G 1681 (s2A j9) := fun j9 hj0 => (hf_122 _ (by omega)).trans (hc_104 j9 (by omega))
        have hc_131 : ∀ j9 : Nat, j9 < 4 → σ_120 (46 + 8 * j9 + 5) = q_an G 1681 (vaA j9) := fun j9 hj0 => (hf_122 _ (by omega)).trans (hc_105 j9 (by omega))
        have hc_132 : ∀ j9 : Nat, j9 < 4 → σ_120 (46 + 8 * j9 + 6) = q_an G 1681 (spA j9) := fun j9 hj0 => (hf_122 _ (by omega)).trans (hc_106 j9 (by omega))
        have hc_133 : ∀ j9 : Nat, j9 < 4 → σ_120 (46 + 8 * j9 + 7) = q_an G 1681 (rfA j9) := fun j9 hj0 => (hf_122 _ (by omega)).trans (hc_107 j9 (by omega))
        have hc_134 : σ_120 25 = o0 G (25) (nI (g 0)) (nI (g 3)) (nI (g 4)) (nI (g 5)) (nI (g 6)) := (hf_122 _ (by omega)).trans hc_108
        have hc_135 : σ_120 26 = q_rn G 3 4 (fun j => some (25 + 10 + 2 * j)) := (hf_122 _ (by omega)).trans hc_109
        have hc_136 : σ_120 (27 + 1) = q_an G 8 kd := (hf_122 _ (by omega)).trans hc_110
        have hc_137 : σ_120 (27 + 4) = q_an G 8 tf := (hf_122 _ (by omega)).trans hc_111
        have hc_138 : σ_120 (27 + 5) = q_an G 8 ts := (hf_122 _ (by omega)).trans hc_112
        have hc_139 : σ_120 (25 + 9) = q_an G 100 tu := (hf_122 _ (by omega)).trans hc_113
        have hc_140 : ∀ j9 : Nat, j9 < 4 → σ_120 (25 + 10 + 2 * j9) = o7 G (25 + 10 + 2 * j9) (lN (nm j9)) (lN (on j9)) (nI (sl j9)) (nI (mo j9)) (nI (nb j9)) := fun j9 hj0 => (hf_122 _ (by omega)).trans (hc_114 j9 (by omega))
        have hc_141 : ∀ j9 : Nat, j9 < 4 → σ_120 (25 + 10 + 2 * j9 + 1) = q_an G 5 (bm j9) := fun j9 hj0 => (hf_122 _ (by omega)).trans (hc_115 j9 (by omega))
        have hc_142 : σ_120 (27 + 2) = q_an G 8 (va_up fi (x_pl (g 1) p) (fi (x_pl (g 1) p) - k)) := (hf_122 _ (by omega)).trans hc_116
        have hc_143 : σ_120 (27 + 3) = q_an G 8 (va_up se (x_pl (g 1) p) (se (x_pl (g 1) p) - l)) := (hf_122 _ (by omega)).trans hc_117
        have hc_144 : σ_120 27 = o6 G (27) (nI (s_take g p k l 1)) (nI (s_take g p k l 2)) := (hf_122 _ (by omega)).trans hc_118
        have hc_145 : σ_120 45 = o1 G (h0) (h1) (h2) (h3x_92) (h4x_93) := (hf_122 _ (by omega)).trans hc_94
        refine A_aload_n hg dX10_makeTurn_123 rfl rfl ?_
        refine A_getf (v := .ref (q_h G + 25)) hg fl_RX10_40 dX10_makeTurn_124 hc_123 (by omega) rfl ?_
        refine A_iload_n hg dX10_makeTurn_127 rfl rfl ?_
        refine A_iload_n hg dX10_makeTurn_128 rfl rfl ?_
        refine A_iload hg dX10_makeTurn_129 rfl ?_
        refine A_iload hg dX10_makeTurn_131 rfl ?_
        refine A_vV (kc2 := 0) (ks2 := 0) (As := [.int (nI (p)), .int (nI (k)), .int (nI (l)), .int (nI (s_tot (s_take g p k l)))]) (rest := []) hg lk_RX10_399 in_X0_keepTurn se_X0_keepTurn rfl dX10_makeTurn_133 ⟨by decide, by decide⟩ rfl rfl ⟨by decide, by decide⟩ hc_134 (by omega) rfl rfl (Nat.le_of_ble_eq_true rfl) (c_X0_keepTurn G ex n σ_120 25 (g 0) (g 3) (g 4) (g 5) (g 6) tu p k l (s_tot (s_take g p k l)) hc_134 hc_139 (by omega) (by omega)) ?_
        rintro σ_149 ⟨hc_146, hc_147, hf_148⟩
        have hc_150 : σ_149 0 = o10 G (z1) (z2) (z3) := (hf_148 _ (by omega)).trans hc_123
        have hc_151 : σ_149 43 = o4 G (43)  := (hf_148 _ (by omega)).trans hc_124
        have hc_152 : σ_149 44 = q_rn G 4 4 (fun j => some (46 + 8 * j)) := (hf_148 _ (by omega)).trans hc_125
        have hc_153 : ∀ j9 : Nat, j9 < 4 → σ_149 (46 + 8 * j9) = o8 G (46 + 8 * j9) (nI (flA j9)) (nI (n0A j9)) (nI (gvA j9)) (nI (gsA j9)) (nI (lmA j9)) (nI (vsA j9)) := fun j9 hj0 => (hf_148 _ (by omega)).trans (hc_126 j9 (by omega))
        have hc_154 : ∀ j9 : Nat, j9 < 4 → σ_149 (46 + 8 * j9 + 1) = o7 G (46 + 8 * j9 + 1) (lN (nmA j9)) (lN (onA j9)) (nI (slA j9)) (nI (moA j9)) (nI (nbA j9)) := fun j9 hj0 => (hf_148 _ (by omega)).trans (hc_127 j9 (by omega))
        have hc_155 : ∀ j9 : Nat, j9 < 4 → σ_149 (46 + 8 * j9 + 2) = q_an G 5 (bmA j9) := fun j9 hj0 => (hf_148 _ (by omega)).trans (hc_128 j9 (by omega))
        have hc_156 : ∀ j9 : Nat, j9 < 4 → σ_149 (46 + 8 * j9 + 3) = q_an G 1681 (skA j9) := fun j9 hj0 => (hf_148 _ (by omega)).trans (hc_129 j9 (by omega))
        have hc_157 : ∀ j9 : Nat, j9 < 4 → σ_149 (46 + 8 * j9 + 4) = q_an G 1681 (s2A j9) := fun j9 hj0 => (hf_148 _ (by omega)).trans (hc_130 j9 (by omega))
        have hc_158 : ∀ j9 : Nat, j9 < 4 → σ_149 (46 + 8 * j9 + 5) = q_an G 1681 (vaA j9) := fun j9 hj0 => (hf_148 _ (by omega)).trans (hc_131 j9 (by omega))
        have hc_159 : ∀ j9 : Nat, j9 < 4 → σ_149 (46 + 8 * j9 + 6) = q_an G 1681 (spA j9) := fun j9 hj0 => (hf_148 _ (by omega)).trans (hc_132 j9 (by omega))
        have hc_160 : ∀ j9 : Nat, j9 < 4 → σ_149 (46 + 8 * j9 + 7) = q_an G 1681 (rfA j9) := fun j9 hj0 => (hf_148 _ (by omega)).trans (hc_133 j9 (by omega))
        have hc_161 : σ_149 26 = q_rn G 3 4 (fun j => some (25 + 10 + 2 * j)) := (hf_148 _ (by omega)).trans hc_135
        have hc_162 : σ_149 (27 + 1) = q_an G 8 kd := (hf_148 _ (by omega)).trans hc_136
        have hc_163 : σ_149 (27 + 4) = q_an G 8 tf := (hf_148 _ (by omega)).trans hc_137
        have hc_164 : σ_149 (27 + 5) = q_an G 8 ts := (hf_148 _ (by omega)).trans hc_138
        have hc_165 : ∀ j9 : Nat, j9 < 4 → σ_149 (25 + 10 + 2 * j9) = o7 G (25 + 10 + 2 * j9) (lN (nm j9)) (lN (on j9)) (nI (sl j9)) (nI (mo j9)) (nI (nb j9)) := fun j9 hj0 => (hf_148 _ (by omega)).trans (hc_140 j9 (by omega))
        have hc_166 : ∀ j9 : Nat, j9 < 4 → σ_149 (25 + 10 + 2 * j9 + 1) = q_an G 5 (bm j9) := fun j9 hj0 => (hf_148 _ (by omega)).trans (hc_141 j9 (by omega))
        have hc_167 : σ_149 (27 + 2) = q_an G 8 (va_up fi (x_pl (g 1) p) (fi (x_pl (g 1) p) - k)) := (hf_148 _ (by omega)).trans hc_142
        have hc_168 : σ_149 (27 + 3) = q_an G 8 (va_up se (x_pl (g 1) p) (se (x_pl (g 1) p) - l)) := (hf_148 _ (by omega)).trans hc_143
        have hc_169 : σ_149 27 = o6 G (27) (nI (s_take g p k l 1)) (nI (s_take g p k l 2)) := (hf_148 _ (by omega)).trans hc_144
        have hc_170 : σ_149 45 = o1 G (h0) (h1) (h2) (h3x_92) (h4x_93) := (hf_148 _ (by omega)).trans hc_145
        have hc_171 : σ_149 (25 + 8) = q_an G 10 (x_acP ac (g 3) (k + l) (s_over (s_take g p k l)) (s_tot (s_take g p k l)) (decide (s_tot g ≠ 0))) := (hf_148 _ (by omega)).trans hc_121
        refine A_aload_n hg dX10_makeTurn_136 rfl rfl ?_
        refine A_getf (v := .ref (q_h G + 25)) hg fl_RX10_40 dX10_makeTurn_137 hc_150 (by omega) rfl ?_
        refine A_dup hg dX10_makeTurn_140 rfl ?_
        refine A_getf (v := .int (nI (g 4))) hg fl_RX10_137 dX10_makeTurn_141 hc_146 (by omega) rfl ?_
        refine A_iconst (v := (nI (1))) hg dX10_makeTurn_144 (by decide) ?_
        refine A_iaddN hg dX10_makeTurn_145 ?_
        refine A_putf hg fl_RX10_137 dX10_makeTurn_146 hc_146 (by omega) (Nat.le_of_ble_eq_true rfl) rfl rfl rfl (fun σ_172 hc_173 hf_174 => ?_)
        have hc_173 : σ_172 25 = o0 G (25) (nI (g 0)) (nI (g 3)) (nI ((g 4) + 1)) (nI (g 5)) (nI (min ((g 6) + 1) 20)) := hc_173
        have hc_175 : σ_172 0 = o10 G (z1) (z2) (z3) := (hf_174 _ (by omega)).trans hc_150
        have hc_176 : σ_172 43 = o4 G (43)  := (hf_174 _ (by omega)).trans hc_151
        have hc_177 : σ_172 44 = q_rn G 4 4 (fun j => some (46 + 8 * j)) := (hf_174 _ (by omega)).trans hc_152
        have hc_178 : ∀ j9 : Nat, j9 < 4 → σ_172 (46 + 8 * j9) = o8 G (46 + 8 * j9) (nI (flA j9)) (nI (n0A j9)) (nI (gvA j9)) (nI (gsA j9)) (nI (lmA j9)) (nI (vsA j9)) := fun j9 hj0 => (hf_174 _ (by omega)).trans (hc_153 j9 (by omega))
        have hc_179 : ∀ j9 : Nat, j9 < 4 → σ_172 (46 + 8 * j9 + 1) = o7 G (46 + 8 * j9 + 1) (lN (nmA j9)) (lN (onA j9)) (nI (slA j9)) (nI (moA j9)) (nI (nbA j9)) := fun j9 hj0 => (hf_174 _ (by omega)).trans (hc_154 j9 (by omega))
        have hc_180 : ∀ j9 : Nat, j9 < 4 → σ_172 (46 + 8 * j9 + 2) = q_an G 5 (bmA j9) := fun j9 hj0 => (hf_174 _ (by omega)).trans (hc_155 j9 (by omega))
        have hc_181 : ∀ j9 : Nat, j9 < 4 → σ_172 (46 + 8 * j9 + 3) = q_an G 1681 (skA j9) := fun j9 hj0 => (hf_174 _ (by omega)).trans (hc_156 j9 (by omega))
        have hc_182 : ∀ j9 : Nat, j9 < 4 → σ_172 (46 + 8 * j9 + 4) = q_an G 1681 (s2A j9) := fun j9 hj0 => (hf_174 _ (by omega)).trans (hc_157 j9 (by omega))
        have hc_183 : ∀ j9 : Nat, j9 < 4 → σ_172 (46 + 8 * j9 + 5) = q_an G 1681 (vaA j9) := fun j9 hj0 => (hf_174 _ (by omega)).trans (hc_158 j9 (by omega))
        have hc_184 : ∀ j9 : Nat, j9 < 4 → σ_172 (46 + 8 * j9 + 6) = q_an G 1681 (spA j9) := fun j9 hj0 => (hf_174 _ (by omega)).trans (hc_159 j9 (by omega))
        have hc_185 : ∀ j9 : Nat, j9 < 4 → σ_172 (46 + 8 * j9 + 7) = q_an G 1681 (rfA j9) := fun j9 hj0 => (hf_174 _ (by omega)).trans (hc_160 j9 (by omega))
        have hc_186 : σ_172 26 = q_rn G 3 4 (fun j => some (25 + 10 + 2 * j)) := (hf_174 _ (by omega)).trans hc_161
        have hc_187 : σ_172 (27 + 1) = q_an G 8 kd := (hf_174 _ (by omega)).trans hc_162
        have hc_188 : σ_172 (27 + 4) = q_an G 8 tf := (hf_174 _ (by omega)).trans hc_163
        have hc_189 : σ_172 (27 + 5) = q_an G 8 ts := (hf_174 _ (by omega)).trans hc_164
        have hc_190 : ∀ j9 : Nat, j9 < 4 → σ_172 (25 + 10 + 2 * j9) = o7 G (25 + 10 + 2 * j9) (lN (nm j9)) (lN (on j9)) (nI (sl j9)) (nI (mo j9)) (nI (nb j9)) := fun j9 hj0 => (hf_174 _ (by omega)).trans (hc_165 j9 (by omega))
        have hc_191 : ∀ j9 : Nat, j9 < 4 → σ_172 (25 + 10 + 2 * j9 + 1) = q_an G 5 (bm j9) := fun j9 hj0 => (hf_174 _ (by omega)).trans (hc_166 j9 (by omega))
        have hc_192 : σ_172 (27 + 2) = q_an G 8 (va_up fi (x_pl (g 1) p) (fi (x_pl (g 1) p) - k)) := (hf_174 _ (by omega)).trans hc_167
        have hc_193 : σ_172 (27 + 3) = q_an G 8 (va_up se (x_pl (g 1) p) (se (x_pl (g 1) p) - l)) := (hf_174 _ (by omega)).trans hc_168
        have hc_194 : σ_172 27 = o6 G (27) (nI (s_take g p k l 1)) (nI (s_take g p k l 2)) := (hf_174 _ (by omega)).trans hc_169
        have hc_195 : σ_172 45 = o1 G (h0) (h1) (h2) (h3x_92) (h4x_93) := (hf_174 _ (by omega)).trans hc_170
        have hc_196 : σ_172 (25 + 8) = q_an G 10 (x_acP ac (g 3) (k + l) (s_over (s_take g p k l)) (s_tot (s_take g p k l)) (decide (s_tot g ≠ 0))) := (hf_174 _ (by omega)).trans hc_171
        have hc_197 : σ_172 (25 + 9) = q_an G 100 (fun j => if j < 5 then (if j = 0 then (g 3) else if j = 1 then p else if j = 2 then k else if j = 3 then l else (s_tot (s_take g p k l))) else tu (j - 5)) := (hf_174 _ (by omega)).trans hc_147
        refine A_aload_n hg dX10_makeTurn_149 rfl rfl ?_
        refine A_getf (v := .ref (q_h G + 25)) hg fl_RX10_40 dX10_makeTurn_150 hc_175 (by omega) rfl ?_
        refine A_iconst (v := (nI (1))) hg dX10_makeTurn_153 (by decide) ?_
        refine A_aload_n hg dX10_makeTurn_154 rfl rfl ?_
        refine A_getf (v := .ref (q_h G + 25)) hg fl_RX10_40 dX10_makeTurn_155 hc_175 (by omega) rfl ?_
        refine A_getf (v := .int (nI (g 3))) hg fl_RX10_134 dX10_makeTurn_158 hc_173 (by omega) rfl ?_
        refine A_isubN hg dX10_makeTurn_161 (by omega) ?_
        refine A_putf hg fl_RX10_134 dX10_makeTurn_162 hc_173 (by omega) (Nat.le_of_ble_eq_true rfl) rfl rfl rfl (fun σ_198 hc_199 hf_200 => ?_)
        have hc_199 : σ_198 25 = o0 G (25) (nI (g 0)) (nI (1 - (g 3))) (nI ((g 4) + 1)) (nI (g 5)) (nI (min ((g 6) + 1) 20)) := hc_199
        have hc_201 : σ_198 0 = o10 G (z1) (z2) (z3) := (hf_200 _ (by omega)).trans hc_175
        have hc_202 : σ_198 43 = o4 G (43)  := (hf_200 _ (by omega)).trans hc_176
        have hc_203 : σ_198 44 = q_rn G 4 4 (fun j => some (46 + 8 * j)) := (hf_200 _ (by omega)).trans hc_177
        have hc_204 : ∀ j9 : Nat, j9 < 4 → σ_198 (46 + 8 * j9) = o8 G (46 + 8 * j9) (nI (flA j9)) (nI (n0A j9)) (nI (gvA j9)) (nI (gsA j9)) (nI (lmA j9)) (nI (vsA j9)) := fun j9 hj0 => (hf_200 _ (by omega)).trans (hc_178 j9 (by omega))
        have hc_205 : ∀ j9 : Nat, j9 < 4 → σ_198 (46 + 8 * j9 + 1) = o7 G (46 + 8 * j9 + 1) (lN (nmA j9)) (lN (onA j9)) (nI (slA j9)) (nI (moA j9)) (nI (nbA j9)) := fun j9 hj0 => (hf_200 _ (by omega)).trans (hc_179 j9 (by omega))
        have hc_206 : ∀ j9 : Nat, j9 < 4 → σ_198 (46 + 8 * j9 + 2) = q_an G 5 (bmA j9) := fun j9 hj0 => (hf_200 _ (by omega)).trans (hc_180 j9 (by omega))
        have hc_207 : ∀ j9 : Nat, j9 < 4 → σ_198 (46 + 8 * j9 + 3) = q_an G 1681 (skA j9) := fun j9 hj0 => (hf_200 _ (by omega)).trans (hc_181 j9 (by omega))
        have hc_208 : ∀ j9 : Nat, j9 < 4 → σ_198 (46 + 8 * j9 + 4) = q_an G 1681 (s2A j9) := fun j9 hj0 => (hf_200 _ (by omega)).trans (hc_182 j9 (by omega))
        have hc_209 : ∀ j9 : Nat, j9 < 4 → σ_198 (46 + 8 * j9 + 5) = q_an G 1681 (vaA j9) := fun j9 hj0 => (hf_200 _ (by omega)).trans (hc_183 j9 (by omega))
        have hc_210 : ∀ j9 : Nat, j9 < 4 → σ_198 (46 + 8 * j9 + 6) = q_an G 1681 (spA j9) := fun j9 hj0 => (hf_200 _ (by omega)).trans (hc_184 j9 (by omega))
        have hc_211 : ∀ j9 : Nat, j9 < 4 → σ_198 (46 + 8 * j9 + 7) = q_an G 1681 (rfA j9) := fun j9 hj0 => (hf_200 _ (by omega)).trans (hc_185 j9 (by omega))
        have hc_212 : σ_198 26 = q_rn G 3 4 (fun j => some (25 + 10 + 2 * j)) := (hf_200 _ (by omega)).trans hc_186
        have hc_213 : σ_198 (27 + 1) = q_an G 8 kd := (hf_200 _ (by omega)).trans hc_187
        have hc_214 : σ_198 (27 + 4) = q_an G 8 tf := (hf_200 _ (by omega)).trans hc_188
        have hc_215 : σ_198 (27 + 5) = q_an G 8 ts := (hf_200 _ (by omega)).trans hc_189
        have hc_216 : ∀ j9 : Nat, j9 < 4 → σ_198 (25 + 10 + 2 * j9) = o7 G (25 + 10 + 2 * j9) (lN (nm j9)) (lN (on j9)) (nI (sl j9)) (nI (mo j9)) (nI (nb j9)) := fun j9 hj0 => (hf_200 _ (by omega)).trans (hc_190 j9 (by omega))
        have hc_217 : ∀ j9 : Nat, j9 < 4 → σ_198 (25 + 10 + 2 * j9 + 1) = q_an G 5 (bm j9) := fun j9 hj0 => (hf_200 _ (by omega)).trans (hc_191 j9 (by omega))
        have hc_218 : σ_198 (27 + 2) = q_an G 8 (va_up fi (x_pl (g 1) p) (fi (x_pl (g 1) p) - k)) := (hf_200 _ (by omega)).trans hc_192
        have hc_219 : σ_198 (27 + 3) = q_an G 8 (va_up se (x_pl (g 1) p) (se (x_pl (g 1) p) - l)) := (hf_200 _ (by omega)).trans hc_193
        have hc_220 : σ_198 27 = o6 G (27) (nI (s_take g p k l 1)) (nI (s_take g p k l 2)) := (hf_200 _ (by omega)).trans hc_194
        have hc_221 : σ_198 45 = o1 G (h0) (h1) (h2) (h3x_92) (h4x_93) := (hf_200 _ (by omega)).trans hc_195
        have hc_222 : σ_198 (25 + 8) = q_an G 10 (x_acP ac (g 3) (k + l) (s_over (s_take g p k l)) (s_tot (s_take g p k l)) (decide (s_tot g ≠ 0))) := (hf_200 _ (by omega)).trans hc_196
        have hc_223 : σ_198 (25 + 9) = q_an G 100 (fun j => if j < 5 then (if j = 0 then (g 3) else if j = 1 then p else if j = 2 then k else if j = 3 then l else (s_tot (s_take g p k l))) else tu (j - 5)) := (hf_200 _ (by omega)).trans hc_197
        obtain ⟨q0, q1, q2, q3, q4, q5, q6⟩ := x_play_hi (k := k) (l := l) hgw hpp
        refine A_canon (x_tuP tu (g 3) p k l (s_tot (s_take g p k l))) hc_223 (fun jj hj => rfl) (fun σ_224 hc_225 hf_226 => ?_)
        have hc_227 : σ_224 0 = o10 G (z1) (z2) (z3) := (hf_226 _ (by omega)).trans hc_201
        have hc_228 : σ_224 43 = o4 G (43)  := (hf_226 _ (by omega)).trans hc_202
        have hc_229 : σ_224 44 = q_rn G 4 4 (fun j => some (46 + 8 * j)) := (hf_226 _ (by omega)).trans hc_203
        have hc_230 : ∀ j9 : Nat, j9 < 4 → σ_224 (46 + 8 * j9) = o8 G (46 + 8 * j9) (nI (flA j9)) (nI (n0A j9)) (nI (gvA j9)) (nI (gsA j9)) (nI (lmA j9)) (nI (vsA j9)) := fun j9 hj0 => (hf_226 _ (by omega)).trans (hc_204 j9 (by omega))
        have hc_231 : ∀ j9 : Nat, j9 < 4 → σ_224 (46 + 8 * j9 + 1) = o7 G (46 + 8 * j9 + 1) (lN (nmA j9)) (lN (onA j9)) (nI (slA j9)) (nI (moA j9)) (nI (nbA j9)) := fun j9 hj0 => (hf_226 _ (by omega)).trans (hc_205 j9 (by omega))
        have hc_232 : ∀ j9 : Nat, j9 < 4 → σ_224 (46 + 8 * j9 + 2) = q_an G 5 (bmA j9) := fun j9 hj0 => (hf_226 _ (by omega)).trans (hc_206 j9 (by omega))
        have hc_233 : ∀ j9 : Nat, j9 < 4 → σ_224 (46 + 8 * j9 + 3) = q_an G 1681 (skA j9) := fun j9 hj0 => (hf_226 _ (by omega)).trans (hc_207 j9 (by omega))
        have hc_234 : ∀ j9 : Nat, j9 < 4 → σ_224 (46 + 8 * j9 + 4) = q_an G 1681 (s2A j9) := fun j9 hj0 => (hf_226 _ (by omega)).trans (hc_208 j9 (by omega))
        have hc_235 : ∀ j9 : Nat, j9 < 4 → σ_224 (46 + 8 * j9 + 5) = q_an G 1681 (vaA j9) := fun j9 hj0 => (hf_226 _ (by omega)).trans (hc_209 j9 (by omega))
        have hc_236 : ∀ j9 : Nat, j9 < 4 → σ_224 (46 + 8 * j9 + 6) = q_an G 1681 (spA j9) := fun j9 hj0 => (hf_226 _ (by omega)).trans (hc_210 j9 (by omega))
        have hc_237 : ∀ j9 : Nat, j9 < 4 → σ_224 (46 + 8 * j9 + 7) = q_an G 1681 (rfA j9) := fun j9 hj0 => (hf_226 _ (by omega)).trans (hc_211 j9 (by omega))
        have hc_238 : σ_224 26 = q_rn G 3 4 (fun j => some (25 + 10 + 2 * j)) := (hf_226 _ (by omega)).trans hc_212
        have hc_239 : σ_224 (27 + 1) = q_an G 8 kd := (hf_226 _ (by omega)).trans hc_213
        have hc_240 : σ_224 (27 + 4) = q_an G 8 tf := (hf_226 _ (by omega)).trans hc_214
        have hc_241 : σ_224 (27 + 5) = q_an G 8 ts := (hf_226 _ (by omega)).trans hc_215
        have hc_242 : ∀ j9 : Nat, j9 < 4 → σ_224 (25 + 10 + 2 * j9) = o7 G (25 + 10 + 2 * j9) (lN (nm j9)) (lN (on j9)) (nI (sl j9)) (nI (mo j9)) (nI (nb j9)) := fun j9 hj0 => (hf_226 _ (by omega)).trans (hc_216 j9 (by omega))
        have hc_243 : ∀ j9 : Nat, j9 < 4 → σ_224 (25 + 10 + 2 * j9 + 1) = q_an G 5 (bm j9) := fun j9 hj0 => (hf_226 _ (by omega)).trans (hc_217 j9 (by omega))
        have hc_244 : σ_224 (27 + 2) = q_an G 8 (va_up fi (x_pl (g 1) p) (fi (x_pl (g 1) p) - k)) := (hf_226 _ (by omega)).trans hc_218
        have hc_245 : σ_224 (27 + 3) = q_an G 8 (va_up se (x_pl (g 1) p) (se (x_pl (g 1) p) - l)) := (hf_226 _ (by omega)).trans hc_219
        have hc_246 : σ_224 27 = o6 G (27) (nI (s_take g p k l 1)) (nI (s_take g p k l 2)) := (hf_226 _ (by omega)).trans hc_220
        have hc_247 : σ_224 45 = o1 G (h0) (h1) (h2) (h3x_92) (h4x_93) := (hf_226 _ (by omega)).trans hc_221
        have hc_248 : σ_224 (25 + 8) = q_an G 10 (x_acP ac (g 3) (k + l) (s_over (s_take g p k l)) (s_tot (s_take g p k l)) (decide (s_tot g ≠ 0))) := (hf_226 _ (by omega)).trans hc_222
        have hc_249 : σ_224 25 = o0 G (25) (nI (g 0)) (nI (1 - (g 3))) (nI ((g 4) + 1)) (nI (g 5)) (nI (min ((g 6) + 1) 20)) := (hf_226 _ (by omega)).trans hc_199
        have hc_250 : σ_224 25 = o0 G (25) (nI (s_play g p k l 0)) (nI (s_play g p k l 3)) (nI (s_play g p k l 4)) (nI (s_play g p k l 5)) (nI (s_play g p k l 6)) := hc_249.trans (by rw [q0, q3, q4, q5, q6])
        have hc_251 : σ_224 27 = o6 G (27) (nI (s_play g p k l 1)) (nI (s_play g p k l 2)) := hc_246.trans (by rw [ek1, ek2, q1, q2])
        refine A_iload hg dX10_makeTurn_165 rfl ?_
        rw [hQ]
        exact A_ireturn hg (by decide) (by decide) rfl dX10_makeTurn_167 ⟨rfl, ⟨(h3x_92), (h4x_93), rfl, ⟨_, _, _, _, _, _, _, _, _, _, _, _, _, ⟨hc_250, hc_238, hc_251, hc_239, hc_244, hc_245, hc_240, hc_241, hc_248, hc_225, hc_242, hc_243⟩, x_gr_play hpp hgr0⟩, hc_247, (fun i hi => ((hf_226 i (by omega)).trans ((hf_200 i (by omega)).trans ((hf_174 i (by omega)).trans ((hf_148 i (by omega)).trans ((hf_122 i (by omega)).trans ((hf_95 i (by omega)).trans ((hf_67 i (by omega)).trans ((hf_41 i (by omega)).trans (hf_15 i (by omega)))))))))))⟩⟩
      · skip
        refine A_aload_n hg dX10_makeTurn_97 rfl rfl ?_
        refine A_getf (v := .ref (q_h G + 25)) hg fl_RX10_40 dX10_makeTurn_98 hc_97 (by omega) rfl ?_
        refine A_iconst (v := (nI (3))) hg dX10_makeTurn_101 (by decide) ?_
        refine A_iconst (v := (nI (1))) hg dX10_makeTurn_102 (by decide) ?_
        refine A_vV (kc2 := 0) (ks2 := 0) (As := [.int (nI (3)), .int (nI (1))]) (rest := []) hg lk_RX10_396 in_X0_addToAccount se_X0_addToAccount rfl dX10_makeTurn_103 ⟨by decide, by decide⟩ rfl rfl ⟨by decide, by decide⟩ hc_108 (by omega) rfl rfl (Nat.le_of_ble_eq_true rfl) (c_X0_addToAccount G ex n σ_96 25 (g 0) (g 3) (g 4) (g 5) (g 6) (va_up (va_up ac ((g 3) * 5 + 0) (ac ((g 3) * 5 + 0) + 1)) ((g 3) * 5 + 1) ((va_up ac ((g 3) * 5 + 0) (ac ((g 3) * 5 + 0) + 1)) ((g 3) * 5 + 1) + (k + l))) 3 1 hc_108 hc_119 (by omega) (by omega) (by omega)) ?_
        rintro σ_254 ⟨hc_252, hf_253⟩
        have hc_255 : σ_254 0 = o10 G (z1) (z2) (z3) := (hf_253 _ (by omega)).trans hc_97
        have hc_256 : σ_254 43 = o4 G (43)  := (hf_253 _ (by omega)).trans hc_98
        have hc_257 : σ_254 44 = q_rn G 4 4 (fun j => some (46 + 8 * j)) := (hf_253 _ (by omega)).trans hc_99
        have hc_258 : ∀ j9 : Nat, j9 < 4 → σ_254 (46 + 8 * j9) = o8 G (46 + 8 * j9) (nI (flA j9)) (nI (n0A j9)) (nI (gvA j9)) (nI (gsA j9)) (nI (lmA j9)) (nI (vsA j9)) := fun j9 hj0 => (hf_253 _ (by omega)).trans (hc_100 j9 (by omega))
        have hc_259 : ∀ j9 : Nat, j9 < 4 → σ_254 (46 + 8 * j9 + 1) = o7 G (46 + 8 * j9 + 1) (lN (nmA j9)) (lN (onA j9)) (nI (slA j9)) (nI (moA j9)) (nI (nbA j9)) := fun j9 hj0 => (hf_253 _ (by omega)).trans (hc_101 j9 (by omega))
        have hc_260 : ∀ j9 : Nat, j9 < 4 → σ_254 (46 + 8 * j9 + 2) = q_an G 5 (bmA j9) := fun j9 hj0 => (hf_253 _ (by omega)).trans (hc_102 j9 (by omega))
        have hc_261 : ∀ j9 : Nat, j9 < 4 → σ_254 (46 + 8 * j9 + 3) = q_an G 1681 (skA j9) := fun j9 hj0 => (hf_253 _ (by omega)).trans (hc_103 j9 (by omega))
        have hc_262 : ∀ j9 : Nat, j9 < 4 → σ_254 (46 + 8 * j9 + 4) = q_an G 1681 (s2A j9) := fun j9 hj0 => (hf_253 _ (by omega)).trans (hc_104 j9 (by omega))
        have hc_263 : ∀ j9 : Nat, j9 < 4 → σ_254 (46 + 8 * j9 + 5) = q_an G 1681 (vaA j9) := fun j9 hj0 => (hf_253 _ (by omega)).trans (hc_105 j9 (by omega))
        have hc_264 : ∀ j9 : Nat, j9 < 4 → σ_254 (46 + 8 * j9 + 6) = q_an G 1681 (spA j9) := fun j9 hj0 => (hf_253 _ (by omega)).trans (hc_106 j9 (by omega))
        have hc_265 : ∀ j9 : Nat, j9 < 4 → σ_254 (46 + 8 * j9 + 7) = q_an G 1681 (rfA j9) := fun j9 hj0 => (hf_253 _ (by omega)).trans (hc_107 j9 (by omega))
        have hc_266 : σ_254 25 = o0 G (25) (nI (g 0)) (nI (g 3)) (nI (g 4)) (nI (g 5)) (nI (g 6)) := (hf_253 _ (by omega)).trans hc_108
        have hc_267 : σ_254 26 = q_rn G 3 4 (fun j => some (25 + 10 + 2 * j)) := (hf_253 _ (by omega)).trans hc_109
        have hc_268 : σ_254 (27 + 1) = q_an G 8 kd := (hf_253 _ (by omega)).trans hc_110
        have hc_269 : σ_254 (27 + 4) = q_an G 8 tf := (hf_253 _ (by omega)).trans hc_111
        have hc_270 : σ_254 (27 + 5) = q_an G 8 ts := (hf_253 _ (by omega)).trans hc_112
        have hc_271 : σ_254 (25 + 9) = q_an G 100 tu := (hf_253 _ (by omega)).trans hc_113
        have hc_272 : ∀ j9 : Nat, j9 < 4 → σ_254 (25 + 10 + 2 * j9) = o7 G (25 + 10 + 2 * j9) (lN (nm j9)) (lN (on j9)) (nI (sl j9)) (nI (mo j9)) (nI (nb j9)) := fun j9 hj0 => (hf_253 _ (by omega)).trans (hc_114 j9 (by omega))
        have hc_273 : ∀ j9 : Nat, j9 < 4 → σ_254 (25 + 10 + 2 * j9 + 1) = q_an G 5 (bm j9) := fun j9 hj0 => (hf_253 _ (by omega)).trans (hc_115 j9 (by omega))
        have hc_274 : σ_254 (27 + 2) = q_an G 8 (va_up fi (x_pl (g 1) p) (fi (x_pl (g 1) p) - k)) := (hf_253 _ (by omega)).trans hc_116
        have hc_275 : σ_254 (27 + 3) = q_an G 8 (va_up se (x_pl (g 1) p) (se (x_pl (g 1) p) - l)) := (hf_253 _ (by omega)).trans hc_117
        have hc_276 : σ_254 27 = o6 G (27) (nI (s_take g p k l 1)) (nI (s_take g p k l 2)) := (hf_253 _ (by omega)).trans hc_118
        have hc_277 : σ_254 45 = o1 G (h0) (h1) (h2) (h3x_92) (h4x_93) := (hf_253 _ (by omega)).trans hc_94
        refine A_goto (tgt := 123) hg dX10_makeTurn_106 (by decide) ?_
        refine A_canon (x_acP ac (g 3) (k + l) (s_over (s_take g p k l)) (s_tot (s_take g p k l)) (decide (s_tot g ≠ 0))) hc_252 (fun jj hj => by unfold x_acP; rw [if_pos c94, if_neg (show ¬ (s_over (s_take g p k l) = true) by rw [c80]; decide)]; rfl) (fun σ_278 hc_279 hf_280 => ?_)
        have hc_281 : σ_278 0 = o10 G (z1) (z2) (z3) := (hf_280 _ (by omega)).trans hc_255
        have hc_282 : σ_278 43 = o4 G (43)  := (hf_280 _ (by omega)).trans hc_256
        have hc_283 : σ_278 44 = q_rn G 4 4 (fun j => some (46 + 8 * j)) := (hf_280 _ (by omega)).trans hc_257
        have hc_284 : ∀ j9 : Nat, j9 < 4 → σ_278 (46 + 8 * j9) = o8 G (46 + 8 * j9) (nI (flA j9)) (nI (n0A j9)) (nI (gvA j9)) (nI (gsA j9)) (nI (lmA j9)) (nI (vsA j9)) := fun j9 hj0 => (hf_280 _ (by omega)).trans (hc_258 j9 (by omega))
        have hc_285 : ∀ j9 : Nat, j9 < 4 → σ_278 (46 + 8 * j9 + 1) = o7 G (46 + 8 * j9 + 1) (lN (nmA j9)) (lN (onA j9)) (nI (slA j9)) (nI (moA j9)) (nI (nbA j9)) := fun j9 hj0 => (hf_280 _ (by omega)).trans (hc_259 j9 (by omega))
        have hc_286 : ∀ j9 : Nat, j9 < 4 → σ_278 (46 + 8 * j9 + 2) = q_an G 5 (bmA j9) := fun j9 hj0 => (hf_280 _ (by omega)).trans (hc_260 j9 (by omega))
        have hc_287 : ∀ j9 : Nat, j9 < 4 → σ_278 (46 + 8 * j9 + 3) = q_an G 1681 (skA j9) := fun j9 hj0 => (hf_280 _ (by omega)).trans (hc_261 j9 (by omega))
        have hc_288 : ∀ j9 : Nat, j9 < 4 → σ_278 (46 + 8 * j9 + 4) = q_an G 1681 (s2A j9) := fun j9 hj0 => (hf_280 _ (by omega)).trans (hc_262 j9 (by omega))
        have hc_289 : ∀ j9 : Nat, j9 < 4 → σ_278 (46 + 8 * j9 + 5) = q_an G 1681 (vaA j9) := fun j9 hj0 => (hf_280 _ (by omega)).trans (hc_263 j9 (by omega))
        have hc_290 : ∀ j9 : Nat, j9 < 4 → σ_278 (46 + 8 * j9 + 6) = q_an G 1681 (spA j9) := fun j9 hj0 => (hf_280 _ (by omega)).trans (hc_264 j9 (by omega))
        have hc_291 : ∀ j9 : Nat, j9 < 4 → σ_278 (46 + 8 * j9 + 7) = q_an G 1681 (rfA j9) := fun j9 hj0 => (hf_280 _ (by omega)).trans (hc_265 j9 (by omega))
        have hc_292 : σ_278 25 = o0 G (25) (nI (g 0)) (nI (g 3)) (nI (g 4)) (nI (g 5)) (nI (g 6)) := (hf_280 _ (by omega)).trans hc_266
        have hc_293 : σ_278 26 = q_rn G 3 4 (fun j => some (25 + 10 + 2 * j)) := (hf_280 _ (by omega)).trans hc_267
        have hc_294 : σ_278 (27 + 1) = q_an G 8 kd := (hf_280 _ (by omega)).trans hc_268
        have hc_295 : σ_278 (27 + 4) = q_an G 8 tf := (hf_280 _ (by omega)).trans hc_269
        have hc_296 : σ_278 (27 + 5) = q_an G 8 ts := (hf_280 _ (by omega)).trans hc_270
        have hc_297 : σ_278 (25 + 9) = q_an G 100 tu := (hf_280 _ (by omega)).trans hc_271
        have hc_298 : ∀ j9 : Nat, j9 < 4 → σ_278 (25 + 10 + 2 * j9) = o7 G (25 + 10 + 2 * j9) (lN (nm j9)) (lN (on j9)) (nI (sl j9)) (nI (mo j9)) (nI (nb j9)) := fun j9 hj0 => (hf_280 _ (by omega)).trans (hc_272 j9 (by omega))
        have hc_299 : ∀ j9 : Nat, j9 < 4 → σ_278 (25 + 10 + 2 * j9 + 1) = q_an G 5 (bm j9) := fun j9 hj0 => (hf_280 _ (by omega)).trans (hc_273 j9 (by omega))
        have hc_300 : σ_278 (27 + 2) = q_an G 8 (va_up fi (x_pl (g 1) p) (fi (x_pl (g 1) p) - k)) := (hf_280 _ (by omega)).trans hc_274
        have hc_301 : σ_278 (27 + 3) = q_an G 8 (va_up se (x_pl (g 1) p) (se (x_pl (g 1) p) - l)) := (hf_280 _ (by omega)).trans hc_275
        have hc_302 : σ_278 27 = o6 G (27) (nI (s_take g p k l 1)) (nI (s_take g p k l 2)) := (hf_280 _ (by omega)).trans hc_276
        have hc_303 : σ_278 45 = o1 G (h0) (h1) (h2) (h3x_92) (h4x_93) := (hf_280 _ (by omega)).trans hc_277
        refine A_aload_n hg dX10_makeTurn_123 rfl rfl ?_
        refine A_getf (v := .ref (q_h G + 25)) hg fl_RX10_40 dX10_makeTurn_124 hc_281 (by omega) rfl ?_
        refine A_iload_n hg dX10_makeTurn_127 rfl rfl ?_
        refine A_iload_n hg dX10_makeTurn_128 rfl rfl ?_
        refine A_iload hg dX10_makeTurn_129 rfl ?_
        refine A_iload hg dX10_makeTurn_131 rfl ?_
        refine A_vV (kc2 := 0) (ks2 := 0) (As := [.int (nI (p)), .int (nI (k)), .int (nI (l)), .int (nI (s_tot (s_take g p k l)))]) (rest := []) hg lk_RX10_399 in_X0_keepTurn se_X0_keepTurn rfl dX10_makeTurn_133 ⟨by decide, by decide⟩ rfl rfl ⟨by decide, by decide⟩ hc_292 (by omega) rfl rfl (Nat.le_of_ble_eq_true rfl) (c_X0_keepTurn G ex n σ_278 25 (g 0) (g 3) (g 4) (g 5) (g 6) tu p k l (s_tot (s_take g p k l)) hc_292 hc_297 (by omega) (by omega)) ?_
        rintro σ_307 ⟨hc_304, hc_305, hf_306⟩
        have hc_308 : σ_307 0 = o10 G (z1) (z2) (z3) := (hf_306 _ (by omega)).trans hc_281
        have hc_309 : σ_307 43 = o4 G (43)  := (hf_306 _ (by omega)).trans hc_282
        have hc_310 : σ_307 44 = q_rn G 4 4 (fun j => some (46 + 8 * j)) := (hf_306 _ (by omega)).trans hc_283
        have hc_311 : ∀ j9 : Nat, j9 < 4 → σ_307 (46 + 8 * j9) = o8 G (46 + 8 * j9) (nI (flA j9)) (nI (n0A j9)) (nI (gvA j9)) (nI (gsA j9)) (nI (lmA j9)) (nI (vsA j9)) := fun j9 hj0 => (hf_306 _ (by omega)).trans (hc_284 j9 (by omega))
        have hc_312 : ∀ j9 : Nat, j9 < 4 → σ_307 (46 + 8 * j9 + 1) = o7 G (46 + 8 * j9 + 1) (lN (nmA j9)) (lN (onA j9)) (nI (slA j9)) (nI (moA j9)) (nI (nbA j9)) := fun j9 hj0 => (hf_306 _ (by omega)).trans (hc_285 j9 (by omega))
        have hc_313 : ∀ j9 : Nat, j9 < 4 → σ_307 (46 + 8 * j9 + 2) = q_an G 5 (bmA j9) := fun j9 hj0 => (hf_306 _ (by omega)).trans (hc_286 j9 (by omega))
        have hc_314 : ∀ j9 : Nat, j9 < 4 → σ_307 (46 + 8 * j9 + 3) = q_an G 1681 (skA j9) := fun j9 hj0 => (hf_306 _ (by omega)).trans (hc_287 j9 (by omega))
        have hc_315 : ∀ j9 : Nat, j9 < 4 → σ_307 (46 + 8 * j9 + 4) = q_an G 1681 (s2A j9) := fun j9 hj0 => (hf_306 _ (by omega)).trans (hc_288 j9 (by omega))
        have hc_316 : ∀ j9 : Nat, j9 < 4 → σ_307 (46 + 8 * j9 + 5) = q_an G 1681 (vaA j9) := fun j9 hj0 => (hf_306 _ (by omega)).trans (hc_289 j9 (by omega))
        have hc_317 : ∀ j9 : Nat, j9 < 4 → σ_307 (46 + 8 * j9 + 6) = q_an G 1681 (spA j9) := fun j9 hj0 => (hf_306 _ (by omega)).trans (hc_290 j9 (by omega))
        have hc_318 : ∀ j9 : Nat, j9 < 4 → σ_307 (46 + 8 * j9 + 7) = q_an G 1681 (rfA j9) := fun j9 hj0 => (hf_306 _ (by omega)).trans (hc_291 j9 (by omega))
        have hc_319 : σ_307 26 = q_rn G 3 4 (fun j => some (25 + 10 + 2 * j)) := (hf_306 _ (by omega)).trans hc_293
        have hc_320 : σ_307 (27 + 1) = q_an G 8 kd := (hf_306 _ (by omega)).trans hc_294
        have hc_321 : σ_307 (27 + 4) = q_an G 8 tf := (hf_306 _ (by omega)).trans hc_295
        have hc_322 : σ_307 (27 + 5) = q_an G 8 ts := (hf_306 _ (by omega)).trans hc_296
        have hc_323 : ∀ j9 : Nat, j9 < 4 → σ_307 (25 + 10 + 2 * j9) = o7 G (25 + 10 + 2 * j9) (lN (nm j9)) (lN (on j9)) (nI (sl j9)) (nI (mo j9)) (nI (nb j9)) := fun j9 hj0 => (hf_306 _ (by omega)).trans (hc_298 j9 (by omega))
        have hc_324 : ∀ j9 : Nat, j9 < 4 → σ_307 (25 + 10 + 2 * j9 + 1) = q_an G 5 (bm j9) := fun j9 hj0 => (hf_306 _ (by omega)).trans (hc_299 j9 (by omega))
        have hc_325 : σ_307 (27 + 2) = q_an G 8 (va_up fi (x_pl (g 1) p) (fi (x_pl (g 1) p) - k)) := (hf_306 _ (by omega)).trans hc_300
        have hc_326 : σ_307 (27 + 3) = q_an G 8 (va_up se (x_pl (g 1) p) (se (x_pl (g 1) p) - l)) := (hf_306 _ (by omega)).trans hc_301
        have hc_327 : σ_307 27 = o6 G (27) (nI (s_take g p k l 1)) (nI (s_take g p k l 2)) := (hf_306 _ (by omega)).trans hc_302
        have hc_328 : σ_307 45 = o1 G (h0) (h1) (h2) (h3x_92) (h4x_93) := (hf_306 _ (by omega)).trans hc_303
        have hc_329 : σ_307 (25 + 8) = q_an G 10 (x_acP ac (g 3) (k + l) (s_over (s_take g p k l)) (s_tot (s_take g p k l)) (decide (s_tot g ≠ 0))) := (hf_306 _ (by omega)).trans hc_279
        refine A_aload_n hg dX10_makeTurn_136 rfl rfl ?_
        refine A_getf (v := .ref (q_h G + 25)) hg fl_RX10_40 dX10_makeTurn_137 hc_308 (by omega) rfl ?_
        refine A_dup hg dX10_makeTurn_140 rfl ?_
        refine A_getf (v := .int (nI (g 4))) hg fl_RX10_137 dX10_makeTurn_141 hc_304 (by omega) rfl ?_
        refine A_iconst (v := (nI (1))) hg dX10_makeTurn_144 (by decide) ?_
        refine A_iaddN hg dX10_makeTurn_145 ?_
        refine A_putf hg fl_RX10_137 dX10_makeTurn_146 hc_304 (by omega) (Nat.le_of_ble_eq_true rfl) rfl rfl rfl (fun σ_330 hc_331 hf_332 => ?_)
        have hc_331 : σ_330 25 = o0 G (25) (nI (g 0)) (nI (g 3)) (nI ((g 4) + 1)) (nI (g 5)) (nI (min ((g 6) + 1) 20)) := hc_331
        have hc_333 : σ_330 0 = o10 G (z1) (z2) (z3) := (hf_332 _ (by omega)).trans hc_308
        have hc_334 : σ_330 43 = o4 G (43)  := (hf_332 _ (by omega)).trans hc_309
        have hc_335 : σ_330 44 = q_rn G 4 4 (fun j => some (46 + 8 * j)) := (hf_332 _ (by omega)).trans hc_310
        have hc_336 : ∀ j9 : Nat, j9 < 4 → σ_330 (46 + 8 * j9) = o8 G (46 + 8 * j9) (nI (flA j9)) (nI (n0A j9)) (nI (gvA j9)) (nI (gsA j9)) (nI (lmA j9)) (nI (vsA j9)) := fun j9 hj0 => (hf_332 _ (by omega)).trans (hc_311 j9 (by omega))
        have hc_337 : ∀ j9 : Nat, j9 < 4 → σ_330 (46 + 8 * j9 + 1) = o7 G (46 + 8 * j9 + 1) (lN (nmA j9)) (lN (onA j9)) (nI (slA j9)) (nI (moA j9)) (nI (nbA j9)) := fun j9 hj0 => (hf_332 _ (by omega)).trans (hc_312 j9 (by omega))
        have hc_338 : ∀ j9 : Nat, j9 < 4 → σ_330 (46 + 8 * j9 + 2) = q_an G 5 (bmA j9) := fun j9 hj0 => (hf_332 _ (by omega)).trans (hc_313 j9 (by omega))
        have hc_339 : ∀ j9 : Nat, j9 < 4 → σ_330 (46 + 8 * j9 + 3) = q_an G 1681 (skA j9) := fun j9 hj0 => (hf_332 _ (by omega)).trans (hc_314 j9 (by omega))
        have hc_340 : ∀ j9 : Nat, j9 < 4 → σ_330 (46 + 8 * j9 + 4) = q_an G 1681 (s2A j9) := fun j9 hj0 => (hf_332 _ (by omega)).trans (hc_315 j9 (by omega))
        have hc_341 : ∀ j9 : Nat, j9 < 4 → σ_330 (46 + 8 * j9 + 5) = q_an G 1681 (vaA j9) := fun j9 hj0 => (hf_332 _ (by omega)).trans (hc_316 j9 (by omega))
        have hc_342 : ∀ j9 : Nat, j9 < 4 → σ_330 (46 + 8 * j9 + 6) = q_an G 1681 (spA j9) := fun j9 hj0 => (hf_332 _ (by omega)).trans (hc_317 j9 (by omega))
        have hc_343 : ∀ j9 : Nat, j9 < 4 → σ_330 (46 + 8 * j9 + 7) = q_an G 1681 (rfA j9) := fun j9 hj0 => (hf_332 _ (by omega)).trans (hc_318 j9 (by omega))
        have hc_344 : σ_330 26 = q_rn G 3 4 (fun j => some (25 + 10 + 2 * j)) := (hf_332 _ (by omega)).trans hc_319
        have hc_345 : σ_330 (27 + 1) = q_an G 8 kd := (hf_332 _ (by omega)).trans hc_320
        have hc_346 : σ_330 (27 + 4) = q_an G 8 tf := (hf_332 _ (by omega)).trans hc_321
        have hc_347 : σ_330 (27 + 5) = q_an G 8 ts := (hf_332 _ (by omega)).trans hc_322
        have hc_348 : ∀ j9 : Nat, j9 < 4 → σ_330 (25 + 10 + 2 * j9) = o7 G (25 + 10 + 2 * j9) (lN (nm j9)) (lN (on j9)) (nI (sl j9)) (nI (mo j9)) (nI (nb j9)) := fun j9 hj0 => (hf_332 _ (by omega)).trans (hc_323 j9 (by omega))
        have hc_349 : ∀ j9 : Nat, j9 < 4 → σ_330 (25 + 10 + 2 * j9 + 1) = q_an G 5 (bm j9) := fun j9 hj0 => (hf_332 _ (by omega)).trans (hc_324 j9 (by omega))
        have hc_350 : σ_330 (27 + 2) = q_an G 8 (va_up fi (x_pl (g 1) p) (fi (x_pl (g 1) p) - k)) := (hf_332 _ (by omega)).trans hc_325
        have hc_351 : σ_330 (27 + 3) = q_an G 8 (va_up se (x_pl (g 1) p) (se (x_pl (g 1) p) - l)) := (hf_332 _ (by omega)).trans hc_326
        have hc_352 : σ_330 27 = o6 G (27) (nI (s_take g p k l 1)) (nI (s_take g p k l 2)) := (hf_332 _ (by omega)).trans hc_327
        have hc_353 : σ_330 45 = o1 G (h0) (h1) (h2) (h3x_92) (h4x_93) := (hf_332 _ (by omega)).trans hc_328
        have hc_354 : σ_330 (25 + 8) = q_an G 10 (x_acP ac (g 3) (k + l) (s_over (s_take g p k l)) (s_tot (s_take g p k l)) (decide (s_tot g ≠ 0))) := (hf_332 _ (by omega)).trans hc_329
        have hc_355 : σ_330 (25 + 9) = q_an G 100 (fun j => if j < 5 then (if j = 0 then (g 3) else if j = 1 then p else if j = 2 then k else if j = 3 then l else (s_tot (s_take g p k l))) else tu (j - 5)) := (hf_332 _ (by omega)).trans hc_305
        refine A_aload_n hg dX10_makeTurn_149 rfl rfl ?_
        refine A_getf (v := .ref (q_h G + 25)) hg fl_RX10_40 dX10_makeTurn_150 hc_333 (by omega) rfl ?_
        refine A_iconst (v := (nI (1))) hg dX10_makeTurn_153 (by decide) ?_
        refine A_aload_n hg dX10_makeTurn_154 rfl rfl ?_
        refine A_getf (v := .ref (q_h G + 25)) hg fl_RX10_40 dX10_makeTurn_155 hc_333 (by omega) rfl ?_
        refine A_getf (v := .int (nI (g 3))) hg fl_RX10_134 dX10_makeTurn_158 hc_331 (by omega) rfl ?_
        refine A_isubN hg dX10_makeTurn_161 (by omega) ?_
        refine A_putf hg fl_RX10_134 dX10_makeTurn_162 hc_331 (by omega) (Nat.le_of_ble_eq_true rfl) rfl rfl rfl (fun σ_356 hc_357 hf_358 => ?_)
        have hc_357 : σ_356 25 = o0 G (25) (nI (g 0)) (nI (1 - (g 3))) (nI ((g 4) + 1)) (nI (g 5)) (nI (min ((g 6) + 1) 20)) := hc_357
        have hc_359 : σ_356 0 = o10 G (z1) (z2) (z3) := (hf_358 _ (by omega)).trans hc_333
        have hc_360 : σ_356 43 = o4 G (43)  := (hf_358 _ (by omega)).trans hc_334
        have hc_361 : σ_356 44 = q_rn G 4 4 (fun j => some (46 + 8 * j)) := (hf_358 _ (by omega)).trans hc_335
        have hc_362 : ∀ j9 : Nat, j9 < 4 → σ_356 (46 + 8 * j9) = o8 G (46 + 8 * j9) (nI (flA j9)) (nI (n0A j9)) (nI (gvA j9)) (nI (gsA j9)) (nI (lmA j9)) (nI (vsA j9)) := fun j9 hj0 => (hf_358 _ (by omega)).trans (hc_336 j9 (by omega))
        have hc_363 : ∀ j9 : Nat, j9 < 4 → σ_356 (46 + 8 * j9 + 1) = o7 G (46 + 8 * j9 + 1) (lN (nmA j9)) (lN (onA j9)) (nI (slA j9)) (nI (moA j9)) (nI (nbA j9)) := fun j9 hj0 => (hf_358 _ (by omega)).trans (hc_337 j9 (by omega))
        have hc_364 : ∀ j9 : Nat, j9 < 4 → σ_356 (46 + 8 * j9 + 2) = q_an G 5 (bmA j9) := fun j9 hj0 => (hf_358 _ (by omega)).trans (hc_338 j9 (by omega))
        have hc_365 : ∀ j9 : Nat, j9 < 4 → σ_356 (46 + 8 * j9 + 3) = q_an G 1681 (skA j9) := fun j9 hj0 => (hf_358 _ (by omega)).trans (hc_339 j9 (by omega))
        have hc_366 : ∀ j9 : Nat, j9 < 4 → σ_356 (46 + 8 * j9 + 4) = q_an G 1681 (s2A j9) := fun j9 hj0 => (hf_358 _ (by omega)).trans (hc_340 j9 (by omega))
        have hc_367 : ∀ j9 : Nat, j9 < 4 → σ_356 (46 + 8 * j9 + 5) = q_an G 1681 (vaA j9) := fun j9 hj0 => (hf_358 _ (by omega)).trans (hc_341 j9 (by omega))
        have hc_368 : ∀ j9 : Nat, j9 < 4 → σ_356 (46 + 8 * j9 + 6) = q_an G 1681 (spA j9) := fun j9 hj0 => (hf_358 _ (by omega)).trans (hc_342 j9 (by omega))
        have hc_369 : ∀ j9 : Nat, j9 < 4 → σ_356 (46 + 8 * j9 + 7) = q_an G 1681 (rfA j9) := fun j9 hj0 => (hf_358 _ (by omega)).trans (hc_343 j9 (by omega))
        have hc_370 : σ_356 26 = q_rn G 3 4 (fun j => some (25 + 10 + 2 * j)) := (hf_358 _ (by omega)).trans hc_344
        have hc_371 : σ_356 (27 + 1) = q_an G 8 kd := (hf_358 _ (by omega)).trans hc_345
        have hc_372 : σ_356 (27 + 4) = q_an G 8 tf := (hf_358 _ (by omega)).trans hc_346
        have hc_373 : σ_356 (27 + 5) = q_an G 8 ts := (hf_358 _ (by omega)).trans hc_347
        have hc_374 : ∀ j9 : Nat, j9 < 4 → σ_356 (25 + 10 + 2 * j9) = o7 G (25 + 10 + 2 * j9) (lN (nm j9)) (lN (on j9)) (nI (sl j9)) (nI (mo j9)) (nI (nb j9)) := fun j9 hj0 => (hf_358 _ (by omega)).trans (hc_348 j9 (by omega))
        have hc_375 : ∀ j9 : Nat, j9 < 4 → σ_356 (25 + 10 + 2 * j9 + 1) = q_an G 5 (bm j9) := fun j9 hj0 => (hf_358 _ (by omega)).trans (hc_349 j9 (by omega))
        have hc_376 : σ_356 (27 + 2) = q_an G 8 (va_up fi (x_pl (g 1) p) (fi (x_pl (g 1) p) - k)) := (hf_358 _ (by omega)).trans hc_350
        have hc_377 : σ_356 (27 + 3) = q_an G 8 (va_up se (x_pl (g 1) p) (se (x_pl (g 1) p) - l)) := (hf_358 _ (by omega)).trans hc_351
        have hc_378 : σ_356 27 = o6 G (27) (nI (s_take g p k l 1)) (nI (s_take g p k l 2)) := (hf_358 _ (by omega)).trans hc_352
        have hc_379 : σ_356 45 = o1 G (h0) (h1) (h2) (h3x_92) (h4x_93) := (hf_358 _ (by omega)).trans hc_353
        have hc_380 : σ_356 (25 + 8) = q_an G 10 (x_acP ac (g 3) (k + l) (s_over (s_take g p k l)) (s_tot (s_take g p k l)) (decide (s_tot g ≠ 0))) := (hf_358 _ (by omega)).trans hc_354
        have hc_381 : σ_356 (25 + 9) = q_an G 100 (fun j => if j < 5 then (if j = 0 then (g 3) else if j = 1 then p else if j = 2 then k else if j = 3 then l else (s_tot (s_take g p k l))) else tu (j - 5)) := (hf_358 _ (by omega)).trans hc_355
        obtain ⟨q0, q1, q2, q3, q4, q5, q6⟩ := x_play_hi (k := k) (l := l) hgw hpp
        refine A_canon (x_tuP tu (g 3) p k l (s_tot (s_take g p k l))) hc_381 (fun jj hj => rfl) (fun σ_382 hc_383 hf_384 => ?_)
        have hc_385 : σ_382 0 = o10 G (z1) (z2) (z3) := (hf_384 _ (by omega)).trans hc_359
        have hc_386 : σ_382 43 = o4 G (43)  := (hf_384 _ (by omega)).trans hc_360
        have hc_387 : σ_382 44 = q_rn G 4 4 (fun j => some (46 + 8 * j)) := (hf_384 _ (by omega)).trans hc_361
        have hc_388 : ∀ j9 : Nat, j9 < 4 → σ_382 (46 + 8 * j9) = o8 G (46 + 8 * j9) (nI (flA j9)) (nI (n0A j9)) (nI (gvA j9)) (nI (gsA j9)) (nI (lmA j9)) (nI (vsA j9)) := fun j9 hj0 => (hf_384 _ (by omega)).trans (hc_362 j9 (by omega))
        have hc_389 : ∀ j9 : Nat, j9 < 4 → σ_382 (46 + 8 * j9 + 1) = o7 G (46 + 8 * j9 + 1) (lN (nmA j9)) (lN (onA j9)) (nI (slA j9)) (nI (moA j9)) (nI (nbA j9)) := fun j9 hj0 => (hf_384 _ (by omega)).trans (hc_363 j9 (by omega))
        have hc_390 : ∀ j9 : Nat, j9 < 4 → σ_382 (46 + 8 * j9 + 2) = q_an G 5 (bmA j9) := fun j9 hj0 => (hf_384 _ (by omega)).trans (hc_364 j9 (by omega))
        have hc_391 : ∀ j9 : Nat, j9 < 4 → σ_382 (46 + 8 * j9 + 3) = q_an G 1681 (skA j9) := fun j9 hj0 => (hf_384 _ (by omega)).trans (hc_365 j9 (by omega))
        have hc_392 : ∀ j9 : Nat, j9 < 4 → σ_382 (46 + 8 * j9 + 4) = q_an G 1681 (s2A j9) := fun j9 hj0 => (hf_384 _ (by omega)).trans (hc_366 j9 (by omega))
        have hc_393 : ∀ j9 : Nat, j9 < 4 → σ_382 (46 + 8 * j9 + 5) = q_an G 1681 (vaA j9) := fun j9 hj0 => (hf_384 _ (by omega)).trans (hc_367 j9 (by omega))
        have hc_394 : ∀ j9 : Nat, j9 < 4 → σ_382 (46 + 8 * j9 + 6) = q_an G 1681 (spA j9) := fun j9 hj0 => (hf_384 _ (by omega)).trans (hc_368 j9 (by omega))
        have hc_395 : ∀ j9 : Nat, j9 < 4 → σ_382 (46 + 8 * j9 + 7) = q_an G 1681 (rfA j9) := fun j9 hj0 => (hf_384 _ (by omega)).trans (hc_369 j9 (by omega))
        have hc_396 : σ_382 26 = q_rn G 3 4 (fun j => some (25 + 10 + 2 * j)) := (hf_384 _ (by omega)).trans hc_370
        have hc_397 : σ_382 (27 + 1) = q_an G 8 kd := (hf_384 _ (by omega)).trans hc_371
        have hc_398 : σ_382 (27 + 4) = q_an G 8 tf := (hf_384 _ (by omega)).trans hc_372
        have hc_399 : σ_382 (27 + 5) = q_an G 8 ts := (hf_384 _ (by omega)).trans hc_373
        have hc_400 : ∀ j9 : Nat, j9 < 4 → σ_382 (25 + 10 + 2 * j9) = o7 G (25 + 10 + 2 * j9) (lN (nm j9)) (lN (on j9)) (nI (sl j9)) (nI (mo j9)) (nI (nb j9)) := fun j9 hj0 => (hf_384 _ (by omega)).trans (hc_374 j9 (by omega))
        have hc_401 : ∀ j9 : Nat, j9 < 4 → σ_382 (25 + 10 + 2 * j9 + 1) = q_an G 5 (bm j9) := fun j9 hj0 => (hf_384 _ (by omega)).trans (hc_375 j9 (by omega))
        have hc_402 : σ_382 (27 + 2) = q_an G 8 (va_up fi (x_pl (g 1) p) (fi (x_pl (g 1) p) - k)) := (hf_384 _ (by omega)).trans hc_376
        have hc_403 : σ_382 (27 + 3) = q_an G 8 (va_up se (x_pl (g 1) p) (se (x_pl (g 1) p) - l)) := (hf_384 _ (by omega)).trans hc_377
        have hc_404 : σ_382 27 = o6 G (27) (nI (s_take g p k l 1)) (nI (s_take g p k l 2)) := (hf_384 _ (by omega)).trans hc_378
        have hc_405 : σ_382 45 = o1 G (h0) (h1) (h2) (h3x_92) (h4x_93) := (hf_384 _ (by omega)).trans hc_379
        have hc_406 : σ_382 (25 + 8) = q_an G 10 (x_acP ac (g 3) (k + l) (s_over (s_take g p k l)) (s_tot (s_take g p k l)) (decide (s_tot g ≠ 0))) := (hf_384 _ (by omega)).trans hc_380
        have hc_407 : σ_382 25 = o0 G (25) (nI (g 0)) (nI (1 - (g 3))) (nI ((g 4) + 1)) (nI (g 5)) (nI (min ((g 6) + 1) 20)) := (hf_384 _ (by omega)).trans hc_357
        have hc_408 : σ_382 25 = o0 G (25) (nI (s_play g p k l 0)) (nI (s_play g p k l 3)) (nI (s_play g p k l 4)) (nI (s_play g p k l 5)) (nI (s_play g p k l 6)) := hc_407.trans (by rw [q0, q3, q4, q5, q6])
        have hc_409 : σ_382 27 = o6 G (27) (nI (s_play g p k l 1)) (nI (s_play g p k l 2)) := hc_404.trans (by rw [ek1, ek2, q1, q2])
        refine A_iload hg dX10_makeTurn_165 rfl ?_
        rw [hQ]
        exact A_ireturn hg (by decide) (by decide) rfl dX10_makeTurn_167 ⟨rfl, ⟨(h3x_92), (h4x_93), rfl, ⟨_, _, _, _, _, _, _, _, _, _, _, _, _, ⟨hc_408, hc_396, hc_409, hc_397, hc_402, hc_403, hc_398, hc_399, hc_406, hc_383, hc_400, hc_401⟩, x_gr_play hpp hgr0⟩, hc_405, (fun i hi => ((hf_384 i (by omega)).trans ((hf_358 i (by omega)).trans ((hf_332 i (by omega)).trans ((hf_306 i (by omega)).trans ((hf_280 i (by omega)).trans ((hf_253 i (by omega)).trans ((hf_95 i (by omega)).trans ((hf_67 i (by omega)).trans ((hf_41 i (by omega)).trans (hf_15 i (by omega))))))))))))⟩⟩
    · skip
      refine A_aload_n hg dX10_makeTurn_83 rfl rfl ?_
      refine A_getf (v := .ref (q_h G + 25)) hg fl_RX10_40 dX10_makeTurn_84 hc_97 (by omega) rfl ?_
      refine A_iconst (v := (nI (2))) hg dX10_makeTurn_87 (by decide) ?_
      refine A_iconst (v := (nI (1))) hg dX10_makeTurn_88 (by decide) ?_
      refine A_vV (kc2 := 0) (ks2 := 0) (As := [.int (nI (2)), .int (nI (1))]) (rest := []) hg lk_RX10_396 in_X0_addToAccount se_X0_addToAccount rfl dX10_makeTurn_89 ⟨by decide, by decide⟩ rfl rfl ⟨by decide, by decide⟩ hc_108 (by omega) rfl rfl (Nat.le_of_ble_eq_true rfl) (c_X0_addToAccount G ex n σ_96 25 (g 0) (g 3) (g 4) (g 5) (g 6) (va_up (va_up ac ((g 3) * 5 + 0) (ac ((g 3) * 5 + 0) + 1)) ((g 3) * 5 + 1) ((va_up ac ((g 3) * 5 + 0) (ac ((g 3) * 5 + 0) + 1)) ((g 3) * 5 + 1) + (k + l))) 2 1 hc_108 hc_119 (by omega) (by omega) (by omega)) ?_
      rintro σ_412 ⟨hc_410, hf_411⟩
      have hc_413 : σ_412 0 = o10 G (z1) (z2) (z3) := (hf_411 _ (by omega)).trans hc_97
      have hc_414 : σ_412 43 = o4 G (43)  := (hf_411 _ (by omega)).trans hc_98
      have hc_415 : σ_412 44 = q_rn G 4 4 (fun j => some (46 + 8 * j)) := (hf_411 _ (by omega)).trans hc_99
      have hc_416 : ∀ j9 : Nat, j9 < 4 → σ_412 (46 + 8 * j9) = o8 G (46 + 8 * j9) (nI (flA j9)) (nI (n0A j9)) (nI (gvA j9)) (nI (gsA j9)) (nI (lmA j9)) (nI (vsA j9)) := fun j9 hj0 => (hf_411 _ (by omega)).trans (hc_100 j9 (by omega))
      have hc_417 : ∀ j9 : Nat, j9 < 4 → σ_412 (46 + 8 * j9 + 1) = o7 G (46 + 8 * j9 + 1) (lN (nmA j9)) (lN (onA j9)) (nI (slA j9)) (nI (moA j9)) (nI (nbA j9)) := fun j9 hj0 => (hf_411 _ (by omega)).trans (hc_101 j9 (by omega))
      have hc_418 : ∀ j9 : Nat, j9 < 4 → σ_412 (46 + 8 * j9 + 2) = q_an G 5 (bmA j9) := fun j9 hj0 => (hf_411 _ (by omega)).trans (hc_102 j9 (by omega))
      have hc_419 : ∀ j9 : Nat, j9 < 4 → σ_412 (46 + 8 * j9 + 3) = q_an G 1681 (skA j9) := fun j9 hj0 => (hf_411 _ (by omega)).trans (hc_103 j9 (by omega))
      have hc_420 : ∀ j9 : Nat, j9 < 4 → σ_412 (46 + 8 * j9 + 4) = q_an G 1681 (s2A j9) := fun j9 hj0 => (hf_411 _ (by omega)).trans (hc_104 j9 (by omega))
      have hc_421 : ∀ j9 : Nat, j9 < 4 → σ_412 (46 + 8 * j9 + 5) = q_an G 1681 (vaA j9) := fun j9 hj0 => (hf_411 _ (by omega)).trans (hc_105 j9 (by omega))
      have hc_422 : ∀ j9 : Nat, j9 < 4 → σ_412 (46 + 8 * j9 + 6) = q_an G 1681 (spA j9) := fun j9 hj0 => (hf_411 _ (by omega)).trans (hc_106 j9 (by omega))
      have hc_423 : ∀ j9 : Nat, j9 < 4 → σ_412 (46 + 8 * j9 + 7) = q_an G 1681 (rfA j9) := fun j9 hj0 => (hf_411 _ (by omega)).trans (hc_107 j9 (by omega))
      have hc_424 : σ_412 25 = o0 G (25) (nI (g 0)) (nI (g 3)) (nI (g 4)) (nI (g 5)) (nI (g 6)) := (hf_411 _ (by omega)).trans hc_108
      have hc_425 : σ_412 26 = q_rn G 3 4 (fun j => some (25 + 10 + 2 * j)) := (hf_411 _ (by omega)).trans hc_109
      have hc_426 : σ_412 (27 + 1) = q_an G 8 kd := (hf_411 _ (by omega)).trans hc_110
      have hc_427 : σ_412 (27 + 4) = q_an G 8 tf := (hf_411 _ (by omega)).trans hc_111
      have hc_428 : σ_412 (27 + 5) = q_an G 8 ts := (hf_411 _ (by omega)).trans hc_112
      have hc_429 : σ_412 (25 + 9) = q_an G 100 tu := (hf_411 _ (by omega)).trans hc_113
      have hc_430 : ∀ j9 : Nat, j9 < 4 → σ_412 (25 + 10 + 2 * j9) = o7 G (25 + 10 + 2 * j9) (lN (nm j9)) (lN (on j9)) (nI (sl j9)) (nI (mo j9)) (nI (nb j9)) := fun j9 hj0 => (hf_411 _ (by omega)).trans (hc_114 j9 (by omega))
      have hc_431 : ∀ j9 : Nat, j9 < 4 → σ_412 (25 + 10 + 2 * j9 + 1) = q_an G 5 (bm j9) := fun j9 hj0 => (hf_411 _ (by omega)).trans (hc_115 j9 (by omega))
      have hc_432 : σ_412 (27 + 2) = q_an G 8 (va_up fi (x_pl (g 1) p) (fi (x_pl (g 1) p) - k)) := (hf_411 _ (by omega)).trans hc_116
      have hc_433 : σ_412 (27 + 3) = q_an G 8 (va_up se (x_pl (g 1) p) (se (x_pl (g 1) p) - l)) := (hf_411 _ (by omega)).trans hc_117
      have hc_434 : σ_412 27 = o6 G (27) (nI (s_take g p k l 1)) (nI (s_take g p k l 2)) := (hf_411 _ (by omega)).trans hc_118
      have hc_435 : σ_412 45 = o1 G (h0) (h1) (h2) (h3x_92) (h4x_93) := (hf_411 _ (by omega)).trans hc_94
      refine A_iload hg dX10_makeTurn_92 rfl ?_
      refine A_if_neN (tgt := 109) hg dX10_makeTurn_94 (by omega) (by decide) (fun c94 => ?_) (fun c94 => ?_)
      · skip
        refine A_iload hg dX10_makeTurn_109 rfl ?_
        refine A_if_eqN (tgt := 123) hg dX10_makeTurn_111 (by decide) (by decide) (fun c111 => ?_) (fun c111 => absurd (by decide) c111)
        refine A_canon (x_acP ac (g 3) (k + l) (s_over (s_take g p k l)) (s_tot (s_take g p k l)) (decide (s_tot g ≠ 0))) hc_410 (fun jj hj => by unfold x_acP; rw [if_neg c94, if_neg (show ¬ (decide (s_tot g ≠ 0) = true) from fun z => absurd c11 (of_decide_eq_true z)), if_pos c80]; rfl) (fun σ_436 hc_437 hf_438 => ?_)
        have hc_439 : σ_436 0 = o10 G (z1) (z2) (z3) := (hf_438 _ (by omega)).trans hc_413
        have hc_440 : σ_436 43 = o4 G (43)  := (hf_438 _ (by omega)).trans hc_414
        have hc_441 : σ_436 44 = q_rn G 4 4 (fun j => some (46 + 8 * j)) := (hf_438 _ (by omega)).trans hc_415
        have hc_442 : ∀ j9 : Nat, j9 < 4 → σ_436 (46 + 8 * j9) = o8 G (46 + 8 * j9) (nI (flA j9)) (nI (n0A j9)) (nI (gvA j9)) (nI (gsA j9)) (nI (lmA j9)) (nI (vsA j9)) := fun j9 hj0 => (hf_438 _ (by omega)).trans (hc_416 j9 (by omega))
        have hc_443 : ∀ j9 : Nat, j9 < 4 → σ_436 (46 + 8 * j9 + 1) = o7 G (46 + 8 * j9 + 1) (lN (nmA j9)) (lN (onA j9)) (nI (slA j9)) (nI (moA j9)) (nI (nbA j9)) := fun j9 hj0 => (hf_438 _ (by omega)).trans (hc_417 j9 (by omega))
        have hc_444 : ∀ j9 : Nat, j9 < 4 → σ_436 (46 + 8 * j9 + 2) = q_an G 5 (bmA j9) := fun j9 hj0 => (hf_438 _ (by omega)).trans (hc_418 j9 (by omega))
        have hc_445 : ∀ j9 : Nat, j9 < 4 → σ_436 (46 + 8 * j9 + 3) = q_an G 1681 (skA j9) := fun j9 hj0 => (hf_438 _ (by omega)).trans (hc_419 j9 (by omega))
        have hc_446 : ∀ j9 : Nat, j9 < 4 → σ_436 (46 + 8 * j9 + 4) = q_an G 1681 (s2A j9) := fun j9 hj0 => (hf_438 _ (by omega)).trans (hc_420 j9 (by omega))
        have hc_447 : ∀ j9 : Nat, j9 < 4 → σ_436 (46 + 8 * j9 + 5) = q_an G 1681 (vaA j9) := fun j9 hj0 => (hf_438 _ (by omega)).trans (hc_421 j9 (by omega))
        have hc_448 : ∀ j9 : Nat, j9 < 4 → σ_436 (46 + 8 * j9 + 6) = q_an G 1681 (spA j9) := fun j9 hj0 => (hf_438 _ (by omega)).trans (hc_422 j9 (by omega))
        have hc_449 : ∀ j9 : Nat, j9 < 4 → σ_436 (46 + 8 * j9 + 7) = q_an G 1681 (rfA j9) := fun j9 hj0 => (hf_438 _ (by omega)).trans (hc_423 j9 (by omega))
        have hc_450 : σ_436 25 = o0 G (25) (nI (g 0)) (nI (g 3)) (nI (g 4)) (nI (g 5)) (nI (g 6)) := (hf_438 _ (by omega)).trans hc_424
        have hc_451 : σ_436 26 = q_rn G 3 4 (fun j => some (25 + 10 + 2 * j)) := (hf_438 _ (by omega)).trans hc_425
        have hc_452 : σ_436 (27 + 1) = q_an G 8 kd := (hf_438 _ (by omega)).trans hc_426
        have hc_453 : σ_436 (27 + 4) = q_an G 8 tf := (hf_438 _ (by omega)).trans hc_427
        have hc_454 : σ_436 (27 + 5) = q_an G 8 ts := (hf_438 _ (by omega)).trans hc_428
        have hc_455 : σ_436 (25 + 9) = q_an G 100 tu := (hf_438 _ (by omega)).trans hc_429
        have hc_456 : ∀ j9 : Nat, j9 < 4 → σ_436 (25 + 10 + 2 * j9) = o7 G (25 + 10 + 2 * j9) (lN (nm j9)) (lN (on j9)) (nI (sl j9)) (nI (mo j9)) (nI (nb j9)) := fun j9 hj0 => (hf_438 _ (by omega)).trans (hc_430 j9 (by omega))
        have hc_457 : ∀ j9 : Nat, j9 < 4 → σ_436 (25 + 10 + 2 * j9 + 1) = q_an G 5 (bm j9) := fun j9 hj0 => (hf_438 _ (by omega)).trans (hc_431 j9 (by omega))
        have hc_458 : σ_436 (27 + 2) = q_an G 8 (va_up fi (x_pl (g 1) p) (fi (x_pl (g 1) p) - k)) := (hf_438 _ (by omega)).trans hc_432
        have hc_459 : σ_436 (27 + 3) = q_an G 8 (va_up se (x_pl (g 1) p) (se (x_pl (g 1) p) - l)) := (hf_438 _ (by omega)).trans hc_433
        have hc_460 : σ_436 27 = o6 G (27) (nI (s_take g p k l 1)) (nI (s_take g p k l 2)) := (hf_438 _ (by omega)).trans hc_434
        have hc_461 : σ_436 45 = o1 G (h0) (h1) (h2) (h3x_92) (h4x_93) := (hf_438 _ (by omega)).trans hc_435
        refine A_aload_n hg dX10_makeTurn_123 rfl rfl ?_
        refine A_getf (v := .ref (q_h G + 25)) hg fl_RX10_40 dX10_makeTurn_124 hc_439 (by omega) rfl ?_
        refine A_iload_n hg dX10_makeTurn_127 rfl rfl ?_
        refine A_iload_n hg dX10_makeTurn_128 rfl rfl ?_
        refine A_iload hg dX10_makeTurn_129 rfl ?_
        refine A_iload hg dX10_makeTurn_131 rfl ?_
        refine A_vV (kc2 := 0) (ks2 := 0) (As := [.int (nI (p)), .int (nI (k)), .int (nI (l)), .int (nI (s_tot (s_take g p k l)))]) (rest := []) hg lk_RX10_399 in_X0_keepTurn se_X0_keepTurn rfl dX10_makeTurn_133 ⟨by decide, by decide⟩ rfl rfl ⟨by decide, by decide⟩ hc_450 (by omega) rfl rfl (Nat.le_of_ble_eq_true rfl) (c_X0_keepTurn G ex n σ_436 25 (g 0) (g 3) (g 4) (g 5) (g 6) tu p k l (s_tot (s_take g p k l)) hc_450 hc_455 (by omega) (by omega)) ?_
        rintro σ_465 ⟨hc_462, hc_463, hf_464⟩
        have hc_466 : σ_465 0 = o10 G (z1) (z2) (z3) := (hf_464 _ (by omega)).trans hc_439
        have hc_467 : σ_465 43 = o4 G (43)  := (hf_464 _ (by omega)).trans hc_440
        have hc_468 : σ_465 44 = q_rn G 4 4 (fun j => some (46 + 8 * j)) := (hf_464 _ (by omega)).trans hc_441
        have hc_469 : ∀ j9 : Nat, j9 < 4 → σ_465 (46 + 8 * j9) = o8 G (46 + 8 * j9) (nI (flA j9)) (nI (n0A j9)) (nI (gvA j9)) (nI (gsA j9)) (nI (lmA j9)) (nI (vsA j9)) := fun j9 hj0 => (hf_464 _ (by omega)).trans (hc_442 j9 (by omega))
        have hc_470 : ∀ j9 : Nat, j9 < 4 → σ_465 (46 + 8 * j9 + 1) = o7 G (46 + 8 * j9 + 1) (lN (nmA j9)) (lN (onA j9)) (nI (slA j9)) (nI (moA j9)) (nI (nbA j9)) := fun j9 hj0 => (hf_464 _ (by omega)).trans (hc_443 j9 (by omega))
        have hc_471 : ∀ j9 : Nat, j9 < 4 → σ_465 (46 + 8 * j9 + 2) = q_an G 5 (bmA j9) := fun j9 hj0 => (hf_464 _ (by omega)).trans (hc_444 j9 (by omega))
        have hc_472 : ∀ j9 : Nat, j9 < 4 → σ_465 (46 + 8 * j9 + 3) = q_an G 1681 (skA j9) := fun j9 hj0 => (hf_464 _ (by omega)).trans (hc_445 j9 (by omega))
        have hc_473 : ∀ j9 : Nat, j9 < 4 → σ_465 (46 + 8 * j9 + 4) = q_an G 1681 (s2A j9) := fun j9 hj0 => (hf_464 _ (by omega)).trans (hc_446 j9 (by omega))
        have hc_474 : ∀ j9 : Nat, j9 < 4 → σ_465 (46 + 8 * j9 + 5) = q_an G 1681 (vaA j9) := fun j9 hj0 => (hf_464 _ (by omega)).trans (hc_447 j9 (by omega))
        have hc_475 : ∀ j9 : Nat, j9 < 4 → σ_465 (46 + 8 * j9 + 6) = q_an G 1681 (spA j9) := fun j9 hj0 => (hf_464 _ (by omega)).trans (hc_448 j9 (by omega))
        have hc_476 : ∀ j9 : Nat, j9 < 4 → σ_465 (46 + 8 * j9 + 7) = q_an G 1681 (rfA j9) := fun j9 hj0 => (hf_464 _ (by omega)).trans (hc_449 j9 (by omega))
        have hc_477 : σ_465 26 = q_rn G 3 4 (fun j => some (25 + 10 + 2 * j)) := (hf_464 _ (by omega)).trans hc_451
        have hc_478 : σ_465 (27 + 1) = q_an G 8 kd := (hf_464 _ (by omega)).trans hc_452
        have hc_479 : σ_465 (27 + 4) = q_an G 8 tf := (hf_464 _ (by omega)).trans hc_453
        have hc_480 : σ_465 (27 + 5) = q_an G 8 ts := (hf_464 _ (by omega)).trans hc_454
        have hc_481 : ∀ j9 : Nat, j9 < 4 → σ_465 (25 + 10 + 2 * j9) = o7 G (25 + 10 + 2 * j9) (lN (nm j9)) (lN (on j9)) (nI (sl j9)) (nI (mo j9)) (nI (nb j9)) := fun j9 hj0 => (hf_464 _ (by omega)).trans (hc_456 j9 (by omega))
        have hc_482 : ∀ j9 : Nat, j9 < 4 → σ_465 (25 + 10 + 2 * j9 + 1) = q_an G 5 (bm j9) := fun j9 hj0 => (hf_464 _ (by omega)).trans (hc_457 j9 (by omega))
        have hc_483 : σ_465 (27 + 2) = q_an G 8 (va_up fi (x_pl (g 1) p) (fi (x_pl (g 1) p) - k)) := (hf_464 _ (by omega)).trans hc_458
        have hc_484 : σ_465 (27 + 3) = q_an G 8 (va_up se (x_pl (g 1) p) (se (x_pl (g 1) p) - l)) := (hf_464 _ (by omega)).trans hc_459
        have hc_485 : σ_465 27 = o6 G (27) (nI (s_take g p k l 1)) (nI (s_take g p k l 2)) := (hf_464 _ (by omega)).trans hc_460
        have hc_486 : σ_465 45 = o1 G (h0) (h1) (h2) (h3x_92) (h4x_93) := (hf_464 _ (by omega)).trans hc_461
        have hc_487 : σ_465 (25 + 8) = q_an G 10 (x_acP ac (g 3) (k + l) (s_over (s_take g p k l)) (s_tot (s_take g p k l)) (decide (s_tot g ≠ 0))) := (hf_464 _ (by omega)).trans hc_437
        refine A_aload_n hg dX10_makeTurn_136 rfl rfl ?_
        refine A_getf (v := .ref (q_h G + 25)) hg fl_RX10_40 dX10_makeTurn_137 hc_466 (by omega) rfl ?_
        refine A_dup hg dX10_makeTurn_140 rfl ?_
        refine A_getf (v := .int (nI (g 4))) hg fl_RX10_137 dX10_makeTurn_141 hc_462 (by omega) rfl ?_
        refine A_iconst (v := (nI (1))) hg dX10_makeTurn_144 (by decide) ?_
        refine A_iaddN hg dX10_makeTurn_145 ?_
        refine A_putf hg fl_RX10_137 dX10_makeTurn_146 hc_462 (by omega) (Nat.le_of_ble_eq_true rfl) rfl rfl rfl (fun σ_488 hc_489 hf_490 => ?_)
        have hc_489 : σ_488 25 = o0 G (25) (nI (g 0)) (nI (g 3)) (nI ((g 4) + 1)) (nI (g 5)) (nI (min ((g 6) + 1) 20)) := hc_489
        have hc_491 : σ_488 0 = o10 G (z1) (z2) (z3) := (hf_490 _ (by omega)).trans hc_466
        have hc_492 : σ_488 43 = o4 G (43)  := (hf_490 _ (by omega)).trans hc_467
        have hc_493 : σ_488 44 = q_rn G 4 4 (fun j => some (46 + 8 * j)) := (hf_490 _ (by omega)).trans hc_468
        have hc_494 : ∀ j9 : Nat, j9 < 4 → σ_488 (46 + 8 * j9) = o8 G (46 + 8 * j9) (nI (flA j9)) (nI (n0A j9)) (nI (gvA j9)) (nI (gsA j9)) (nI (lmA j9)) (nI (vsA j9)) := fun j9 hj0 => (hf_490 _ (by omega)).trans (hc_469 j9 (by omega))
        have hc_495 : ∀ j9 : Nat, j9 < 4 → σ_488 (46 + 8 * j9 + 1) = o7 G (46 + 8 * j9 + 1) (lN (nmA j9)) (lN (onA j9)) (nI (slA j9)) (nI (moA j9)) (nI (nbA j9)) := fun j9 hj0 => (hf_490 _ (by omega)).trans (hc_470 j9 (by omega))
        have hc_496 : ∀ j9 : Nat, j9 < 4 → σ_488 (46 + 8 * j9 + 2) = q_an G 5 (bmA j9) := fun j9 hj0 => (hf_490 _ (by omega)).trans (hc_471 j9 (by omega))
        have hc_497 : ∀ j9 : Nat, j9 < 4 → σ_488 (46 + 8 * j9 + 3) = q_an G 1681 (skA j9) := fun j9 hj0 => (hf_490 _ (by omega)).trans (hc_472 j9 (by omega))
        have hc_498 : ∀ j9 : Nat, j9 < 4 → σ_488 (46 + 8 * j9 + 4) = q_an G 1681 (s2A j9) := fun j9 hj0 => (hf_490 _ (by omega)).trans (hc_473 j9 (by omega))
        have hc_499 : ∀ j9 : Nat, j9 < 4 → σ_488 (46 + 8 * j9 + 5) = q_an G 1681 (vaA j9) := fun j9 hj0 => (hf_490 _ (by omega)).trans (hc_474 j9 (by omega))
        have hc_500 : ∀ j9 : Nat, j9 < 4 → σ_488 (46 + 8 * j9 + 6) = q_an G 1681 (spA j9) := fun j9 hj0 => (hf_490 _ (by omega)).trans (hc_475 j9 (by omega))
        have hc_501 : ∀ j9 : Nat, j9 < 4 → σ_488 (46 + 8 * j9 + 7) = q_an G 1681 (rfA j9) := fun j9 hj0 => (hf_490 _ (by omega)).trans (hc_476 j9 (by omega))
        have hc_502 : σ_488 26 = q_rn G 3 4 (fun j => some (25 + 10 + 2 * j)) := (hf_490 _ (by omega)).trans hc_477
        have hc_503 : σ_488 (27 + 1) = q_an G 8 kd := (hf_490 _ (by omega)).trans hc_478
        have hc_504 : σ_488 (27 + 4) = q_an G 8 tf := (hf_490 _ (by omega)).trans hc_479
        have hc_505 : σ_488 (27 + 5) = q_an G 8 ts := (hf_490 _ (by omega)).trans hc_480
        have hc_506 : ∀ j9 : Nat, j9 < 4 → σ_488 (25 + 10 + 2 * j9) = o7 G (25 + 10 + 2 * j9) (lN (nm j9)) (lN (on j9)) (nI (sl j9)) (nI (mo j9)) (nI (nb j9)) := fun j9 hj0 => (hf_490 _ (by omega)).trans (hc_481 j9 (by omega))
        have hc_507 : ∀ j9 : Nat, j9 < 4 → σ_488 (25 + 10 + 2 * j9 + 1) = q_an G 5 (bm j9) := fun j9 hj0 => (hf_490 _ (by omega)).trans (hc_482 j9 (by omega))
        have hc_508 : σ_488 (27 + 2) = q_an G 8 (va_up fi (x_pl (g 1) p) (fi (x_pl (g 1) p) - k)) := (hf_490 _ (by omega)).trans hc_483
        have hc_509 : σ_488 (27 + 3) = q_an G 8 (va_up se (x_pl (g 1) p) (se (x_pl (g 1) p) - l)) := (hf_490 _ (by omega)).trans hc_484
        have hc_510 : σ_488 27 = o6 G (27) (nI (s_take g p k l 1)) (nI (s_take g p k l 2)) := (hf_490 _ (by omega)).trans hc_485
        have hc_511 : σ_488 45 = o1 G (h0) (h1) (h2) (h3x_92) (h4x_93) := (hf_490 _ (by omega)).trans hc_486
        have hc_512 : σ_488 (25 + 8) = q_an G 10 (x_acP ac (g 3) (k + l) (s_over (s_take g p k l)) (s_tot (s_take g p k l)) (decide (s_tot g ≠ 0))) := (hf_490 _ (by omega)).trans hc_487
        have hc_513 : σ_488 (25 + 9) = q_an G 100 (fun j => if j < 5 then (if j = 0 then (g 3) else if j = 1 then p else if j = 2 then k else if j = 3 then l else (s_tot (s_take g p k l))) else tu (j - 5)) := (hf_490 _ (by omega)).trans hc_463
        refine A_aload_n hg dX10_makeTurn_149 rfl rfl ?_
        refine A_getf (v := .ref (q_h G + 25)) hg fl_RX10_40 dX10_makeTurn_150 hc_491 (by omega) rfl ?_
        refine A_iconst (v := (nI (1))) hg dX10_makeTurn_153 (by decide) ?_
        refine A_aload_n hg dX10_makeTurn_154 rfl rfl ?_
        refine A_getf (v := .ref (q_h G + 25)) hg fl_RX10_40 dX10_makeTurn_155 hc_491 (by omega) rfl ?_
        refine A_getf (v := .int (nI (g 3))) hg fl_RX10_134 dX10_makeTurn_158 hc_489 (by omega) rfl ?_
        refine A_isubN hg dX10_makeTurn_161 (by omega) ?_
        refine A_putf hg fl_RX10_134 dX10_makeTurn_162 hc_489 (by omega) (Nat.le_of_ble_eq_true rfl) rfl rfl rfl (fun σ_514 hc_515 hf_516 => ?_)
        have hc_515 : σ_514 25 = o0 G (25) (nI (g 0)) (nI (1 - (g 3))) (nI ((g 4) + 1)) (nI (g 5)) (nI (min ((g 6) + 1) 20)) := hc_515
        have hc_517 : σ_514 0 = o10 G (z1) (z2) (z3) := (hf_516 _ (by omega)).trans hc_491
        have hc_518 : σ_514 43 = o4 G (43)  := (hf_516 _ (by omega)).trans hc_492
        have hc_519 : σ_514 44 = q_rn G 4 4 (fun j => some (46 + 8 * j)) := (hf_516 _ (by omega)).trans hc_493
        have hc_520 : ∀ j9 : Nat, j9 < 4 → σ_514 (46 + 8 * j9) = o8 G (46 + 8 * j9) (nI (flA j9)) (nI (n0A j9)) (nI (gvA j9)) (nI (gsA j9)) (nI (lmA j9)) (nI (vsA j9)) := fun j9 hj0 => (hf_516 _ (by omega)).trans (hc_494 j9 (by omega))
        have hc_521 : ∀ j9 : Nat, j9 < 4 → σ_514 (46 + 8 * j9 + 1) = o7 G (46 + 8 * j9 + 1) (lN (nmA j9)) (lN (onA j9)) (nI (slA j9)) (nI (moA j9)) (nI (nbA j9)) := fun j9 hj0 => (hf_516 _ (by omega)).trans (hc_495 j9 (by omega))
        have hc_522 : ∀ j9 : Nat, j9 < 4 → σ_514 (46 + 8 * j9 + 2) = q_an G 5 (bmA j9) := fun j9 hj0 => (hf_516 _ (by omega)).trans (hc_496 j9 (by omega))
        have hc_523 : ∀ j9 : Nat, j9 < 4 → σ_514 (46 + 8 * j9 + 3) = q_an G 1681 (skA j9) := fun j9 hj0 => (hf_516 _ (by omega)).trans (hc_497 j9 (by omega))
        have hc_524 : ∀ j9 : Nat, j9 < 4 → σ_514 (46 + 8 * j9 + 4) = q_an G 1681 (s2A j9) := fun j9 hj0 => (hf_516 _ (by omega)).trans (hc_498 j9 (by omega))
        have hc_525 : ∀ j9 : Nat, j9 < 4 → σ_514 (46 + 8 * j9 + 5) = q_an G 1681 (vaA j9) := fun j9 hj0 => (hf_516 _ (by omega)).trans (hc_499 j9 (by omega))
        have hc_526 : ∀ j9 : Nat, j9 < 4 → σ_514 (46 + 8 * j9 + 6) = q_an G 1681 (spA j9) := fun j9 hj0 => (hf_516 _ (by omega)).trans (hc_500 j9 (by omega))
        have hc_527 : ∀ j9 : Nat, j9 < 4 → σ_514 (46 + 8 * j9 + 7) = q_an G 1681 (rfA j9) := fun j9 hj0 => (hf_516 _ (by omega)).trans (hc_501 j9 (by omega))
        have hc_528 : σ_514 26 = q_rn G 3 4 (fun j => some (25 + 10 + 2 * j)) := (hf_516 _ (by omega)).trans hc_502
        have hc_529 : σ_514 (27 + 1) = q_an G 8 kd := (hf_516 _ (by omega)).trans hc_503
        have hc_530 : σ_514 (27 + 4) = q_an G 8 tf := (hf_516 _ (by omega)).trans hc_504
        have hc_531 : σ_514 (27 + 5) = q_an G 8 ts := (hf_516 _ (by omega)).trans hc_505
        have hc_532 : ∀ j9 : Nat, j9 < 4 → σ_514 (25 + 10 + 2 * j9) = o7 G (25 + 10 + 2 * j9) (lN (nm j9)) (lN (on j9)) (nI (sl j9)) (nI (mo j9)) (nI (nb j9)) := fun j9 hj0 => (hf_516 _ (by omega)).trans (hc_506 j9 (by omega))
        have hc_533 : ∀ j9 : Nat, j9 < 4 → σ_514 (25 + 10 + 2 * j9 + 1) = q_an G 5 (bm j9) := fun j9 hj0 => (hf_516 _ (by omega)).trans (hc_507 j9 (by omega))
        have hc_534 : σ_514 (27 + 2) = q_an G 8 (va_up fi (x_pl (g 1) p) (fi (x_pl (g 1) p) - k)) := (hf_516 _ (by omega)).trans hc_508
        have hc_535 : σ_514 (27 + 3) = q_an G 8 (va_up se (x_pl (g 1) p) (se (x_pl (g 1) p) - l)) := (hf_516 _ (by omega)).trans hc_509
        have hc_536 : σ_514 27 = o6 G (27) (nI (s_take g p k l 1)) (nI (s_take g p k l 2)) := (hf_516 _ (by omega)).trans hc_510
        have hc_537 : σ_514 45 = o1 G (h0) (h1) (h2) (h3x_92) (h4x_93) := (hf_516 _ (by omega)).trans hc_511
        have hc_538 : σ_514 (25 + 8) = q_an G 10 (x_acP ac (g 3) (k + l) (s_over (s_take g p k l)) (s_tot (s_take g p k l)) (decide (s_tot g ≠ 0))) := (hf_516 _ (by omega)).trans hc_512
        have hc_539 : σ_514 (25 + 9) = q_an G 100 (fun j => if j < 5 then (if j = 0 then (g 3) else if j = 1 then p else if j = 2 then k else if j = 3 then l else (s_tot (s_take g p k l))) else tu (j - 5)) := (hf_516 _ (by omega)).trans hc_513
        obtain ⟨q0, q1, q2, q3, q4, q5, q6⟩ := x_play_hi (k := k) (l := l) hgw hpp
        refine A_canon (x_tuP tu (g 3) p k l (s_tot (s_take g p k l))) hc_539 (fun jj hj => rfl) (fun σ_540 hc_541 hf_542 => ?_)
        have hc_543 : σ_540 0 = o10 G (z1) (z2) (z3) := (hf_542 _ (by omega)).trans hc_517
        have hc_544 : σ_540 43 = o4 G (43)  := (hf_542 _ (by omega)).trans hc_518
        have hc_545 : σ_540 44 = q_rn G 4 4 (fun j => some (46 + 8 * j)) := (hf_542 _ (by omega)).trans hc_519
        have hc_546 : ∀ j9 : Nat, j9 < 4 → σ_540 (46 + 8 * j9) = o8 G (46 + 8 * j9) (nI (flA j9)) (nI (n0A j9)) (nI (gvA j9)) (nI (gsA j9)) (nI (lmA j9)) (nI (vsA j9)) := fun j9 hj0 => (hf_542 _ (by omega)).trans (hc_520 j9 (by omega))
        have hc_547 : ∀ j9 : Nat, j9 < 4 → σ_540 (46 + 8 * j9 + 1) = o7 G (46 + 8 * j9 + 1) (lN (nmA j9)) (lN (onA j9)) (nI (slA j9)) (nI (moA j9)) (nI (nbA j9)) := fun j9 hj0 => (hf_542 _ (by omega)).trans (hc_521 j9 (by omega))
        have hc_548 : ∀ j9 : Nat, j9 < 4 → σ_540 (46 + 8 * j9 + 2) = q_an G 5 (bmA j9) := fun j9 hj0 => (hf_542 _ (by omega)).trans (hc_522 j9 (by omega))
        have hc_549 : ∀ j9 : Nat, j9 < 4 → σ_540 (46 + 8 * j9 + 3) = q_an G 1681 (skA j9) := fun j9 hj0 => (hf_542 _ (by omega)).trans (hc_523 j9 (by omega))
        have hc_550 : ∀ j9 : Nat, j9 < 4 → σ_540 (46 + 8 * j9 + 4) = q_an G 1681 (s2A j9) := fun j9 hj0 => (hf_542 _ (by omega)).trans (hc_524 j9 (by omega))
        have hc_551 : ∀ j9 : Nat, j9 < 4 → σ_540 (46 + 8 * j9 + 5) = q_an G 1681 (vaA j9) := fun j9 hj0 => (hf_542 _ (by omega)).trans (hc_525 j9 (by omega))
        have hc_552 : ∀ j9 : Nat, j9 < 4 → σ_540 (46 + 8 * j9 + 6) = q_an G 1681 (spA j9) := fun j9 hj0 => (hf_542 _ (by omega)).trans (hc_526 j9 (by omega))
        have hc_553 : ∀ j9 : Nat, j9 < 4 → σ_540 (46 + 8 * j9 + 7) = q_an G 1681 (rfA j9) := fun j9 hj0 => (hf_542 _ (by omega)).trans (hc_527 j9 (by omega))
        have hc_554 : σ_540 26 = q_rn G 3 4 (fun j => some (25 + 10 + 2 * j)) := (hf_542 _ (by omega)).trans hc_528
        have hc_555 : σ_540 (27 + 1) = q_an G 8 kd := (hf_542 _ (by omega)).trans hc_529
        have hc_556 : σ_540 (27 + 4) = q_an G 8 tf := (hf_542 _ (by omega)).trans hc_530
        have hc_557 : σ_540 (27 + 5) = q_an G 8 ts := (hf_542 _ (by omega)).trans hc_531
        have hc_558 : ∀ j9 : Nat, j9 < 4 → σ_540 (25 + 10 + 2 * j9) = o7 G (25 + 10 + 2 * j9) (lN (nm j9)) (lN (on j9)) (nI (sl j9)) (nI (mo j9)) (nI (nb j9)) := fun j9 hj0 => (hf_542 _ (by omega)).trans (hc_532 j9 (by omega))
        have hc_559 : ∀ j9 : Nat, j9 < 4 → σ_540 (25 + 10 + 2 * j9 + 1) = q_an G 5 (bm j9) := fun j9 hj0 => (hf_542 _ (by omega)).trans (hc_533 j9 (by omega))
        have hc_560 : σ_540 (27 + 2) = q_an G 8 (va_up fi (x_pl (g 1) p) (fi (x_pl (g 1) p) - k)) := (hf_542 _ (by omega)).trans hc_534
        have hc_561 : σ_540 (27 + 3) = q_an G 8 (va_up se (x_pl (g 1) p) (se (x_pl (g 1) p) - l)) := (hf_542 _ (by omega)).trans hc_535
        have hc_562 : σ_540 27 = o6 G (27) (nI (s_take g p k l 1)) (nI (s_take g p k l 2)) := (hf_542 _ (by omega)).trans hc_536
        have hc_563 : σ_540 45 = o1 G (h0) (h1) (h2) (h3x_92) (h4x_93) := (hf_542 _ (by omega)).trans hc_537
        have hc_564 : σ_540 (25 + 8) = q_an G 10 (x_acP ac (g 3) (k + l) (s_over (s_take g p k l)) (s_tot (s_take g p k l)) (decide (s_tot g ≠ 0))) := (hf_542 _ (by omega)).trans hc_538
        have hc_565 : σ_540 25 = o0 G (25) (nI (g 0)) (nI (1 - (g 3))) (nI ((g 4) + 1)) (nI (g 5)) (nI (min ((g 6) + 1) 20)) := (hf_542 _ (by omega)).trans hc_515
        have hc_566 : σ_540 25 = o0 G (25) (nI (s_play g p k l 0)) (nI (s_play g p k l 3)) (nI (s_play g p k l 4)) (nI (s_play g p k l 5)) (nI (s_play g p k l 6)) := hc_565.trans (by rw [q0, q3, q4, q5, q6])
        have hc_567 : σ_540 27 = o6 G (27) (nI (s_play g p k l 1)) (nI (s_play g p k l 2)) := hc_562.trans (by rw [ek1, ek2, q1, q2])
        refine A_iload hg dX10_makeTurn_165 rfl ?_
        rw [hQ]
        exact A_ireturn hg (by decide) (by decide) rfl dX10_makeTurn_167 ⟨rfl, ⟨(h3x_92), (h4x_93), rfl, ⟨_, _, _, _, _, _, _, _, _, _, _, _, _, ⟨hc_566, hc_554, hc_567, hc_555, hc_560, hc_561, hc_556, hc_557, hc_564, hc_541, hc_558, hc_559⟩, x_gr_play hpp hgr0⟩, hc_563, (fun i hi => ((hf_542 i (by omega)).trans ((hf_516 i (by omega)).trans ((hf_490 i (by omega)).trans ((hf_464 i (by omega)).trans ((hf_438 i (by omega)).trans ((hf_411 i (by omega)).trans ((hf_95 i (by omega)).trans ((hf_67 i (by omega)).trans ((hf_41 i (by omega)).trans (hf_15 i (by omega))))))))))))⟩⟩
      · skip
        refine A_aload_n hg dX10_makeTurn_97 rfl rfl ?_
        refine A_getf (v := .ref (q_h G + 25)) hg fl_RX10_40 dX10_makeTurn_98 hc_413 (by omega) rfl ?_
        refine A_iconst (v := (nI (3))) hg dX10_makeTurn_101 (by decide) ?_
        refine A_iconst (v := (nI (1))) hg dX10_makeTurn_102 (by decide) ?_
        refine A_vV (kc2 := 0) (ks2 := 0) (As := [.int (nI (3)), .int (nI (1))]) (rest := []) hg lk_RX10_396 in_X0_addToAccount se_X0_addToAccount rfl dX10_makeTurn_103 ⟨by decide, by decide⟩ rfl rfl ⟨by decide, by decide⟩ hc_424 (by omega) rfl rfl (Nat.le_of_ble_eq_true rfl) (c_X0_addToAccount G ex n σ_412 25 (g 0) (g 3) (g 4) (g 5) (g 6) (va_up (va_up (va_up ac ((g 3) * 5 + 0) (ac ((g 3) * 5 + 0) + 1)) ((g 3) * 5 + 1) ((va_up ac ((g 3) * 5 + 0) (ac ((g 3) * 5 + 0) + 1)) ((g 3) * 5 + 1) + (k + l))) ((g 3) * 5 + 2) ((va_up (va_up ac ((g 3) * 5 + 0) (ac ((g 3) * 5 + 0) + 1)) ((g 3) * 5 + 1) ((va_up ac ((g 3) * 5 + 0) (ac ((g 3) * 5 + 0) + 1)) ((g 3) * 5 + 1) + (k + l))) ((g 3) * 5 + 2) + 1)) 3 1 hc_424 hc_410 (by omega) (by omega) (by omega)) ?_
        rintro σ_570 ⟨hc_568, hf_569⟩
        have hc_571 : σ_570 0 = o10 G (z1) (z2) (z3) := (hf_569 _ (by omega)).trans hc_413
        have hc_572 : σ_570 43 = o4 G (43)  := (hf_569 _ (by omega)).trans hc_414
        have hc_573 : σ_570 44 = q_rn G 4 4 (fun j => some (46 + 8 * j)) := (hf_569 _ (by omega)).trans hc_415
        have hc_574 : ∀ j9 : Nat, j9 < 4 → σ_570 (46 + 8 * j9) = o8 G (46 + 8 * j9) (nI (flA j9)) (nI (n0A j9)) (nI (gvA j9)) (nI (gsA j9)) (nI (lmA j9)) (nI (vsA j9)) := fun j9 hj0 => (hf_569 _ (by omega)).trans (hc_416 j9 (by omega))
        have hc_575 : ∀ j9 : Nat, j9 < 4 → σ_570 (46 + 8 * j9 + 1) = o7 G (46 + 8 * j9 + 1) (lN (nmA j9)) (lN (onA j9)) (nI (slA j9)) (nI (moA j9)) (nI (nbA j9)) := fun j9 hj0 => (hf_569 _ (by omega)).trans (hc_417 j9 (by omega))
        have hc_576 : ∀ j9 : Nat, j9 < 4 → σ_570 (46 + 8 * j9 + 2) = q_an G 5 (bmA j9) := fun j9 hj0 => (hf_569 _ (by omega)).trans (hc_418 j9 (by omega))
        have hc_577 : ∀ j9 : Nat, j9 < 4 → σ_570 (46 + 8 * j9 + 3) = q_an G 1681 (skA j9) := fun j9 hj0 => (hf_569 _ (by omega)).trans (hc_419 j9 (by omega))
        have hc_578 : ∀ j9 : Nat, j9 < 4 → σ_570 (46 + 8 * j9 + 4) = q_an G 1681 (s2A j9) := fun j9 hj0 => (hf_569 _ (by omega)).trans (hc_420 j9 (by omega))
        have hc_579 : ∀ j9 : Nat, j9 < 4 → σ_570 (46 + 8 * j9 + 5) = q_an G 1681 (vaA j9) := fun j9 hj0 => (hf_569 _ (by omega)).trans (hc_421 j9 (by omega))
        have hc_580 : ∀ j9 : Nat, j9 < 4 → σ_570 (46 + 8 * j9 + 6) = q_an G 1681 (spA j9) := fun j9 hj0 => (hf_569 _ (by omega)).trans (hc_422 j9 (by omega))
        have hc_581 : ∀ j9 : Nat, j9 < 4 → σ_570 (46 + 8 * j9 + 7) = q_an G 1681 (rfA j9) := fun j9 hj0 => (hf_569 _ (by omega)).trans (hc_423 j9 (by omega))
        have hc_582 : σ_570 25 = o0 G (25) (nI (g 0)) (nI (g 3)) (nI (g 4)) (nI (g 5)) (nI (g 6)) := (hf_569 _ (by omega)).trans hc_424
        have hc_583 : σ_570 26 = q_rn G 3 4 (fun j => some (25 + 10 + 2 * j)) := (hf_569 _ (by omega)).trans hc_425
        have hc_584 : σ_570 (27 + 1) = q_an G 8 kd := (hf_569 _ (by omega)).trans hc_426
        have hc_585 : σ_570 (27 + 4) = q_an G 8 tf := (hf_569 _ (by omega)).trans hc_427
        have hc_586 : σ_570 (27 + 5) = q_an G 8 ts := (hf_569 _ (by omega)).trans hc_428
        have hc_587 : σ_570 (25 + 9) = q_an G 100 tu := (hf_569 _ (by omega)).trans hc_429
        have hc_588 : ∀ j9 : Nat, j9 < 4 → σ_570 (25 + 10 + 2 * j9) = o7 G (25 + 10 + 2 * j9) (lN (nm j9)) (lN (on j9)) (nI (sl j9)) (nI (mo j9)) (nI (nb j9)) := fun j9 hj0 => (hf_569 _ (by omega)).trans (hc_430 j9 (by omega))
        have hc_589 : ∀ j9 : Nat, j9 < 4 → σ_570 (25 + 10 + 2 * j9 + 1) = q_an G 5 (bm j9) := fun j9 hj0 => (hf_569 _ (by omega)).trans (hc_431 j9 (by omega))
        have hc_590 : σ_570 (27 + 2) = q_an G 8 (va_up fi (x_pl (g 1) p) (fi (x_pl (g 1) p) - k)) := (hf_569 _ (by omega)).trans hc_432
        have hc_591 : σ_570 (27 + 3) = q_an G 8 (va_up se (x_pl (g 1) p) (se (x_pl (g 1) p) - l)) := (hf_569 _ (by omega)).trans hc_433
        have hc_592 : σ_570 27 = o6 G (27) (nI (s_take g p k l 1)) (nI (s_take g p k l 2)) := (hf_569 _ (by omega)).trans hc_434
        have hc_593 : σ_570 45 = o1 G (h0) (h1) (h2) (h3x_92) (h4x_93) := (hf_569 _ (by omega)).trans hc_435
        refine A_goto (tgt := 123) hg dX10_makeTurn_106 (by decide) ?_
        refine A_canon (x_acP ac (g 3) (k + l) (s_over (s_take g p k l)) (s_tot (s_take g p k l)) (decide (s_tot g ≠ 0))) hc_568 (fun jj hj => by unfold x_acP; rw [if_pos c94, if_pos c80]; rfl) (fun σ_594 hc_595 hf_596 => ?_)
        have hc_597 : σ_594 0 = o10 G (z1) (z2) (z3) := (hf_596 _ (by omega)).trans hc_571
        have hc_598 : σ_594 43 = o4 G (43)  := (hf_596 _ (by omega)).trans hc_572
        have hc_599 : σ_594 44 = q_rn G 4 4 (fun j => some (46 + 8 * j)) := (hf_596 _ (by omega)).trans hc_573
        have hc_600 : ∀ j9 : Nat, j9 < 4 → σ_594 (46 + 8 * j9) = o8 G (46 + 8 * j9) (nI (flA j9)) (nI (n0A j9)) (nI (gvA j9)) (nI (gsA j9)) (nI (lmA j9)) (nI (vsA j9)) := fun j9 hj0 => (hf_596 _ (by omega)).trans (hc_574 j9 (by omega))
        have hc_601 : ∀ j9 : Nat, j9 < 4 → σ_594 (46 + 8 * j9 + 1) = o7 G (46 + 8 * j9 + 1) (lN (nmA j9)) (lN (onA j9)) (nI (slA j9)) (nI (moA j9)) (nI (nbA j9)) := fun j9 hj0 => (hf_596 _ (by omega)).trans (hc_575 j9 (by omega))
        have hc_602 : ∀ j9 : Nat, j9 < 4 → σ_594 (46 + 8 * j9 + 2) = q_an G 5 (bmA j9) := fun j9 hj0 => (hf_596 _ (by omega)).trans (hc_576 j9 (by omega))
        have hc_603 : ∀ j9 : Nat, j9 < 4 → σ_594 (46 + 8 * j9 + 3) = q_an G 1681 (skA j9) := fun j9 hj0 => (hf_596 _ (by omega)).trans (hc_577 j9 (by omega))
        have hc_604 : ∀ j9 : Nat, j9 < 4 → σ_594 (46 + 8 * j9 + 4) = q_an G 1681 (s2A j9) := fun j9 hj0 => (hf_596 _ (by omega)).trans (hc_578 j9 (by omega))
        have hc_605 : ∀ j9 : Nat, j9 < 4 → σ_594 (46 + 8 * j9 + 5) = q_an G 1681 (vaA j9) := fun j9 hj0 => (hf_596 _ (by omega)).trans (hc_579 j9 (by omega))
        have hc_606 : ∀ j9 : Nat, j9 < 4 → σ_594 (46 + 8 * j9 + 6) = q_an G 1681 (spA j9) := fun j9 hj0 => (hf_596 _ (by omega)).trans (hc_580 j9 (by omega))
        have hc_607 : ∀ j9 : Nat, j9 < 4 → σ_594 (46 + 8 * j9 + 7) = q_an G 1681 (rfA j9) := fun j9 hj0 => (hf_596 _ (by omega)).trans (hc_581 j9 (by omega))
        have hc_608 : σ_594 25 = o0 G (25) (nI (g 0)) (nI (g 3)) (nI (g 4)) (nI (g 5)) (nI (g 6)) := (hf_596 _ (by omega)).trans hc_582
        have hc_609 : σ_594 26 = q_rn G 3 4 (fun j => some (25 + 10 + 2 * j)) := (hf_596 _ (by omega)).trans hc_583
        have hc_610 : σ_594 (27 + 1) = q_an G 8 kd := (hf_596 _ (by omega)).trans hc_584
        have hc_611 : σ_594 (27 + 4) = q_an G 8 tf := (hf_596 _ (by omega)).trans hc_585
        have hc_612 : σ_594 (27 + 5) = q_an G 8 ts := (hf_596 _ (by omega)).trans hc_586
        have hc_613 : σ_594 (25 + 9) = q_an G 100 tu := (hf_596 _ (by omega)).trans hc_587
        have hc_614 : ∀ j9 : Nat, j9 < 4 → σ_594 (25 + 10 + 2 * j9) = o7 G (25 + 10 + 2 * j9) (lN (nm j9)) (lN (on j9)) (nI (sl j9)) (nI (mo j9)) (nI (nb j9)) := fun j9 hj0 => (hf_596 _ (by omega)).trans (hc_588 j9 (by omega))
        have hc_615 : ∀ j9 : Nat, j9 < 4 → σ_594 (25 + 10 + 2 * j9 + 1) = q_an G 5 (bm j9) := fun j9 hj0 => (hf_596 _ (by omega)).trans (hc_589 j9 (by omega))
        have hc_616 : σ_594 (27 + 2) = q_an G 8 (va_up fi (x_pl (g 1) p) (fi (x_pl (g 1) p) - k)) := (hf_596 _ (by omega)).trans hc_590
        have hc_617 : σ_594 (27 + 3) = q_an G 8 (va_up se (x_pl (g 1) p) (se (x_pl (g 1) p) - l)) := (hf_596 _ (by omega)).trans hc_591
        have hc_618 : σ_594 27 = o6 G (27) (nI (s_take g p k l 1)) (nI (s_take g p k l 2)) := (hf_596 _ (by omega)).trans hc_592
        have hc_619 : σ_594 45 = o1 G (h0) (h1) (h2) (h3x_92) (h4x_93) := (hf_596 _ (by omega)).trans hc_593
        refine A_aload_n hg dX10_makeTurn_123 rfl rfl ?_
        refine A_getf (v := .ref (q_h G + 25)) hg fl_RX10_40 dX10_makeTurn_124 hc_597 (by omega) rfl ?_
        refine A_iload_n hg dX10_makeTurn_127 rfl rfl ?_
        refine A_iload_n hg dX10_makeTurn_128 rfl rfl ?_
        refine A_iload hg dX10_makeTurn_129 rfl ?_
        refine A_iload hg dX10_makeTurn_131 rfl ?_
        refine A_vV (kc2 := 0) (ks2 := 0) (As := [.int (nI (p)), .int (nI (k)), .int (nI (l)), .int (nI (s_tot (s_take g p k l)))]) (rest := []) hg lk_RX10_399 in_X0_keepTurn se_X0_keepTurn rfl dX10_makeTurn_133 ⟨by decide, by decide⟩ rfl rfl ⟨by decide, by decide⟩ hc_608 (by omega) rfl rfl (Nat.le_of_ble_eq_true rfl) (c_X0_keepTurn G ex n σ_594 25 (g 0) (g 3) (g 4) (g 5) (g 6) tu p k l (s_tot (s_take g p k l)) hc_608 hc_613 (by omega) (by omega)) ?_
        rintro σ_623 ⟨hc_620, hc_621, hf_622⟩
        have hc_624 : σ_623 0 = o10 G (z1) (z2) (z3) := (hf_622 _ (by omega)).trans hc_597
        have hc_625 : σ_623 43 = o4 G (43)  := (hf_622 _ (by omega)).trans hc_598
        have hc_626 : σ_623 44 = q_rn G 4 4 (fun j => some (46 + 8 * j)) := (hf_622 _ (by omega)).trans hc_599
        have hc_627 : ∀ j9 : Nat, j9 < 4 → σ_623 (46 + 8 * j9) = o8 G (46 + 8 * j9) (nI (flA j9)) (nI (n0A j9)) (nI (gvA j9)) (nI (gsA j9)) (nI (lmA j9)) (nI (vsA j9)) := fun j9 hj0 => (hf_622 _ (by omega)).trans (hc_600 j9 (by omega))
        have hc_628 : ∀ j9 : Nat, j9 < 4 → σ_623 (46 + 8 * j9 + 1) = o7 G (46 + 8 * j9 + 1) (lN (nmA j9)) (lN (onA j9)) (nI (slA j9)) (nI (moA j9)) (nI (nbA j9)) := fun j9 hj0 => (hf_622 _ (by omega)).trans (hc_601 j9 (by omega))
        have hc_629 : ∀ j9 : Nat, j9 < 4 → σ_623 (46 + 8 * j9 + 2) = q_an G 5 (bmA j9) := fun j9 hj0 => (hf_622 _ (by omega)).trans (hc_602 j9 (by omega))
        have hc_630 : ∀ j9 : Nat, j9 < 4 → σ_623 (46 + 8 * j9 + 3) = q_an G 1681 (skA j9) := fun j9 hj0 => (hf_622 _ (by omega)).trans (hc_603 j9 (by omega))
        have hc_631 : ∀ j9 : Nat, j9 < 4 → σ_623 (46 + 8 * j9 + 4) = q_an G 1681 (s2A j9) := fun j9 hj0 => (hf_622 _ (by omega)).trans (hc_604 j9 (by omega))
        have hc_632 : ∀ j9 : Nat, j9 < 4 → σ_623 (46 + 8 * j9 + 5) = q_an G 1681 (vaA j9) := fun j9 hj0 => (hf_622 _ (by omega)).trans (hc_605 j9 (by omega))
        have hc_633 : ∀ j9 : Nat, j9 < 4 → σ_623 (46 + 8 * j9 + 6) = q_an G 1681 (spA j9) := fun j9 hj0 => (hf_622 _ (by omega)).trans (hc_606 j9 (by omega))
        have hc_634 : ∀ j9 : Nat, j9 < 4 → σ_623 (46 + 8 * j9 + 7) = q_an G 1681 (rfA j9) := fun j9 hj0 => (hf_622 _ (by omega)).trans (hc_607 j9 (by omega))
        have hc_635 : σ_623 26 = q_rn G 3 4 (fun j => some (25 + 10 + 2 * j)) := (hf_622 _ (by omega)).trans hc_609
        have hc_636 : σ_623 (27 + 1) = q_an G 8 kd := (hf_622 _ (by omega)).trans hc_610
        have hc_637 : σ_623 (27 + 4) = q_an G 8 tf := (hf_622 _ (by omega)).trans hc_611
        have hc_638 : σ_623 (27 + 5) = q_an G 8 ts := (hf_622 _ (by omega)).trans hc_612
        have hc_639 : ∀ j9 : Nat, j9 < 4 → σ_623 (25 + 10 + 2 * j9) = o7 G (25 + 10 + 2 * j9) (lN (nm j9)) (lN (on j9)) (nI (sl j9)) (nI (mo j9)) (nI (nb j9)) := fun j9 hj0 => (hf_622 _ (by omega)).trans (hc_614 j9 (by omega))
        have hc_640 : ∀ j9 : Nat, j9 < 4 → σ_623 (25 + 10 + 2 * j9 + 1) = q_an G 5 (bm j9) := fun j9 hj0 => (hf_622 _ (by omega)).trans (hc_615 j9 (by omega))
        have hc_641 : σ_623 (27 + 2) = q_an G 8 (va_up fi (x_pl (g 1) p) (fi (x_pl (g 1) p) - k)) := (hf_622 _ (by omega)).trans hc_616
        have hc_642 : σ_623 (27 + 3) = q_an G 8 (va_up se (x_pl (g 1) p) (se (x_pl (g 1) p) - l)) := (hf_622 _ (by omega)).trans hc_617
        have hc_643 : σ_623 27 = o6 G (27) (nI (s_take g p k l 1)) (nI (s_take g p k l 2)) := (hf_622 _ (by omega)).trans hc_618
        have hc_644 : σ_623 45 = o1 G (h0) (h1) (h2) (h3x_92) (h4x_93) := (hf_622 _ (by omega)).trans hc_619
        have hc_645 : σ_623 (25 + 8) = q_an G 10 (x_acP ac (g 3) (k + l) (s_over (s_take g p k l)) (s_tot (s_take g p k l)) (decide (s_tot g ≠ 0))) := (hf_622 _ (by omega)).trans hc_595
        refine A_aload_n hg dX10_makeTurn_136 rfl rfl ?_
        refine A_getf (v := .ref (q_h G + 25)) hg fl_RX10_40 dX10_makeTurn_137 hc_624 (by omega) rfl ?_
        refine A_dup hg dX10_makeTurn_140 rfl ?_
        refine A_getf (v := .int (nI (g 4))) hg fl_RX10_137 dX10_makeTurn_141 hc_620 (by omega) rfl ?_
        refine A_iconst (v := (nI (1))) hg dX10_makeTurn_144 (by decide) ?_
        refine A_iaddN hg dX10_makeTurn_145 ?_
        refine A_putf hg fl_RX10_137 dX10_makeTurn_146 hc_620 (by omega) (Nat.le_of_ble_eq_true rfl) rfl rfl rfl (fun σ_646 hc_647 hf_648 => ?_)
        have hc_647 : σ_646 25 = o0 G (25) (nI (g 0)) (nI (g 3)) (nI ((g 4) + 1)) (nI (g 5)) (nI (min ((g 6) + 1) 20)) := hc_647
        have hc_649 : σ_646 0 = o10 G (z1) (z2) (z3) := (hf_648 _ (by omega)).trans hc_624
        have hc_650 : σ_646 43 = o4 G (43)  := (hf_648 _ (by omega)).trans hc_625
        have hc_651 : σ_646 44 = q_rn G 4 4 (fun j => some (46 + 8 * j)) := (hf_648 _ (by omega)).trans hc_626
        have hc_652 : ∀ j9 : Nat, j9 < 4 → σ_646 (46 + 8 * j9) = o8 G (46 + 8 * j9) (nI (flA j9)) (nI (n0A j9)) (nI (gvA j9)) (nI (gsA j9)) (nI (lmA j9)) (nI (vsA j9)) := fun j9 hj0 => (hf_648 _ (by omega)).trans (hc_627 j9 (by omega))
        have hc_653 : ∀ j9 : Nat, j9 < 4 → σ_646 (46 + 8 * j9 + 1) = o7 G (46 + 8 * j9 + 1) (lN (nmA j9)) (lN (onA j9)) (nI (slA j9)) (nI (moA j9)) (nI (nbA j9)) := fun j9 hj0 => (hf_648 _ (by omega)).trans (hc_628 j9 (by omega))
        have hc_654 : ∀ j9 : Nat, j9 < 4 → σ_646 (46 + 8 * j9 + 2) = q_an G 5 (bmA j9) := fun j9 hj0 => (hf_648 _ (by omega)).trans (hc_629 j9 (by omega))
        have hc_655 : ∀ j9 : Nat, j9 < 4 → σ_646 (46 + 8 * j9 + 3) = q_an G 1681 (skA j9) := fun j9 hj0 => (hf_648 _ (by omega)).trans (hc_630 j9 (by omega))
        have hc_656 : ∀ j9 : Nat, j9 < 4 → σ_646 (46 + 8 * j9 + 4) = q_an G 1681 (s2A j9) := fun j9 hj0 => (hf_648 _ (by omega)).trans (hc_631 j9 (by omega))
        have hc_657 : ∀ j9 : Nat, j9 < 4 → σ_646 (46 + 8 * j9 + 5) = q_an G 1681 (vaA j9) := fun j9 hj0 => (hf_648 _ (by omega)).trans (hc_632 j9 (by omega))
        have hc_658 : ∀ j9 : Nat, j9 < 4 → σ_646 (46 + 8 * j9 + 6) = q_an G 1681 (spA j9) := fun j9 hj0 => (hf_648 _ (by omega)).trans (hc_633 j9 (by omega))
        have hc_659 : ∀ j9 : Nat, j9 < 4 → σ_646 (46 + 8 * j9 + 7) = q_an G 1681 (rfA j9) := fun j9 hj0 => (hf_648 _ (by omega)).trans (hc_634 j9 (by omega))
        have hc_660 : σ_646 26 = q_rn G 3 4 (fun j => some (25 + 10 + 2 * j)) := (hf_648 _ (by omega)).trans hc_635
        have hc_661 : σ_646 (27 + 1) = q_an G 8 kd := (hf_648 _ (by omega)).trans hc_636
        have hc_662 : σ_646 (27 + 4) = q_an G 8 tf := (hf_648 _ (by omega)).trans hc_637
        have hc_663 : σ_646 (27 + 5) = q_an G 8 ts := (hf_648 _ (by omega)).trans hc_638
        have hc_664 : ∀ j9 : Nat, j9 < 4 → σ_646 (25 + 10 + 2 * j9) = o7 G (25 + 10 + 2 * j9) (lN (nm j9)) (lN (on j9)) (nI (sl j9)) (nI (mo j9)) (nI (nb j9)) := fun j9 hj0 => (hf_648 _ (by omega)).trans (hc_639 j9 (by omega))
        have hc_665 : ∀ j9 : Nat, j9 < 4 → σ_646 (25 + 10 + 2 * j9 + 1) = q_an G 5 (bm j9) := fun j9 hj0 => (hf_648 _ (by omega)).trans (hc_640 j9 (by omega))
        have hc_666 : σ_646 (27 + 2) = q_an G 8 (va_up fi (x_pl (g 1) p) (fi (x_pl (g 1) p) - k)) := (hf_648 _ (by omega)).trans hc_641
        have hc_667 : σ_646 (27 + 3) = q_an G 8 (va_up se (x_pl (g 1) p) (se (x_pl (g 1) p) - l)) := (hf_648 _ (by omega)).trans hc_642
        have hc_668 : σ_646 27 = o6 G (27) (nI (s_take g p k l 1)) (nI (s_take g p k l 2)) := (hf_648 _ (by omega)).trans hc_643
        have hc_669 : σ_646 45 = o1 G (h0) (h1) (h2) (h3x_92) (h4x_93) := (hf_648 _ (by omega)).trans hc_644
        have hc_670 : σ_646 (25 + 8) = q_an G 10 (x_acP ac (g 3) (k + l) (s_over (s_take g p k l)) (s_tot (s_take g p k l)) (decide (s_tot g ≠ 0))) := (hf_648 _ (by omega)).trans hc_645
        have hc_671 : σ_646 (25 + 9) = q_an G 100 (fun j => if j < 5 then (if j = 0 then (g 3) else if j = 1 then p else if j = 2 then k else if j = 3 then l else (s_tot (s_take g p k l))) else tu (j - 5)) := (hf_648 _ (by omega)).trans hc_621
        refine A_aload_n hg dX10_makeTurn_149 rfl rfl ?_
        refine A_getf (v := .ref (q_h G + 25)) hg fl_RX10_40 dX10_makeTurn_150 hc_649 (by omega) rfl ?_
        refine A_iconst (v := (nI (1))) hg dX10_makeTurn_153 (by decide) ?_
        refine A_aload_n hg dX10_makeTurn_154 rfl rfl ?_
        refine A_getf (v := .ref (q_h G + 25)) hg fl_RX10_40 dX10_makeTurn_155 hc_649 (by omega) rfl ?_
        refine A_getf (v := .int (nI (g 3))) hg fl_RX10_134 dX10_makeTurn_158 hc_647 (by omega) rfl ?_
        refine A_isubN hg dX10_makeTurn_161 (by omega) ?_
        refine A_putf hg fl_RX10_134 dX10_makeTurn_162 hc_647 (by omega) (Nat.le_of_ble_eq_true rfl) rfl rfl rfl (fun σ_672 hc_673 hf_674 => ?_)
        have hc_673 : σ_672 25 = o0 G (25) (nI (g 0)) (nI (1 - (g 3))) (nI ((g 4) + 1)) (nI (g 5)) (nI (min ((g 6) + 1) 20)) := hc_673
        have hc_675 : σ_672 0 = o10 G (z1) (z2) (z3) := (hf_674 _ (by omega)).trans hc_649
        have hc_676 : σ_672 43 = o4 G (43)  := (hf_674 _ (by omega)).trans hc_650
        have hc_677 : σ_672 44 = q_rn G 4 4 (fun j => some (46 + 8 * j)) := (hf_674 _ (by omega)).trans hc_651
        have hc_678 : ∀ j9 : Nat, j9 < 4 → σ_672 (46 + 8 * j9) = o8 G (46 + 8 * j9) (nI (flA j9)) (nI (n0A j9)) (nI (gvA j9)) (nI (gsA j9)) (nI (lmA j9)) (nI (vsA j9)) := fun j9 hj0 => (hf_674 _ (by omega)).trans (hc_652 j9 (by omega))
        have hc_679 : ∀ j9 : Nat, j9 < 4 → σ_672 (46 + 8 * j9 + 1) = o7 G (46 + 8 * j9 + 1) (lN (nmA j9)) (lN (onA j9)) (nI (slA j9)) (nI (moA j9)) (nI (nbA j9)) := fun j9 hj0 => (hf_674 _ (by omega)).trans (hc_653 j9 (by omega))
        have hc_680 : ∀ j9 : Nat, j9 < 4 → σ_672 (46 + 8 * j9 + 2) = q_an G 5 (bmA j9) := fun j9 hj0 => (hf_674 _ (by omega)).trans (hc_654 j9 (by omega))
        have hc_681 : ∀ j9 : Nat, j9 < 4 → σ_672 (46 + 8 * j9 + 3) = q_an G 1681 (skA j9) := fun j9 hj0 => (hf_674 _ (by omega)).trans (hc_655 j9 (by omega))
        have hc_682 : ∀ j9 : Nat, j9 < 4 → σ_672 (46 + 8 * j9 + 4) = q_an G 1681 (s2A j9) := fun j9 hj0 => (hf_674 _ (by omega)).trans (hc_656 j9 (by omega))
        have hc_683 : ∀ j9 : Nat, j9 < 4 → σ_672 (46 + 8 * j9 + 5) = q_an G 1681 (vaA j9) := fun j9 hj0 => (hf_674 _ (by omega)).trans (hc_657 j9 (by omega))
        have hc_684 : ∀ j9 : Nat, j9 < 4 → σ_672 (46 + 8 * j9 + 6) = q_an G 1681 (spA j9) := fun j9 hj0 => (hf_674 _ (by omega)).trans (hc_658 j9 (by omega))
        have hc_685 : ∀ j9 : Nat, j9 < 4 → σ_672 (46 + 8 * j9 + 7) = q_an G 1681 (rfA j9) := fun j9 hj0 => (hf_674 _ (by omega)).trans (hc_659 j9 (by omega))
        have hc_686 : σ_672 26 = q_rn G 3 4 (fun j => some (25 + 10 + 2 * j)) := (hf_674 _ (by omega)).trans hc_660
        have hc_687 : σ_672 (27 + 1) = q_an G 8 kd := (hf_674 _ (by omega)).trans hc_661
        have hc_688 : σ_672 (27 + 4) = q_an G 8 tf := (hf_674 _ (by omega)).trans hc_662
        have hc_689 : σ_672 (27 + 5) = q_an G 8 ts := (hf_674 _ (by omega)).trans hc_663
        have hc_690 : ∀ j9 : Nat, j9 < 4 → σ_672 (25 + 10 + 2 * j9) = o7 G (25 + 10 + 2 * j9) (lN (nm j9)) (lN (on j9)) (nI (sl j9)) (nI (mo j9)) (nI (nb j9)) := fun j9 hj0 => (hf_674 _ (by omega)).trans (hc_664 j9 (by omega))
        have hc_691 : ∀ j9 : Nat, j9 < 4 → σ_672 (25 + 10 + 2 * j9 + 1) = q_an G 5 (bm j9) := fun j9 hj0 => (hf_674 _ (by omega)).trans (hc_665 j9 (by omega))
        have hc_692 : σ_672 (27 + 2) = q_an G 8 (va_up fi (x_pl (g 1) p) (fi (x_pl (g 1) p) - k)) := (hf_674 _ (by omega)).trans hc_666
        have hc_693 : σ_672 (27 + 3) = q_an G 8 (va_up se (x_pl (g 1) p) (se (x_pl (g 1) p) - l)) := (hf_674 _ (by omega)).trans hc_667
        have hc_694 : σ_672 27 = o6 G (27) (nI (s_take g p k l 1)) (nI (s_take g p k l 2)) := (hf_674 _ (by omega)).trans hc_668
        have hc_695 : σ_672 45 = o1 G (h0) (h1) (h2) (h3x_92) (h4x_93) := (hf_674 _ (by omega)).trans hc_669
        have hc_696 : σ_672 (25 + 8) = q_an G 10 (x_acP ac (g 3) (k + l) (s_over (s_take g p k l)) (s_tot (s_take g p k l)) (decide (s_tot g ≠ 0))) := (hf_674 _ (by omega)).trans hc_670
        have hc_697 : σ_672 (25 + 9) = q_an G 100 (fun j => if j < 5 then (if j = 0 then (g 3) else if j = 1 then p else if j = 2 then k else if j = 3 then l else (s_tot (s_take g p k l))) else tu (j - 5)) := (hf_674 _ (by omega)).trans hc_671
        obtain ⟨q0, q1, q2, q3, q4, q5, q6⟩ := x_play_hi (k := k) (l := l) hgw hpp
        refine A_canon (x_tuP tu (g 3) p k l (s_tot (s_take g p k l))) hc_697 (fun jj hj => rfl) (fun σ_698 hc_699 hf_700 => ?_)
        have hc_701 : σ_698 0 = o10 G (z1) (z2) (z3) := (hf_700 _ (by omega)).trans hc_675
        have hc_702 : σ_698 43 = o4 G (43)  := (hf_700 _ (by omega)).trans hc_676
        have hc_703 : σ_698 44 = q_rn G 4 4 (fun j => some (46 + 8 * j)) := (hf_700 _ (by omega)).trans hc_677
        have hc_704 : ∀ j9 : Nat, j9 < 4 → σ_698 (46 + 8 * j9) = o8 G (46 + 8 * j9) (nI (flA j9)) (nI (n0A j9)) (nI (gvA j9)) (nI (gsA j9)) (nI (lmA j9)) (nI (vsA j9)) := fun j9 hj0 => (hf_700 _ (by omega)).trans (hc_678 j9 (by omega))
        have hc_705 : ∀ j9 : Nat, j9 < 4 → σ_698 (46 + 8 * j9 + 1) = o7 G (46 + 8 * j9 + 1) (lN (nmA j9)) (lN (onA j9)) (nI (slA j9)) (nI (moA j9)) (nI (nbA j9)) := fun j9 hj0 => (hf_700 _ (by omega)).trans (hc_679 j9 (by omega))
        have hc_706 : ∀ j9 : Nat, j9 < 4 → σ_698 (46 + 8 * j9 + 2) = q_an G 5 (bmA j9) := fun j9 hj0 => (hf_700 _ (by omega)).trans (hc_680 j9 (by omega))
        have hc_707 : ∀ j9 : Nat, j9 < 4 → σ_698 (46 + 8 * j9 + 3) = q_an G 1681 (skA j9) := fun j9 hj0 => (hf_700 _ (by omega)).trans (hc_681 j9 (by omega))
        have hc_708 : ∀ j9 : Nat, j9 < 4 → σ_698 (46 + 8 * j9 + 4) = q_an G 1681 (s2A j9) := fun j9 hj0 => (hf_700 _ (by omega)).trans (hc_682 j9 (by omega))
        have hc_709 : ∀ j9 : Nat, j9 < 4 → σ_698 (46 + 8 * j9 + 5) = q_an G 1681 (vaA j9) := fun j9 hj0 => (hf_700 _ (by omega)).trans (hc_683 j9 (by omega))
        have hc_710 : ∀ j9 : Nat, j9 < 4 → σ_698 (46 + 8 * j9 + 6) = q_an G 1681 (spA j9) := fun j9 hj0 => (hf_700 _ (by omega)).trans (hc_684 j9 (by omega))
        have hc_711 : ∀ j9 : Nat, j9 < 4 → σ_698 (46 + 8 * j9 + 7) = q_an G 1681 (rfA j9) := fun j9 hj0 => (hf_700 _ (by omega)).trans (hc_685 j9 (by omega))
        have hc_712 : σ_698 26 = q_rn G 3 4 (fun j => some (25 + 10 + 2 * j)) := (hf_700 _ (by omega)).trans hc_686
        have hc_713 : σ_698 (27 + 1) = q_an G 8 kd := (hf_700 _ (by omega)).trans hc_687
        have hc_714 : σ_698 (27 + 4) = q_an G 8 tf := (hf_700 _ (by omega)).trans hc_688
        have hc_715 : σ_698 (27 + 5) = q_an G 8 ts := (hf_700 _ (by omega)).trans hc_689
        have hc_716 : ∀ j9 : Nat, j9 < 4 → σ_698 (25 + 10 + 2 * j9) = o7 G (25 + 10 + 2 * j9) (lN (nm j9)) (lN (on j9)) (nI (sl j9)) (nI (mo j9)) (nI (nb j9)) := fun j9 hj0 => (hf_700 _ (by omega)).trans (hc_690 j9 (by omega))
        have hc_717 : ∀ j9 : Nat, j9 < 4 → σ_698 (25 + 10 + 2 * j9 + 1) = q_an G 5 (bm j9) := fun j9 hj0 => (hf_700 _ (by omega)).trans (hc_691 j9 (by omega))
        have hc_718 : σ_698 (27 + 2) = q_an G 8 (va_up fi (x_pl (g 1) p) (fi (x_pl (g 1) p) - k)) := (hf_700 _ (by omega)).trans hc_692
        have hc_719 : σ_698 (27 + 3) = q_an G 8 (va_up se (x_pl (g 1) p) (se (x_pl (g 1) p) - l)) := (hf_700 _ (by omega)).trans hc_693
        have hc_720 : σ_698 27 = o6 G (27) (nI (s_take g p k l 1)) (nI (s_take g p k l 2)) := (hf_700 _ (by omega)).trans hc_694
        have hc_721 : σ_698 45 = o1 G (h0) (h1) (h2) (h3x_92) (h4x_93) := (hf_700 _ (by omega)).trans hc_695
        have hc_722 : σ_698 (25 + 8) = q_an G 10 (x_acP ac (g 3) (k + l) (s_over (s_take g p k l)) (s_tot (s_take g p k l)) (decide (s_tot g ≠ 0))) := (hf_700 _ (by omega)).trans hc_696
        have hc_723 : σ_698 25 = o0 G (25) (nI (g 0)) (nI (1 - (g 3))) (nI ((g 4) + 1)) (nI (g 5)) (nI (min ((g 6) + 1) 20)) := (hf_700 _ (by omega)).trans hc_673
        have hc_724 : σ_698 25 = o0 G (25) (nI (s_play g p k l 0)) (nI (s_play g p k l 3)) (nI (s_play g p k l 4)) (nI (s_play g p k l 5)) (nI (s_play g p k l 6)) := hc_723.trans (by rw [q0, q3, q4, q5, q6])
        have hc_725 : σ_698 27 = o6 G (27) (nI (s_play g p k l 1)) (nI (s_play g p k l 2)) := hc_720.trans (by rw [ek1, ek2, q1, q2])
        refine A_iload hg dX10_makeTurn_165 rfl ?_
        rw [hQ]
        exact A_ireturn hg (by decide) (by decide) rfl dX10_makeTurn_167 ⟨rfl, ⟨(h3x_92), (h4x_93), rfl, ⟨_, _, _, _, _, _, _, _, _, _, _, _, _, ⟨hc_724, hc_712, hc_725, hc_713, hc_718, hc_719, hc_714, hc_715, hc_722, hc_699, hc_716, hc_717⟩, x_gr_play hpp hgr0⟩, hc_721, (fun i hi => ((hf_700 i (by omega)).trans ((hf_674 i (by omega)).trans ((hf_648 i (by omega)).trans ((hf_622 i (by omega)).trans ((hf_596 i (by omega)).trans ((hf_569 i (by omega)).trans ((hf_411 i (by omega)).trans ((hf_95 i (by omega)).trans ((hf_67 i (by omega)).trans ((hf_41 i (by omega)).trans (hf_15 i (by omega)))))))))))))⟩⟩
  · skip
    refine A_iconst (v := (nI (1))) hg dX10_makeTurn_14 (by decide) ?_
    refine A_goto (tgt := 19) hg dX10_makeTurn_15 (by decide) ?_
    refine A_istore hg dX10_makeTurn_19 (by decide) (q_c1d rfl) ?_
    refine A_eq (ls2 := [some (.ref (q_h G + 0)), some (.ref (q_h G + 43)), some (.int (nI (p))), some (.int (nI (k))), some (.int (nI (l))), some (.int (nI (1))), none]) (st2 := []) (pc2 := 0) rfl rfl ?_
    refine A_aload_n hg dX10_makeTurn_21 rfl rfl ?_
    refine A_getf (v := .ref (q_h G + 25)) hg fl_RX10_40 dX10_makeTurn_22 hc0 (by omega) rfl ?_
    refine A_getf (v := .ref (q_h G + 27)) hg fl_RX10_118 dX10_makeTurn_25 hg_1 (by omega) rfl ?_
    refine A_iload_n hg dX10_makeTurn_28 rfl rfl ?_
    refine A_iload_n hg dX10_makeTurn_29 rfl rfl ?_
    refine A_iload hg dX10_makeTurn_30 rfl ?_
    refine A_vV (kc2 := 0) (ks2 := 0) (As := [.int (nI (p)), .int (nI (k)), .int (nI (l))]) (rest := []) hg lk_RX10_354 in_X6_take se_X6_take rfl dX10_makeTurn_32 ⟨by decide, by decide⟩ rfl rfl ⟨by decide, by decide⟩ hg_3 (by omega) rfl rfl (Nat.le_of_ble_eq_true rfl) (c_X6_take G ex n σ 27 (g 1) (g 2) fi se p k l hg_3 hg_5 hg_6 (by omega) (by omega) (by omega) (by rw [x_p_x hxp hpp]; exact hk) (by rw [x_p_y hxp hpp]; exact hl)) ?_
    rintro σ_729 ⟨hc_726, hc_727, hf_728⟩
    have hc_730 : σ_729 0 = o10 G (z1) (z2) (z3) := (hf_728 _ (by omega)).trans hc0
    have hc_731 : σ_729 43 = o4 G (43)  := (hf_728 _ (by omega)).trans hc1
    have hc_732 : σ_729 44 = q_rn G 4 4 (fun j => some (46 + 8 * j)) := (hf_728 _ (by omega)).trans hc2
    have hc_733 : ∀ j9 : Nat, j9 < 4 → σ_729 (46 + 8 * j9) = o8 G (46 + 8 * j9) (nI (flA j9)) (nI (n0A j9)) (nI (gvA j9)) (nI (gsA j9)) (nI (lmA j9)) (nI (vsA j9)) := fun j9 hj0 => (hf_728 _ (by omega)).trans (hc3 j9 (by omega))
    have hc_734 : ∀ j9 : Nat, j9 < 4 → σ_729 (46 + 8 * j9 + 1) = o7 G (46 + 8 * j9 + 1) (lN (nmA j9)) (lN (onA j9)) (nI (slA j9)) (nI (moA j9)) (nI (nbA j9)) := fun j9 hj0 => (hf_728 _ (by omega)).trans (hc4 j9 (by omega))
    have hc_735 : ∀ j9 : Nat, j9 < 4 → σ_729 (46 + 8 * j9 + 2) = q_an G 5 (bmA j9) := fun j9 hj0 => (hf_728 _ (by omega)).trans (hc5 j9 (by omega))
    have hc_736 : ∀ j9 : Nat, j9 < 4 → σ_729 (46 + 8 * j9 + 3) = q_an G 1681 (skA j9) := fun j9 hj0 => (hf_728 _ (by omega)).trans (hc6 j9 (by omega))
    have hc_737 : ∀ j9 : Nat, j9 < 4 → σ_729 (46 + 8 * j9 + 4) = q_an G 1681 (s2A j9) := fun j9 hj0 => (hf_728 _ (by omega)).trans (hc7 j9 (by omega))
    have hc_738 : ∀ j9 : Nat, j9 < 4 → σ_729 (46 + 8 * j9 + 5) = q_an G 1681 (vaA j9) := fun j9 hj0 => (hf_728 _ (by omega)).trans (hc8 j9 (by omega))
    have hc_739 : ∀ j9 : Nat, j9 < 4 → σ_729 (46 + 8 * j9 + 6) = q_an G 1681 (spA j9) := fun j9 hj0 => (hf_728 _ (by omega)).trans (hc9 j9 (by omega))
    have hc_740 : ∀ j9 : Nat, j9 < 4 → σ_729 (46 + 8 * j9 + 7) = q_an G 1681 (rfA j9) := fun j9 hj0 => (hf_728 _ (by omega)).trans (hc10 j9 (by omega))
    have hc_741 : σ_729 45 = o1 G (h0) (h1) (h2) (h3) (h4) := (hf_728 _ (by omega)).trans hc11
    have hc_742 : σ_729 25 = o0 G (25) (nI (g 0)) (nI (g 3)) (nI (g 4)) (nI (g 5)) (nI (g 6)) := (hf_728 _ (by omega)).trans hg_1
    have hc_743 : σ_729 26 = q_rn G 3 4 (fun j => some (25 + 10 + 2 * j)) := (hf_728 _ (by omega)).trans hg_2
    have hc_744 : σ_729 27 = o6 G (27) (nI (g 1)) (nI (g 2)) := (hf_728 _ (by omega)).trans hg_3
    have hc_745 : σ_729 (27 + 1) = q_an G 8 kd := (hf_728 _ (by omega)).trans hg_4
    have hc_746 : σ_729 (27 + 4) = q_an G 8 tf := (hf_728 _ (by omega)).trans hg_7
    have hc_747 : σ_729 (27 + 5) = q_an G 8 ts := (hf_728 _ (by omega)).trans hg_8
    have hc_748 : σ_729 (25 + 8) = q_an G 10 ac := (hf_728 _ (by omega)).trans hg_9
    have hc_749 : σ_729 (25 + 9) = q_an G 100 tu := (hf_728 _ (by omega)).trans hg_10
    have hc_750 : ∀ j9 : Nat, j9 < 4 → σ_729 (25 + 10 + 2 * j9) = o7 G (25 + 10 + 2 * j9) (lN (nm j9)) (lN (on j9)) (nI (sl j9)) (nI (mo j9)) (nI (nb j9)) := fun j9 hj0 => (hf_728 _ (by omega)).trans (hg_11 j9 (by omega))
    have hc_751 : ∀ j9 : Nat, j9 < 4 → σ_729 (25 + 10 + 2 * j9 + 1) = q_an G 5 (bm j9) := fun j9 hj0 => (hf_728 _ (by omega)).trans (hg_12 j9 (by omega))
    have ek1 : s_take g p k l 1 = g 1 := s_take_at (by omega)
    have ek2 : s_take g p k l 2 = g 2 := s_take_at (by omega)
    have hgwT : s_gwf (s_take g p k l) := s_gwf_take hgw hpp
    have hxpT := x_p_take (k := k) (l := l) hgw hpp hxp
    have hTFT := x_TF_take (k := k) (l := l) hgw hpp (Nat.le_refl _) hTF
    have hTF9 : x_TF (s_take g p k l) (s_take g p k l 1) onA slA moA nbA n0A gvA gsA lmA vsA bmA skA s2A vaA spA := by rw [ek1]; exact hTFT
    have hc_752 : σ_729 27 = o6 G (27) (nI (s_take g p k l 1)) (nI (s_take g p k l 2)) := hc_744.trans (by rw [ek1, ek2])
    have htl2 := s_tot_lt hgwT
    refine A_aload_n hg dX10_makeTurn_35 rfl rfl ?_
    refine A_aload_n hg dX10_makeTurn_36 rfl rfl ?_
    refine A_getf (v := .ref (q_h G + 25)) hg fl_RX10_40 dX10_makeTurn_37 hc_730 (by omega) rfl ?_
    refine A_getf (v := .ref (q_h G + 27)) hg fl_RX10_118 dX10_makeTurn_40 hc_742 (by omega) rfl ?_
    refine A_eV (kc2 := 0) (ks2 := 0) (As := [.ref (q_h G + 27)]) (rest := []) hg lk_RX10_144 in_X4_totalOf se_X4_totalOf rfl dX10_makeTurn_43 ⟨by decide, by decide⟩ rfl rfl ⟨by decide, by decide⟩ hc_731 (by omega) rfl rfl (Nat.le_of_ble_eq_true rfl) (c_X4_totalOf G ex n σ_729 27 (s_take g p k l) kd (va_up fi (x_pl (g 1) p) (fi (x_pl (g 1) p) - k)) (va_up se (x_pl (g 1) p) (se (x_pl (g 1) p) - l)) flA n0A gvA gsA lmA vsA nmA onA slA moA nbA bmA skA s2A vaA spA rfA hc_731 hc_732 hc_752 hc_745 hc_726 hc_727 hc_733 hc_734 hc_735 hc_736 hc_737 hc_738 hc_739 hc_740 (by omega) (Or.inl rfl) hgwT hxpT hTF9) ?_
    refine A_istore hg dX10_makeTurn_46 (by decide) (q_c1d rfl) ?_
    refine A_eq (ls2 := [some (.ref (q_h G + 0)), some (.ref (q_h G + 43)), some (.int (nI (p))), some (.int (nI (k))), some (.int (nI (l))), some (.int (nI (1))), some (.int (nI (s_tot (s_take g p k l))))]) (st2 := []) (pc2 := 0) rfl rfl ?_
    refine A_aload_n hg dX10_makeTurn_48 rfl rfl ?_
    refine A_getf (v := .ref (q_h G + 25)) hg fl_RX10_40 dX10_makeTurn_49 hc_730 (by omega) rfl ?_
    refine A_iconst (v := (nI (0))) hg dX10_makeTurn_52 (by decide) ?_
    refine A_iconst (v := (nI (1))) hg dX10_makeTurn_53 (by decide) ?_
    refine A_vV (kc2 := 0) (ks2 := 0) (As := [.int (nI (0)), .int (nI (1))]) (rest := []) hg lk_RX10_396 in_X0_addToAccount se_X0_addToAccount rfl dX10_makeTurn_54 ⟨by decide, by decide⟩ rfl rfl ⟨by decide, by decide⟩ hc_742 (by omega) rfl rfl (Nat.le_of_ble_eq_true rfl) (c_X0_addToAccount G ex n σ_729 25 (g 0) (g 3) (g 4) (g 5) (g 6) ac 0 1 hc_742 hc_748 (by omega) (by omega) (by omega)) ?_
    rintro σ_755 ⟨hc_753, hf_754⟩
    have hc_756 : σ_755 0 = o10 G (z1) (z2) (z3) := (hf_754 _ (by omega)).trans hc_730
    have hc_757 : σ_755 43 = o4 G (43)  := (hf_754 _ (by omega)).trans hc_731
    have hc_758 : σ_755 44 = q_rn G 4 4 (fun j => some (46 + 8 * j)) := (hf_754 _ (by omega)).trans hc_732
    have hc_759 : ∀ j9 : Nat, j9 < 4 → σ_755 (46 + 8 * j9) = o8 G (46 + 8 * j9) (nI (flA j9)) (nI (n0A j9)) (nI (gvA j9)) (nI (gsA j9)) (nI (lmA j9)) (nI (vsA j9)) := fun j9 hj0 => (hf_754 _ (by omega)).trans (hc_733 j9 (by omega))
    have hc_760 : ∀ j9 : Nat, j9 < 4 → σ_755 (46 + 8 * j9 + 1) = o7 G (46 + 8 * j9 + 1) (lN (nmA j9)) (lN (onA j9)) (nI (slA j9)) (nI (moA j9)) (nI (nbA j9)) := fun j9 hj0 => (hf_754 _ (by omega)).trans (hc_734 j9 (by omega))
    have hc_761 : ∀ j9 : Nat, j9 < 4 → σ_755 (46 + 8 * j9 + 2) = q_an G 5 (bmA j9) := fun j9 hj0 => (hf_754 _ (by omega)).trans (hc_735 j9 (by omega))
    have hc_762 : ∀ j9 : Nat, j9 < 4 → σ_755 (46 + 8 * j9 + 3) = q_an G 1681 (skA j9) := fun j9 hj0 => (hf_754 _ (by omega)).trans (hc_736 j9 (by omega))
    have hc_763 : ∀ j9 : Nat, j9 < 4 → σ_755 (46 + 8 * j9 + 4) = q_an G 1681 (s2A j9) := fun j9 hj0 => (hf_754 _ (by omega)).trans (hc_737 j9 (by omega))
    have hc_764 : ∀ j9 : Nat, j9 < 4 → σ_755 (46 + 8 * j9 + 5) = q_an G 1681 (vaA j9) := fun j9 hj0 => (hf_754 _ (by omega)).trans (hc_738 j9 (by omega))
    have hc_765 : ∀ j9 : Nat, j9 < 4 → σ_755 (46 + 8 * j9 + 6) = q_an G 1681 (spA j9) := fun j9 hj0 => (hf_754 _ (by omega)).trans (hc_739 j9 (by omega))
    have hc_766 : ∀ j9 : Nat, j9 < 4 → σ_755 (46 + 8 * j9 + 7) = q_an G 1681 (rfA j9) := fun j9 hj0 => (hf_754 _ (by omega)).trans (hc_740 j9 (by omega))
    have hc_767 : σ_755 45 = o1 G (h0) (h1) (h2) (h3) (h4) := (hf_754 _ (by omega)).trans hc_741
    have hc_768 : σ_755 25 = o0 G (25) (nI (g 0)) (nI (g 3)) (nI (g 4)) (nI (g 5)) (nI (g 6)) := (hf_754 _ (by omega)).trans hc_742
    have hc_769 : σ_755 26 = q_rn G 3 4 (fun j => some (25 + 10 + 2 * j)) := (hf_754 _ (by omega)).trans hc_743
    have hc_770 : σ_755 (27 + 1) = q_an G 8 kd := (hf_754 _ (by omega)).trans hc_745
    have hc_771 : σ_755 (27 + 4) = q_an G 8 tf := (hf_754 _ (by omega)).trans hc_746
    have hc_772 : σ_755 (27 + 5) = q_an G 8 ts := (hf_754 _ (by omega)).trans hc_747
    have hc_773 : σ_755 (25 + 9) = q_an G 100 tu := (hf_754 _ (by omega)).trans hc_749
    have hc_774 : ∀ j9 : Nat, j9 < 4 → σ_755 (25 + 10 + 2 * j9) = o7 G (25 + 10 + 2 * j9) (lN (nm j9)) (lN (on j9)) (nI (sl j9)) (nI (mo j9)) (nI (nb j9)) := fun j9 hj0 => (hf_754 _ (by omega)).trans (hc_750 j9 (by omega))
    have hc_775 : ∀ j9 : Nat, j9 < 4 → σ_755 (25 + 10 + 2 * j9 + 1) = q_an G 5 (bm j9) := fun j9 hj0 => (hf_754 _ (by omega)).trans (hc_751 j9 (by omega))
    have hc_776 : σ_755 (27 + 2) = q_an G 8 (va_up fi (x_pl (g 1) p) (fi (x_pl (g 1) p) - k)) := (hf_754 _ (by omega)).trans hc_726
    have hc_777 : σ_755 (27 + 3) = q_an G 8 (va_up se (x_pl (g 1) p) (se (x_pl (g 1) p) - l)) := (hf_754 _ (by omega)).trans hc_727
    have hc_778 : σ_755 27 = o6 G (27) (nI (s_take g p k l 1)) (nI (s_take g p k l 2)) := (hf_754 _ (by omega)).trans hc_752
    refine A_aload_n hg dX10_makeTurn_57 rfl rfl ?_
    refine A_getf (v := .ref (q_h G + 25)) hg fl_RX10_40 dX10_makeTurn_58 hc_756 (by omega) rfl ?_
    refine A_iconst (v := (nI (1))) hg dX10_makeTurn_61 (by decide) ?_
    refine A_iload_n hg dX10_makeTurn_62 rfl rfl ?_
    refine A_iload hg dX10_makeTurn_63 rfl ?_
    refine A_iaddN hg dX10_makeTurn_65 ?_
    refine A_vV (kc2 := 0) (ks2 := 0) (As := [.int (nI (1)), .int (nI (k + l))]) (rest := []) hg lk_RX10_396 in_X0_addToAccount se_X0_addToAccount rfl dX10_makeTurn_66 ⟨by decide, by decide⟩ rfl rfl ⟨by decide, by decide⟩ hc_768 (by omega) rfl rfl (Nat.le_of_ble_eq_true rfl) (c_X0_addToAccount G ex n σ_755 25 (g 0) (g 3) (g 4) (g 5) (g 6) (va_up ac ((g 3) * 5 + 0) (ac ((g 3) * 5 + 0) + 1)) 1 (k + l) hc_768 hc_753 (by omega) (by omega) (by omega)) ?_
    rintro σ_781 ⟨hc_779, hf_780⟩
    have hc_782 : σ_781 0 = o10 G (z1) (z2) (z3) := (hf_780 _ (by omega)).trans hc_756
    have hc_783 : σ_781 43 = o4 G (43)  := (hf_780 _ (by omega)).trans hc_757
    have hc_784 : σ_781 44 = q_rn G 4 4 (fun j => some (46 + 8 * j)) := (hf_780 _ (by omega)).trans hc_758
    have hc_785 : ∀ j9 : Nat, j9 < 4 → σ_781 (46 + 8 * j9) = o8 G (46 + 8 * j9) (nI (flA j9)) (nI (n0A j9)) (nI (gvA j9)) (nI (gsA j9)) (nI (lmA j9)) (nI (vsA j9)) := fun j9 hj0 => (hf_780 _ (by omega)).trans (hc_759 j9 (by omega))
    have hc_786 : ∀ j9 : Nat, j9 < 4 → σ_781 (46 + 8 * j9 + 1) = o7 G (46 + 8 * j9 + 1) (lN (nmA j9)) (lN (onA j9)) (nI (slA j9)) (nI (moA j9)) (nI (nbA j9)) := fun j9 hj0 => (hf_780 _ (by omega)).trans (hc_760 j9 (by omega))
    have hc_787 : ∀ j9 : Nat, j9 < 4 → σ_781 (46 + 8 * j9 + 2) = q_an G 5 (bmA j9) := fun j9 hj0 => (hf_780 _ (by omega)).trans (hc_761 j9 (by omega))
    have hc_788 : ∀ j9 : Nat, j9 < 4 → σ_781 (46 + 8 * j9 + 3) = q_an G 1681 (skA j9) := fun j9 hj0 => (hf_780 _ (by omega)).trans (hc_762 j9 (by omega))
    have hc_789 : ∀ j9 : Nat, j9 < 4 → σ_781 (46 + 8 * j9 + 4) = q_an G 1681 (s2A j9) := fun j9 hj0 => (hf_780 _ (by omega)).trans (hc_763 j9 (by omega))
    have hc_790 : ∀ j9 : Nat, j9 < 4 → σ_781 (46 + 8 * j9 + 5) = q_an G 1681 (vaA j9) := fun j9 hj0 => (hf_780 _ (by omega)).trans (hc_764 j9 (by omega))
    have hc_791 : ∀ j9 : Nat, j9 < 4 → σ_781 (46 + 8 * j9 + 6) = q_an G 1681 (spA j9) := fun j9 hj0 => (hf_780 _ (by omega)).trans (hc_765 j9 (by omega))
    have hc_792 : ∀ j9 : Nat, j9 < 4 → σ_781 (46 + 8 * j9 + 7) = q_an G 1681 (rfA j9) := fun j9 hj0 => (hf_780 _ (by omega)).trans (hc_766 j9 (by omega))
    have hc_793 : σ_781 45 = o1 G (h0) (h1) (h2) (h3) (h4) := (hf_780 _ (by omega)).trans hc_767
    have hc_794 : σ_781 25 = o0 G (25) (nI (g 0)) (nI (g 3)) (nI (g 4)) (nI (g 5)) (nI (g 6)) := (hf_780 _ (by omega)).trans hc_768
    have hc_795 : σ_781 26 = q_rn G 3 4 (fun j => some (25 + 10 + 2 * j)) := (hf_780 _ (by omega)).trans hc_769
    have hc_796 : σ_781 (27 + 1) = q_an G 8 kd := (hf_780 _ (by omega)).trans hc_770
    have hc_797 : σ_781 (27 + 4) = q_an G 8 tf := (hf_780 _ (by omega)).trans hc_771
    have hc_798 : σ_781 (27 + 5) = q_an G 8 ts := (hf_780 _ (by omega)).trans hc_772
    have hc_799 : σ_781 (25 + 9) = q_an G 100 tu := (hf_780 _ (by omega)).trans hc_773
    have hc_800 : ∀ j9 : Nat, j9 < 4 → σ_781 (25 + 10 + 2 * j9) = o7 G (25 + 10 + 2 * j9) (lN (nm j9)) (lN (on j9)) (nI (sl j9)) (nI (mo j9)) (nI (nb j9)) := fun j9 hj0 => (hf_780 _ (by omega)).trans (hc_774 j9 (by omega))
    have hc_801 : ∀ j9 : Nat, j9 < 4 → σ_781 (25 + 10 + 2 * j9 + 1) = q_an G 5 (bm j9) := fun j9 hj0 => (hf_780 _ (by omega)).trans (hc_775 j9 (by omega))
    have hc_802 : σ_781 (27 + 2) = q_an G 8 (va_up fi (x_pl (g 1) p) (fi (x_pl (g 1) p) - k)) := (hf_780 _ (by omega)).trans hc_776
    have hc_803 : σ_781 (27 + 3) = q_an G 8 (va_up se (x_pl (g 1) p) (se (x_pl (g 1) p) - l)) := (hf_780 _ (by omega)).trans hc_777
    have hc_804 : σ_781 27 = o6 G (27) (nI (s_take g p k l 1)) (nI (s_take g p k l 2)) := (hf_780 _ (by omega)).trans hc_778
    refine A_aload_n hg dX10_makeTurn_69 rfl rfl ?_
    refine A_aload_n hg dX10_makeTurn_70 rfl rfl ?_
    refine A_getf (v := .ref (q_h G + 25)) hg fl_RX10_40 dX10_makeTurn_71 hc_782 (by omega) rfl ?_
    refine A_getf (v := .ref (q_h G + 27)) hg fl_RX10_118 dX10_makeTurn_74 hc_794 (by omega) rfl ?_
    refine A_hV (kc2 := 0) (ks2 := 0) (As := [.ref (q_h G + 27)]) (rest := []) hg lk_RX10_154 in_X4_isOver se_X4_isOver rfl dX10_makeTurn_77 ⟨by decide, by decide⟩ rfl rfl ⟨by decide, by decide⟩ hc_783 (by omega) rfl rfl (Nat.le_of_ble_eq_true rfl) (c_X4_isOver G ex n σ_781 27 (s_take g p k l) kd (va_up fi (x_pl (g 1) p) (fi (x_pl (g 1) p) - k)) (va_up se (x_pl (g 1) p) (se (x_pl (g 1) p) - l)) flA n0A gvA gsA lmA vsA nmA onA slA moA nbA bmA skA s2A vaA spA rfA h0 h1 h2 h3 h4 hc_783 hc_784 hc_804 hc_796 hc_802 hc_803 hc_785 hc_786 hc_787 hc_788 hc_789 hc_790 hc_791 hc_792 hc_793 (by omega) (Or.inl rfl) hgwT hxpT hTF9) ?_
    rintro _ σ_809 ⟨h3x_805, h4x_806, rfl, hc_807, hf_808⟩
    refine (?_ : AJ G K Q 0 0 ex n 80 [some (.ref (q_h G + 0)), some (.ref (q_h G + 43)), some (.int (nI (p))), some (.int (nI (k))), some (.int (nI (l))), some (.int (nI (1))), some (.int (nI (s_tot (s_take g p k l))))] [.int (q_b (s_over (s_take g p k l)))] σ_809)
    have hc_810 : σ_809 0 = o10 G (z1) (z2) (z3) := (hf_808 _ (by omega)).trans hc_782
    have hc_811 : σ_809 43 = o4 G (43)  := (hf_808 _ (by omega)).trans hc_783
    have hc_812 : σ_809 44 = q_rn G 4 4 (fun j => some (46 + 8 * j)) := (hf_808 _ (by omega)).trans hc_784
    have hc_813 : ∀ j9 : Nat, j9 < 4 → σ_809 (46 + 8 * j9) = o8 G (46 + 8 * j9) (nI (flA j9)) (nI (n0A j9)) (nI (gvA j9)) (nI (gsA j9)) (nI (lmA j9)) (nI (vsA j9)) := fun j9 hj0 => (hf_808 _ (by omega)).trans (hc_785 j9 (by omega))
    have hc_814 : ∀ j9 : Nat, j9 < 4 → σ_809 (46 + 8 * j9 + 1) = o7 G (46 + 8 * j9 + 1) (lN (nmA j9)) (lN (onA j9)) (nI (slA j9)) (nI (moA j9)) (nI (nbA j9)) := fun j9 hj0 => (hf_808 _ (by omega)).trans (hc_786 j9 (by omega))
    have hc_815 : ∀ j9 : Nat, j9 < 4 → σ_809 (46 + 8 * j9 + 2) = q_an G 5 (bmA j9) := fun j9 hj0 => (hf_808 _ (by omega)).trans (hc_787 j9 (by omega))
    have hc_816 : ∀ j9 : Nat, j9 < 4 → σ_809 (46 + 8 * j9 + 3) = q_an G 1681 (skA j9) := fun j9 hj0 => (hf_808 _ (by omega)).trans (hc_788 j9 (by omega))
    have hc_817 : ∀ j9 : Nat, j9 < 4 → σ_809 (46 + 8 * j9 + 4) = q_an G 1681 (s2A j9) := fun j9 hj0 => (hf_808 _ (by omega)).trans (hc_789 j9 (by omega))
    have hc_818 : ∀ j9 : Nat, j9 < 4 → σ_809 (46 + 8 * j9 + 5) = q_an G 1681 (vaA j9) := fun j9 hj0 => (hf_808 _ (by omega)).trans (hc_790 j9 (by omega))
    have hc_819 : ∀ j9 : Nat, j9 < 4 → σ_809 (46 + 8 * j9 + 6) = q_an G 1681 (spA j9) := fun j9 hj0 => (hf_808 _ (by omega)).trans (hc_791 j9 (by omega))
    have hc_820 : ∀ j9 : Nat, j9 < 4 → σ_809 (46 + 8 * j9 + 7) = q_an G 1681 (rfA j9) := fun j9 hj0 => (hf_808 _ (by omega)).trans (hc_792 j9 (by omega))
    have hc_821 : σ_809 25 = o0 G (25) (nI (g 0)) (nI (g 3)) (nI (g 4)) (nI (g 5)) (nI (g 6)) := (hf_808 _ (by omega)).trans hc_794
    have hc_822 : σ_809 26 = q_rn G 3 4 (fun j => some (25 + 10 + 2 * j)) := (hf_808 _ (by omega)).trans hc_795
    have hc_823 : σ_809 (27 + 1) = q_an G 8 kd := (hf_808 _ (by omega)).trans hc_796
    have hc_824 : σ_809 (27 + 4) = q_an G 8 tf := (hf_808 _ (by omega)).trans hc_797
    have hc_825 : σ_809 (27 + 5) = q_an G 8 ts := (hf_808 _ (by omega)).trans hc_798
    have hc_826 : σ_809 (25 + 9) = q_an G 100 tu := (hf_808 _ (by omega)).trans hc_799
    have hc_827 : ∀ j9 : Nat, j9 < 4 → σ_809 (25 + 10 + 2 * j9) = o7 G (25 + 10 + 2 * j9) (lN (nm j9)) (lN (on j9)) (nI (sl j9)) (nI (mo j9)) (nI (nb j9)) := fun j9 hj0 => (hf_808 _ (by omega)).trans (hc_800 j9 (by omega))
    have hc_828 : ∀ j9 : Nat, j9 < 4 → σ_809 (25 + 10 + 2 * j9 + 1) = q_an G 5 (bm j9) := fun j9 hj0 => (hf_808 _ (by omega)).trans (hc_801 j9 (by omega))
    have hc_829 : σ_809 (27 + 2) = q_an G 8 (va_up fi (x_pl (g 1) p) (fi (x_pl (g 1) p) - k)) := (hf_808 _ (by omega)).trans hc_802
    have hc_830 : σ_809 (27 + 3) = q_an G 8 (va_up se (x_pl (g 1) p) (se (x_pl (g 1) p) - l)) := (hf_808 _ (by omega)).trans hc_803
    have hc_831 : σ_809 27 = o6 G (27) (nI (s_take g p k l 1)) (nI (s_take g p k l 2)) := (hf_808 _ (by omega)).trans hc_804
    have hc_832 : σ_809 (25 + 8) = q_an G 10 (va_up (va_up ac ((g 3) * 5 + 0) (ac ((g 3) * 5 + 0) + 1)) ((g 3) * 5 + 1) ((va_up ac ((g 3) * 5 + 0) (ac ((g 3) * 5 + 0) + 1)) ((g 3) * 5 + 1) + (k + l))) := (hf_808 _ (by omega)).trans hc_779
    refine A_if_eqB (tgt := 92) hg dX10_makeTurn_80 (by decide) (fun c80 => ?_) (fun c80 => ?_)
    · skip
      refine A_iload hg dX10_makeTurn_92 rfl ?_
      refine A_if_neN (tgt := 109) hg dX10_makeTurn_94 (by omega) (by decide) (fun c94 => ?_) (fun c94 => ?_)
      · skip
        refine A_iload hg dX10_makeTurn_109 rfl ?_
        refine A_if_eqN (tgt := 123) hg dX10_makeTurn_111 (by decide) (by decide) (fun c111 => absurd c111 (by decide)) (fun c111 => ?_)
        refine A_aload_n hg dX10_makeTurn_114 rfl rfl ?_
        refine A_getf (v := .ref (q_h G + 25)) hg fl_RX10_40 dX10_makeTurn_115 hc_810 (by omega) rfl ?_
        refine A_iconst (v := (nI (4))) hg dX10_makeTurn_118 (by decide) ?_
        refine A_iconst (v := (nI (1))) hg dX10_makeTurn_119 (by decide) ?_
        refine A_vV (kc2 := 0) (ks2 := 0) (As := [.int (nI (4)), .int (nI (1))]) (rest := []) hg lk_RX10_396 in_X0_addToAccount se_X0_addToAccount rfl dX10_makeTurn_120 ⟨by decide, by decide⟩ rfl rfl ⟨by decide, by decide⟩ hc_821 (by omega) rfl rfl (Nat.le_of_ble_eq_true rfl) (c_X0_addToAccount G ex n σ_809 25 (g 0) (g 3) (g 4) (g 5) (g 6) (va_up (va_up ac ((g 3) * 5 + 0) (ac ((g 3) * 5 + 0) + 1)) ((g 3) * 5 + 1) ((va_up ac ((g 3) * 5 + 0) (ac ((g 3) * 5 + 0) + 1)) ((g 3) * 5 + 1) + (k + l))) 4 1 hc_821 hc_832 (by omega) (by omega) (by omega)) ?_
        rintro σ_835 ⟨hc_833, hf_834⟩
        have hc_836 : σ_835 0 = o10 G (z1) (z2) (z3) := (hf_834 _ (by omega)).trans hc_810
        have hc_837 : σ_835 43 = o4 G (43)  := (hf_834 _ (by omega)).trans hc_811
        have hc_838 : σ_835 44 = q_rn G 4 4 (fun j => some (46 + 8 * j)) := (hf_834 _ (by omega)).trans hc_812
        have hc_839 : ∀ j9 : Nat, j9 < 4 → σ_835 (46 + 8 * j9) = o8 G (46 + 8 * j9) (nI (flA j9)) (nI (n0A j9)) (nI (gvA j9)) (nI (gsA j9)) (nI (lmA j9)) (nI (vsA j9)) := fun j9 hj0 => (hf_834 _ (by omega)).trans (hc_813 j9 (by omega))
        have hc_840 : ∀ j9 : Nat, j9 < 4 → σ_835 (46 + 8 * j9 + 1) = o7 G (46 + 8 * j9 + 1) (lN (nmA j9)) (lN (onA j9)) (nI (slA j9)) (nI (moA j9)) (nI (nbA j9)) := fun j9 hj0 => (hf_834 _ (by omega)).trans (hc_814 j9 (by omega))
        have hc_841 : ∀ j9 : Nat, j9 < 4 → σ_835 (46 + 8 * j9 + 2) = q_an G 5 (bmA j9) := fun j9 hj0 => (hf_834 _ (by omega)).trans (hc_815 j9 (by omega))
        have hc_842 : ∀ j9 : Nat, j9 < 4 → σ_835 (46 + 8 * j9 + 3) = q_an G 1681 (skA j9) := fun j9 hj0 => (hf_834 _ (by omega)).trans (hc_816 j9 (by omega))
        have hc_843 : ∀ j9 : Nat, j9 < 4 → σ_835 (46 + 8 * j9 + 4) = q_an G 1681 (s2A j9) := fun j9 hj0 => (hf_834 _ (by omega)).trans (hc_817 j9 (by omega))
        have hc_844 : ∀ j9 : Nat, j9 < 4 → σ_835 (46 + 8 * j9 + 5) = q_an G 1681 (vaA j9) := fun j9 hj0 => (hf_834 _ (by omega)).trans (hc_818 j9 (by omega))
        have hc_845 : ∀ j9 : Nat, j9 < 4 → σ_835 (46 + 8 * j9 + 6) = q_an G 1681 (spA j9) := fun j9 hj0 => (hf_834 _ (by omega)).trans (hc_819 j9 (by omega))
        have hc_846 : ∀ j9 : Nat, j9 < 4 → σ_835 (46 + 8 * j9 + 7) = q_an G 1681 (rfA j9) := fun j9 hj0 => (hf_834 _ (by omega)).trans (hc_820 j9 (by omega))
        have hc_847 : σ_835 25 = o0 G (25) (nI (g 0)) (nI (g 3)) (nI (g 4)) (nI (g 5)) (nI (g 6)) := (hf_834 _ (by omega)).trans hc_821
        have hc_848 : σ_835 26 = q_rn G 3 4 (fun j => some (25 + 10 + 2 * j)) := (hf_834 _ (by omega)).trans hc_822
        have hc_849 : σ_835 (27 + 1) = q_an G 8 kd := (hf_834 _ (by omega)).trans hc_823
        have hc_850 : σ_835 (27 + 4) = q_an G 8 tf := (hf_834 _ (by omega)).trans hc_824
        have hc_851 : σ_835 (27 + 5) = q_an G 8 ts := (hf_834 _ (by omega)).trans hc_825
        have hc_852 : σ_835 (25 + 9) = q_an G 100 tu := (hf_834 _ (by omega)).trans hc_826
        have hc_853 : ∀ j9 : Nat, j9 < 4 → σ_835 (25 + 10 + 2 * j9) = o7 G (25 + 10 + 2 * j9) (lN (nm j9)) (lN (on j9)) (nI (sl j9)) (nI (mo j9)) (nI (nb j9)) := fun j9 hj0 => (hf_834 _ (by omega)).trans (hc_827 j9 (by omega))
        have hc_854 : ∀ j9 : Nat, j9 < 4 → σ_835 (25 + 10 + 2 * j9 + 1) = q_an G 5 (bm j9) := fun j9 hj0 => (hf_834 _ (by omega)).trans (hc_828 j9 (by omega))
        have hc_855 : σ_835 (27 + 2) = q_an G 8 (va_up fi (x_pl (g 1) p) (fi (x_pl (g 1) p) - k)) := (hf_834 _ (by omega)).trans hc_829
        have hc_856 : σ_835 (27 + 3) = q_an G 8 (va_up se (x_pl (g 1) p) (se (x_pl (g 1) p) - l)) := (hf_834 _ (by omega)).trans hc_830
        have hc_857 : σ_835 27 = o6 G (27) (nI (s_take g p k l 1)) (nI (s_take g p k l 2)) := (hf_834 _ (by omega)).trans hc_831
        have hc_858 : σ_835 45 = o1 G (h0) (h1) (h2) (h3x_805) (h4x_806) := (hf_834 _ (by omega)).trans hc_807
        refine A_canon (x_acP ac (g 3) (k + l) (s_over (s_take g p k l)) (s_tot (s_take g p k l)) (decide (s_tot g ≠ 0))) hc_833 (fun jj hj => by unfold x_acP; rw [if_neg c94, if_pos (decide_eq_true c11), if_neg (show ¬ (s_over (s_take g p k l) = true) by rw [c80]; decide)]; rfl) (fun σ_859 hc_860 hf_861 => ?_)
        have hc_862 : σ_859 0 = o10 G (z1) (z2) (z3) := (hf_861 _ (by omega)).trans hc_836
        have hc_863 : σ_859 43 = o4 G (43)  := (hf_861 _ (by omega)).trans hc_837
        have hc_864 : σ_859 44 = q_rn G 4 4 (fun j => some (46 + 8 * j)) := (hf_861 _ (by omega)).trans hc_838
        have hc_865 : ∀ j9 : Nat, j9 < 4 → σ_859 (46 + 8 * j9) = o8 G (46 + 8 * j9) (nI (flA j9)) (nI (n0A j9)) (nI (gvA j9)) (nI (gsA j9)) (nI (lmA j9)) (nI (vsA j9)) := fun j9 hj0 => (hf_861 _ (by omega)).trans (hc_839 j9 (by omega))
        have hc_866 : ∀ j9 : Nat, j9 < 4 → σ_859 (46 + 8 * j9 + 1) = o7 G (46 + 8 * j9 + 1) (lN (nmA j9)) (lN (onA j9)) (nI (slA j9)) (nI (moA j9)) (nI (nbA j9)) := fun j9 hj0 => (hf_861 _ (by omega)).trans (hc_840 j9 (by omega))
        have hc_867 : ∀ j9 : Nat, j9 < 4 → σ_859 (46 + 8 * j9 + 2) = q_an G 5 (bmA j9) := fun j9 hj0 => (hf_861 _ (by omega)).trans (hc_841 j9 (by omega))
        have hc_868 : ∀ j9 : Nat, j9 < 4 → σ_859 (46 + 8 * j9 + 3) = q_an G 1681 (skA j9) := fun j9 hj0 => (hf_861 _ (by omega)).trans (hc_842 j9 (by omega))
        have hc_869 : ∀ j9 : Nat, j9 < 4 → σ_859 (46 + 8 * j9 + 4) = q_an G 1681 (s2A j9) := fun j9 hj0 => (hf_861 _ (by omega)).trans (hc_843 j9 (by omega))
        have hc_870 : ∀ j9 : Nat, j9 < 4 → σ_859 (46 + 8 * j9 + 5) = q_an G 1681 (vaA j9) := fun j9 hj0 => (hf_861 _ (by omega)).trans (hc_844 j9 (by omega))
        have hc_871 : ∀ j9 : Nat, j9 < 4 → σ_859 (46 + 8 * j9 + 6) = q_an G 1681 (spA j9) := fun j9 hj0 => (hf_861 _ (by omega)).trans (hc_845 j9 (by omega))
        have hc_872 : ∀ j9 : Nat, j9 < 4 → σ_859 (46 + 8 * j9 + 7) = q_an G 1681 (rfA j9) := fun j9 hj0 => (hf_861 _ (by omega)).trans (hc_846 j9 (by omega))
        have hc_873 : σ_859 25 = o0 G (25) (nI (g 0)) (nI (g 3)) (nI (g 4)) (nI (g 5)) (nI (g 6)) := (hf_861 _ (by omega)).trans hc_847
        have hc_874 : σ_859 26 = q_rn G 3 4 (fun j => some (25 + 10 + 2 * j)) := (hf_861 _ (by omega)).trans hc_848
        have hc_875 : σ_859 (27 + 1) = q_an G 8 kd := (hf_861 _ (by omega)).trans hc_849
        have hc_876 : σ_859 (27 + 4) = q_an G 8 tf := (hf_861 _ (by omega)).trans hc_850
        have hc_877 : σ_859 (27 + 5) = q_an G 8 ts := (hf_861 _ (by omega)).trans hc_851
        have hc_878 : σ_859 (25 + 9) = q_an G 100 tu := (hf_861 _ (by omega)).trans hc_852
        have hc_879 : ∀ j9 : Nat, j9 < 4 → σ_859 (25 + 10 + 2 * j9) = o7 G (25 + 10 + 2 * j9) (lN (nm j9)) (lN (on j9)) (nI (sl j9)) (nI (mo j9)) (nI (nb j9)) := fun j9 hj0 => (hf_861 _ (by omega)).trans (hc_853 j9 (by omega))
        have hc_880 : ∀ j9 : Nat, j9 < 4 → σ_859 (25 + 10 + 2 * j9 + 1) = q_an G 5 (bm j9) := fun j9 hj0 => (hf_861 _ (by omega)).trans (hc_854 j9 (by omega))
        have hc_881 : σ_859 (27 + 2) = q_an G 8 (va_up fi (x_pl (g 1) p) (fi (x_pl (g 1) p) - k)) := (hf_861 _ (by omega)).trans hc_855
        have hc_882 : σ_859 (27 + 3) = q_an G 8 (va_up se (x_pl (g 1) p) (se (x_pl (g 1) p) - l)) := (hf_861 _ (by omega)).trans hc_856
        have hc_883 : σ_859 27 = o6 G (27) (nI (s_take g p k l 1)) (nI (s_take g p k l 2)) := (hf_861 _ (by omega)).trans hc_857
        have hc_884 : σ_859 45 = o1 G (h0) (h1) (h2) (h3x_805) (h4x_806) := (hf_861 _ (by omega)).trans hc_858
        refine A_aload_n hg dX10_makeTurn_123 rfl rfl ?_
        refine A_getf (v := .ref (q_h G + 25)) hg fl_RX10_40 dX10_makeTurn_124 hc_862 (by omega) rfl ?_
        refine A_iload_n hg dX10_makeTurn_127 rfl rfl ?_
        refine A_iload_n hg dX10_makeTurn_128 rfl rfl ?_
        refine A_iload hg dX10_makeTurn_129 rfl ?_
        refine A_iload hg dX10_makeTurn_131 rfl ?_
        refine A_vV (kc2 := 0) (ks2 := 0) (As := [.int (nI (p)), .int (nI (k)), .int (nI (l)), .int (nI (s_tot (s_take g p k l)))]) (rest := []) hg lk_RX10_399 in_X0_keepTurn se_X0_keepTurn rfl dX10_makeTurn_133 ⟨by decide, by decide⟩ rfl rfl ⟨by decide, by decide⟩ hc_873 (by omega) rfl rfl (Nat.le_of_ble_eq_true rfl) (c_X0_keepTurn G ex n σ_859 25 (g 0) (g 3) (g 4) (g 5) (g 6) tu p k l (s_tot (s_take g p k l)) hc_873 hc_878 (by omega) (by omega)) ?_
        rintro σ_888 ⟨hc_885, hc_886, hf_887⟩
        have hc_889 : σ_888 0 = o10 G (z1) (z2) (z3) := (hf_887 _ (by omega)).trans hc_862
        have hc_890 : σ_888 43 = o4 G (43)  := (hf_887 _ (by omega)).trans hc_863
        have hc_891 : σ_888 44 = q_rn G 4 4 (fun j => some (46 + 8 * j)) := (hf_887 _ (by omega)).trans hc_864
        have hc_892 : ∀ j9 : Nat, j9 < 4 → σ_888 (46 + 8 * j9) = o8 G (46 + 8 * j9) (nI (flA j9)) (nI (n0A j9)) (nI (gvA j9)) (nI (gsA j9)) (nI (lmA j9)) (nI (vsA j9)) := fun j9 hj0 => (hf_887 _ (by omega)).trans (hc_865 j9 (by omega))
        have hc_893 : ∀ j9 : Nat, j9 < 4 → σ_888 (46 + 8 * j9 + 1) = o7 G (46 + 8 * j9 + 1) (lN (nmA j9)) (lN (onA j9)) (nI (slA j9)) (nI (moA j9)) (nI (nbA j9)) := fun j9 hj0 => (hf_887 _ (by omega)).trans (hc_866 j9 (by omega))
        have hc_894 : ∀ j9 : Nat, j9 < 4 → σ_888 (46 + 8 * j9 + 2) = q_an G 5 (bmA j9) := fun j9 hj0 => (hf_887 _ (by omega)).trans (hc_867 j9 (by omega))
        have hc_895 : ∀ j9 : Nat, j9 < 4 → σ_888 (46 + 8 * j9 + 3) = q_an G 1681 (skA j9) := fun j9 hj0 => (hf_887 _ (by omega)).trans (hc_868 j9 (by omega))
        have hc_896 : ∀ j9 : Nat, j9 < 4 → σ_888 (46 + 8 * j9 + 4) = q_an G 1681 (s2A j9) := fun j9 hj0 => (hf_887 _ (by omega)).trans (hc_869 j9 (by omega))
        have hc_897 : ∀ j9 : Nat, j9 < 4 → σ_888 (46 + 8 * j9 + 5) = q_an G 1681 (vaA j9) := fun j9 hj0 => (hf_887 _ (by omega)).trans (hc_870 j9 (by omega))
        have hc_898 : ∀ j9 : Nat, j9 < 4 → σ_888 (46 + 8 * j9 + 6) = q_an G 1681 (spA j9) := fun j9 hj0 => (hf_887 _ (by omega)).trans (hc_871 j9 (by omega))
        have hc_899 : ∀ j9 : Nat, j9 < 4 → σ_888 (46 + 8 * j9 + 7) = q_an G 1681 (rfA j9) := fun j9 hj0 => (hf_887 _ (by omega)).trans (hc_872 j9 (by omega))
        have hc_900 : σ_888 26 = q_rn G 3 4 (fun j => some (25 + 10 + 2 * j)) := (hf_887 _ (by omega)).trans hc_874
        have hc_901 : σ_888 (27 + 1) = q_an G 8 kd := (hf_887 _ (by omega)).trans hc_875
        have hc_902 : σ_888 (27 + 4) = q_an G 8 tf := (hf_887 _ (by omega)).trans hc_876
        have hc_903 : σ_888 (27 + 5) = q_an G 8 ts := (hf_887 _ (by omega)).trans hc_877
        have hc_904 : ∀ j9 : Nat, j9 < 4 → σ_888 (25 + 10 + 2 * j9) = o7 G (25 + 10 + 2 * j9) (lN (nm j9)) (lN (on j9)) (nI (sl j9)) (nI (mo j9)) (nI (nb j9)) := fun j9 hj0 => (hf_887 _ (by omega)).trans (hc_879 j9 (by omega))
        have hc_905 : ∀ j9 : Nat, j9 < 4 → σ_888 (25 + 10 + 2 * j9 + 1) = q_an G 5 (bm j9) := fun j9 hj0 => (hf_887 _ (by omega)).trans (hc_880 j9 (by omega))
        have hc_906 : σ_888 (27 + 2) = q_an G 8 (va_up fi (x_pl (g 1) p) (fi (x_pl (g 1) p) - k)) := (hf_887 _ (by omega)).trans hc_881
        have hc_907 : σ_888 (27 + 3) = q_an G 8 (va_up se (x_pl (g 1) p) (se (x_pl (g 1) p) - l)) := (hf_887 _ (by omega)).trans hc_882
        have hc_908 : σ_888 27 = o6 G (27) (nI (s_take g p k l 1)) (nI (s_take g p k l 2)) := (hf_887 _ (by omega)).trans hc_883
        have hc_909 : σ_888 45 = o1 G (h0) (h1) (h2) (h3x_805) (h4x_806) := (hf_887 _ (by omega)).trans hc_884
        have hc_910 : σ_888 (25 + 8) = q_an G 10 (x_acP ac (g 3) (k + l) (s_over (s_take g p k l)) (s_tot (s_take g p k l)) (decide (s_tot g ≠ 0))) := (hf_887 _ (by omega)).trans hc_860
        refine A_aload_n hg dX10_makeTurn_136 rfl rfl ?_
        refine A_getf (v := .ref (q_h G + 25)) hg fl_RX10_40 dX10_makeTurn_137 hc_889 (by omega) rfl ?_
        refine A_dup hg dX10_makeTurn_140 rfl ?_
        refine A_getf (v := .int (nI (g 4))) hg fl_RX10_137 dX10_makeTurn_141 hc_885 (by omega) rfl ?_
        refine A_iconst (v := (nI (1))) hg dX10_makeTurn_144 (by decide) ?_
        refine A_iaddN hg dX10_makeTurn_145 ?_
        refine A_putf hg fl_RX10_137 dX10_makeTurn_146 hc_885 (by omega) (Nat.le_of_ble_eq_true rfl) rfl rfl rfl (fun σ_911 hc_912 hf_913 => ?_)
        have hc_912 : σ_911 25 = o0 G (25) (nI (g 0)) (nI (g 3)) (nI ((g 4) + 1)) (nI (g 5)) (nI (min ((g 6) + 1) 20)) := hc_912
        have hc_914 : σ_911 0 = o10 G (z1) (z2) (z3) := (hf_913 _ (by omega)).trans hc_889
        have hc_915 : σ_911 43 = o4 G (43)  := (hf_913 _ (by omega)).trans hc_890
        have hc_916 : σ_911 44 = q_rn G 4 4 (fun j => some (46 + 8 * j)) := (hf_913 _ (by omega)).trans hc_891
        have hc_917 : ∀ j9 : Nat, j9 < 4 → σ_911 (46 + 8 * j9) = o8 G (46 + 8 * j9) (nI (flA j9)) (nI (n0A j9)) (nI (gvA j9)) (nI (gsA j9)) (nI (lmA j9)) (nI (vsA j9)) := fun j9 hj0 => (hf_913 _ (by omega)).trans (hc_892 j9 (by omega))
        have hc_918 : ∀ j9 : Nat, j9 < 4 → σ_911 (46 + 8 * j9 + 1) = o7 G (46 + 8 * j9 + 1) (lN (nmA j9)) (lN (onA j9)) (nI (slA j9)) (nI (moA j9)) (nI (nbA j9)) := fun j9 hj0 => (hf_913 _ (by omega)).trans (hc_893 j9 (by omega))
        have hc_919 : ∀ j9 : Nat, j9 < 4 → σ_911 (46 + 8 * j9 + 2) = q_an G 5 (bmA j9) := fun j9 hj0 => (hf_913 _ (by omega)).trans (hc_894 j9 (by omega))
        have hc_920 : ∀ j9 : Nat, j9 < 4 → σ_911 (46 + 8 * j9 + 3) = q_an G 1681 (skA j9) := fun j9 hj0 => (hf_913 _ (by omega)).trans (hc_895 j9 (by omega))
        have hc_921 : ∀ j9 : Nat, j9 < 4 → σ_911 (46 + 8 * j9 + 4) = q_an G 1681 (s2A j9) := fun j9 hj0 => (hf_913 _ (by omega)).trans (hc_896 j9 (by omega))
        have hc_922 : ∀ j9 : Nat, j9 < 4 → σ_911 (46 + 8 * j9 + 5) = q_an G 1681 (vaA j9) := fun j9 hj0 => (hf_913 _ (by omega)).trans (hc_897 j9 (by omega))
        have hc_923 : ∀ j9 : Nat, j9 < 4 → σ_911 (46 + 8 * j9 + 6) = q_an G 1681 (spA j9) := fun j9 hj0 => (hf_913 _ (by omega)).trans (hc_898 j9 (by omega))
        have hc_924 : ∀ j9 : Nat, j9 < 4 → σ_911 (46 + 8 * j9 + 7) = q_an G 1681 (rfA j9) := fun j9 hj0 => (hf_913 _ (by omega)).trans (hc_899 j9 (by omega))
        have hc_925 : σ_911 26 = q_rn G 3 4 (fun j => some (25 + 10 + 2 * j)) := (hf_913 _ (by omega)).trans hc_900
        have hc_926 : σ_911 (27 + 1) = q_an G 8 kd := (hf_913 _ (by omega)).trans hc_901
        have hc_927 : σ_911 (27 + 4) = q_an G 8 tf := (hf_913 _ (by omega)).trans hc_902
        have hc_928 : σ_911 (27 + 5) = q_an G 8 ts := (hf_913 _ (by omega)).trans hc_903
        have hc_929 : ∀ j9 : Nat, j9 < 4 → σ_911 (25 + 10 + 2 * j9) = o7 G (25 + 10 + 2 * j9) (lN (nm j9)) (lN (on j9)) (nI (sl j9)) (nI (mo j9)) (nI (nb j9)) := fun j9 hj0 => (hf_913 _ (by omega)).trans (hc_904 j9 (by omega))
        have hc_930 : ∀ j9 : Nat, j9 < 4 → σ_911 (25 + 10 + 2 * j9 + 1) = q_an G 5 (bm j9) := fun j9 hj0 => (hf_913 _ (by omega)).trans (hc_905 j9 (by omega))
        have hc_931 : σ_911 (27 + 2) = q_an G 8 (va_up fi (x_pl (g 1) p) (fi (x_pl (g 1) p) - k)) := (hf_913 _ (by omega)).trans hc_906
        have hc_932 : σ_911 (27 + 3) = q_an G 8 (va_up se (x_pl (g 1) p) (se (x_pl (g 1) p) - l)) := (hf_913 _ (by omega)).trans hc_907
        have hc_933 : σ_911 27 = o6 G (27) (nI (s_take g p k l 1)) (nI (s_take g p k l 2)) := (hf_913 _ (by omega)).trans hc_908
        have hc_934 : σ_911 45 = o1 G (h0) (h1) (h2) (h3x_805) (h4x_806) := (hf_913 _ (by omega)).trans hc_909
        have hc_935 : σ_911 (25 + 8) = q_an G 10 (x_acP ac (g 3) (k + l) (s_over (s_take g p k l)) (s_tot (s_take g p k l)) (decide (s_tot g ≠ 0))) := (hf_913 _ (by omega)).trans hc_910
        have hc_936 : σ_911 (25 + 9) = q_an G 100 (fun j => if j < 5 then (if j = 0 then (g 3) else if j = 1 then p else if j = 2 then k else if j = 3 then l else (s_tot (s_take g p k l))) else tu (j - 5)) := (hf_913 _ (by omega)).trans hc_886
        refine A_aload_n hg dX10_makeTurn_149 rfl rfl ?_
        refine A_getf (v := .ref (q_h G + 25)) hg fl_RX10_40 dX10_makeTurn_150 hc_914 (by omega) rfl ?_
        refine A_iconst (v := (nI (1))) hg dX10_makeTurn_153 (by decide) ?_
        refine A_aload_n hg dX10_makeTurn_154 rfl rfl ?_
        refine A_getf (v := .ref (q_h G + 25)) hg fl_RX10_40 dX10_makeTurn_155 hc_914 (by omega) rfl ?_
        refine A_getf (v := .int (nI (g 3))) hg fl_RX10_134 dX10_makeTurn_158 hc_912 (by omega) rfl ?_
        refine A_isubN hg dX10_makeTurn_161 (by omega) ?_
        refine A_putf hg fl_RX10_134 dX10_makeTurn_162 hc_912 (by omega) (Nat.le_of_ble_eq_true rfl) rfl rfl rfl (fun σ_937 hc_938 hf_939 => ?_)
        have hc_938 : σ_937 25 = o0 G (25) (nI (g 0)) (nI (1 - (g 3))) (nI ((g 4) + 1)) (nI (g 5)) (nI (min ((g 6) + 1) 20)) := hc_938
        have hc_940 : σ_937 0 = o10 G (z1) (z2) (z3) := (hf_939 _ (by omega)).trans hc_914
        have hc_941 : σ_937 43 = o4 G (43)  := (hf_939 _ (by omega)).trans hc_915
        have hc_942 : σ_937 44 = q_rn G 4 4 (fun j => some (46 + 8 * j)) := (hf_939 _ (by omega)).trans hc_916
        have hc_943 : ∀ j9 : Nat, j9 < 4 → σ_937 (46 + 8 * j9) = o8 G (46 + 8 * j9) (nI (flA j9)) (nI (n0A j9)) (nI (gvA j9)) (nI (gsA j9)) (nI (lmA j9)) (nI (vsA j9)) := fun j9 hj0 => (hf_939 _ (by omega)).trans (hc_917 j9 (by omega))
        have hc_944 : ∀ j9 : Nat, j9 < 4 → σ_937 (46 + 8 * j9 + 1) = o7 G (46 + 8 * j9 + 1) (lN (nmA j9)) (lN (onA j9)) (nI (slA j9)) (nI (moA j9)) (nI (nbA j9)) := fun j9 hj0 => (hf_939 _ (by omega)).trans (hc_918 j9 (by omega))
        have hc_945 : ∀ j9 : Nat, j9 < 4 → σ_937 (46 + 8 * j9 + 2) = q_an G 5 (bmA j9) := fun j9 hj0 => (hf_939 _ (by omega)).trans (hc_919 j9 (by omega))
        have hc_946 : ∀ j9 : Nat, j9 < 4 → σ_937 (46 + 8 * j9 + 3) = q_an G 1681 (skA j9) := fun j9 hj0 => (hf_939 _ (by omega)).trans (hc_920 j9 (by omega))
        have hc_947 : ∀ j9 : Nat, j9 < 4 → σ_937 (46 + 8 * j9 + 4) = q_an G 1681 (s2A j9) := fun j9 hj0 => (hf_939 _ (by omega)).trans (hc_921 j9 (by omega))
        have hc_948 : ∀ j9 : Nat, j9 < 4 → σ_937 (46 + 8 * j9 + 5) = q_an G 1681 (vaA j9) := fun j9 hj0 => (hf_939 _ (by omega)).trans (hc_922 j9 (by omega))
        have hc_949 : ∀ j9 : Nat, j9 < 4 → σ_937 (46 + 8 * j9 + 6) = q_an G 1681 (spA j9) := fun j9 hj0 => (hf_939 _ (by omega)).trans (hc_923 j9 (by omega))
        have hc_950 : ∀ j9 : Nat, j9 < 4 → σ_937 (46 + 8 * j9 + 7) = q_an G 1681 (rfA j9) := fun j9 hj0 => (hf_939 _ (by omega)).trans (hc_924 j9 (by omega))
        have hc_951 : σ_937 26 = q_rn G 3 4 (fun j => some (25 + 10 + 2 * j)) := (hf_939 _ (by omega)).trans hc_925
        have hc_952 : σ_937 (27 + 1) = q_an G 8 kd := (hf_939 _ (by omega)).trans hc_926
        have hc_953 : σ_937 (27 + 4) = q_an G 8 tf := (hf_939 _ (by omega)).trans hc_927
        have hc_954 : σ_937 (27 + 5) = q_an G 8 ts := (hf_939 _ (by omega)).trans hc_928
        have hc_955 : ∀ j9 : Nat, j9 < 4 → σ_937 (25 + 10 + 2 * j9) = o7 G (25 + 10 + 2 * j9) (lN (nm j9)) (lN (on j9)) (nI (sl j9)) (nI (mo j9)) (nI (nb j9)) := fun j9 hj0 => (hf_939 _ (by omega)).trans (hc_929 j9 (by omega))
        have hc_956 : ∀ j9 : Nat, j9 < 4 → σ_937 (25 + 10 + 2 * j9 + 1) = q_an G 5 (bm j9) := fun j9 hj0 => (hf_939 _ (by omega)).trans (hc_930 j9 (by omega))
        have hc_957 : σ_937 (27 + 2) = q_an G 8 (va_up fi (x_pl (g 1) p) (fi (x_pl (g 1) p) - k)) := (hf_939 _ (by omega)).trans hc_931
        have hc_958 : σ_937 (27 + 3) = q_an G 8 (va_up se (x_pl (g 1) p) (se (x_pl (g 1) p) - l)) := (hf_939 _ (by omega)).trans hc_932
        have hc_959 : σ_937 27 = o6 G (27) (nI (s_take g p k l 1)) (nI (s_take g p k l 2)) := (hf_939 _ (by omega)).trans hc_933
        have hc_960 : σ_937 45 = o1 G (h0) (h1) (h2) (h3x_805) (h4x_806) := (hf_939 _ (by omega)).trans hc_934
        have hc_961 : σ_937 (25 + 8) = q_an G 10 (x_acP ac (g 3) (k + l) (s_over (s_take g p k l)) (s_tot (s_take g p k l)) (decide (s_tot g ≠ 0))) := (hf_939 _ (by omega)).trans hc_935
        have hc_962 : σ_937 (25 + 9) = q_an G 100 (fun j => if j < 5 then (if j = 0 then (g 3) else if j = 1 then p else if j = 2 then k else if j = 3 then l else (s_tot (s_take g p k l))) else tu (j - 5)) := (hf_939 _ (by omega)).trans hc_936
        obtain ⟨q0, q1, q2, q3, q4, q5, q6⟩ := x_play_hi (k := k) (l := l) hgw hpp
        refine A_canon (x_tuP tu (g 3) p k l (s_tot (s_take g p k l))) hc_962 (fun jj hj => rfl) (fun σ_963 hc_964 hf_965 => ?_)
        have hc_966 : σ_963 0 = o10 G (z1) (z2) (z3) := (hf_965 _ (by omega)).trans hc_940
        have hc_967 : σ_963 43 = o4 G (43)  := (hf_965 _ (by omega)).trans hc_941
        have hc_968 : σ_963 44 = q_rn G 4 4 (fun j => some (46 + 8 * j)) := (hf_965 _ (by omega)).trans hc_942
        have hc_969 : ∀ j9 : Nat, j9 < 4 → σ_963 (46 + 8 * j9) = o8 G (46 + 8 * j9) (nI (flA j9)) (nI (n0A j9)) (nI (gvA j9)) (nI (gsA j9)) (nI (lmA j9)) (nI (vsA j9)) := fun j9 hj0 => (hf_965 _ (by omega)).trans (hc_943 j9 (by omega))
        have hc_970 : ∀ j9 : Nat, j9 < 4 → σ_963 (46 + 8 * j9 + 1) = o7 G (46 + 8 * j9 + 1) (lN (nmA j9)) (lN (onA j9)) (nI (slA j9)) (nI (moA j9)) (nI (nbA j9)) := fun j9 hj0 => (hf_965 _ (by omega)).trans (hc_944 j9 (by omega))
        have hc_971 : ∀ j9 : Nat, j9 < 4 → σ_963 (46 + 8 * j9 + 2) = q_an G 5 (bmA j9) := fun j9 hj0 => (hf_965 _ (by omega)).trans (hc_945 j9 (by omega))
        have hc_972 : ∀ j9 : Nat, j9 < 4 → σ_963 (46 + 8 * j9 + 3) = q_an G 1681 (skA j9) := fun j9 hj0 => (hf_965 _ (by omega)).trans (hc_946 j9 (by omega))
        have hc_973 : ∀ j9 : Nat, j9 < 4 → σ_963 (46 + 8 * j9 + 4) = q_an G 1681 (s2A j9) := fun j9 hj0 => (hf_965 _ (by omega)).trans (hc_947 j9 (by omega))
        have hc_974 : ∀ j9 : Nat, j9 < 4 → σ_963 (46 + 8 * j9 + 5) = q_an G 1681 (vaA j9) := fun j9 hj0 => (hf_965 _ (by omega)).trans (hc_948 j9 (by omega))
        have hc_975 : ∀ j9 : Nat, j9 < 4 → σ_963 (46 + 8 * j9 + 6) = q_an G 1681 (spA j9) := fun j9 hj0 => (hf_965 _ (by omega)).trans (hc_949 j9 (by omega))
        have hc_976 : ∀ j9 : Nat, j9 < 4 → σ_963 (46 + 8 * j9 + 7) = q_an G 1681 (rfA j9) := fun j9 hj0 => (hf_965 _ (by omega)).trans (hc_950 j9 (by omega))
        have hc_977 : σ_963 26 = q_rn G 3 4 (fun j => some (25 + 10 + 2 * j)) := (hf_965 _ (by omega)).trans hc_951
        have hc_978 : σ_963 (27 + 1) = q_an G 8 kd := (hf_965 _ (by omega)).trans hc_952
        have hc_979 : σ_963 (27 + 4) = q_an G 8 tf := (hf_965 _ (by omega)).trans hc_953
        have hc_980 : σ_963 (27 + 5) = q_an G 8 ts := (hf_965 _ (by omega)).trans hc_954
        have hc_981 : ∀ j9 : Nat, j9 < 4 → σ_963 (25 + 10 + 2 * j9) = o7 G (25 + 10 + 2 * j9) (lN (nm j9)) (lN (on j9)) (nI (sl j9)) (nI (mo j9)) (nI (nb j9)) := fun j9 hj0 => (hf_965 _ (by omega)).trans (hc_955 j9 (by omega))
        have hc_982 : ∀ j9 : Nat, j9 < 4 → σ_963 (25 + 10 + 2 * j9 + 1) = q_an G 5 (bm j9) := fun j9 hj0 => (hf_965 _ (by omega)).trans (hc_956 j9 (by omega))
        have hc_983 : σ_963 (27 + 2) = q_an G 8 (va_up fi (x_pl (g 1) p) (fi (x_pl (g 1) p) - k)) := (hf_965 _ (by omega)).trans hc_957
        have hc_984 : σ_963 (27 + 3) = q_an G 8 (va_up se (x_pl (g 1) p) (se (x_pl (g 1) p) - l)) := (hf_965 _ (by omega)).trans hc_958
        have hc_985 : σ_963 27 = o6 G (27) (nI (s_take g p k l 1)) (nI (s_take g p k l 2)) := (hf_965 _ (by omega)).trans hc_959
        have hc_986 : σ_963 45 = o1 G (h0) (h1) (h2) (h3x_805) (h4x_806) := (hf_965 _ (by omega)).trans hc_960
        have hc_987 : σ_963 (25 + 8) = q_an G 10 (x_acP ac (g 3) (k + l) (s_over (s_take g p k l)) (s_tot (s_take g p k l)) (decide (s_tot g ≠ 0))) := (hf_965 _ (by omega)).trans hc_961
        have hc_988 : σ_963 25 = o0 G (25) (nI (g 0)) (nI (1 - (g 3))) (nI ((g 4) + 1)) (nI (g 5)) (nI (min ((g 6) + 1) 20)) := (hf_965 _ (by omega)).trans hc_938
        have hc_989 : σ_963 25 = o0 G (25) (nI (s_play g p k l 0)) (nI (s_play g p k l 3)) (nI (s_play g p k l 4)) (nI (s_play g p k l 5)) (nI (s_play g p k l 6)) := hc_988.trans (by rw [q0, q3, q4, q5, q6])
        have hc_990 : σ_963 27 = o6 G (27) (nI (s_play g p k l 1)) (nI (s_play g p k l 2)) := hc_985.trans (by rw [ek1, ek2, q1, q2])
        refine A_iload hg dX10_makeTurn_165 rfl ?_
        rw [hQ]
        exact A_ireturn hg (by decide) (by decide) rfl dX10_makeTurn_167 ⟨rfl, ⟨(h3x_805), (h4x_806), rfl, ⟨_, _, _, _, _, _, _, _, _, _, _, _, _, ⟨hc_989, hc_977, hc_990, hc_978, hc_983, hc_984, hc_979, hc_980, hc_987, hc_964, hc_981, hc_982⟩, x_gr_play hpp hgr0⟩, hc_986, (fun i hi => ((hf_965 i (by omega)).trans ((hf_939 i (by omega)).trans ((hf_913 i (by omega)).trans ((hf_887 i (by omega)).trans ((hf_861 i (by omega)).trans ((hf_834 i (by omega)).trans ((hf_808 i (by omega)).trans ((hf_780 i (by omega)).trans ((hf_754 i (by omega)).trans (hf_728 i (by omega))))))))))))⟩⟩
      · skip
        refine A_aload_n hg dX10_makeTurn_97 rfl rfl ?_
        refine A_getf (v := .ref (q_h G + 25)) hg fl_RX10_40 dX10_makeTurn_98 hc_810 (by omega) rfl ?_
        refine A_iconst (v := (nI (3))) hg dX10_makeTurn_101 (by decide) ?_
        refine A_iconst (v := (nI (1))) hg dX10_makeTurn_102 (by decide) ?_
        refine A_vV (kc2 := 0) (ks2 := 0) (As := [.int (nI (3)), .int (nI (1))]) (rest := []) hg lk_RX10_396 in_X0_addToAccount se_X0_addToAccount rfl dX10_makeTurn_103 ⟨by decide, by decide⟩ rfl rfl ⟨by decide, by decide⟩ hc_821 (by omega) rfl rfl (Nat.le_of_ble_eq_true rfl) (c_X0_addToAccount G ex n σ_809 25 (g 0) (g 3) (g 4) (g 5) (g 6) (va_up (va_up ac ((g 3) * 5 + 0) (ac ((g 3) * 5 + 0) + 1)) ((g 3) * 5 + 1) ((va_up ac ((g 3) * 5 + 0) (ac ((g 3) * 5 + 0) + 1)) ((g 3) * 5 + 1) + (k + l))) 3 1 hc_821 hc_832 (by omega) (by omega) (by omega)) ?_
        rintro σ_993 ⟨hc_991, hf_992⟩
        have hc_994 : σ_993 0 = o10 G (z1) (z2) (z3) := (hf_992 _ (by omega)).trans hc_810
        have hc_995 : σ_993 43 = o4 G (43)  := (hf_992 _ (by omega)).trans hc_811
        have hc_996 : σ_993 44 = q_rn G 4 4 (fun j => some (46 + 8 * j)) := (hf_992 _ (by omega)).trans hc_812
        have hc_997 : ∀ j9 : Nat, j9 < 4 → σ_993 (46 + 8 * j9) = o8 G (46 + 8 * j9) (nI (flA j9)) (nI (n0A j9)) (nI (gvA j9)) (nI (gsA j9)) (nI (lmA j9)) (nI (vsA j9)) := fun j9 hj0 => (hf_992 _ (by omega)).trans (hc_813 j9 (by omega))
        have hc_998 : ∀ j9 : Nat, j9 < 4 → σ_993 (46 + 8 * j9 + 1) = o7 G (46 + 8 * j9 + 1) (lN (nmA j9)) (lN (onA j9)) (nI (slA j9)) (nI (moA j9)) (nI (nbA j9)) := fun j9 hj0 => (hf_992 _ (by omega)).trans (hc_814 j9 (by omega))
        have hc_999 : ∀ j9 : Nat, j9 < 4 → σ_993 (46 + 8 * j9 + 2) = q_an G 5 (bmA j9) := fun j9 hj0 => (hf_992 _ (by omega)).trans (hc_815 j9 (by omega))
        have hc_1000 : ∀ j9 : Nat, j9 < 4 → σ_993 (46 + 8 * j9 + 3) = q_an G 1681 (skA j9) := fun j9 hj0 => (hf_992 _ (by omega)).trans (hc_816 j9 (by omega))
        have hc_1001 : ∀ j9 : Nat, j9 < 4 → σ_993 (46 + 8 * j9 + 4) = q_an G 1681 (s2A j9) := fun j9 hj0 => (hf_992 _ (by omega)).trans (hc_817 j9 (by omega))
        have hc_1002 : ∀ j9 : Nat, j9 < 4 → σ_993 (46 + 8 * j9 + 5) = q_an G 1681 (vaA j9) := fun j9 hj0 => (hf_992 _ (by omega)).trans (hc_818 j9 (by omega))
        have hc_1003 : ∀ j9 : Nat, j9 < 4 → σ_993 (46 + 8 * j9 + 6) = q_an G 1681 (spA j9) := fun j9 hj0 => (hf_992 _ (by omega)).trans (hc_819 j9 (by omega))
        have hc_1004 : ∀ j9 : Nat, j9 < 4 → σ_993 (46 + 8 * j9 + 7) = q_an G 1681 (rfA j9) := fun j9 hj0 => (hf_992 _ (by omega)).trans (hc_820 j9 (by omega))
        have hc_1005 : σ_993 25 = o0 G (25) (nI (g 0)) (nI (g 3)) (nI (g 4)) (nI (g 5)) (nI (g 6)) := (hf_992 _ (by omega)).trans hc_821
        have hc_1006 : σ_993 26 = q_rn G 3 4 (fun j => some (25 + 10 + 2 * j)) := (hf_992 _ (by omega)).trans hc_822
        have hc_1007 : σ_993 (27 + 1) = q_an G 8 kd := (hf_992 _ (by omega)).trans hc_823
        have hc_1008 : σ_993 (27 + 4) = q_an G 8 tf := (hf_992 _ (by omega)).trans hc_824
        have hc_1009 : σ_993 (27 + 5) = q_an G 8 ts := (hf_992 _ (by omega)).trans hc_825
        have hc_1010 : σ_993 (25 + 9) = q_an G 100 tu := (hf_992 _ (by omega)).trans hc_826
        have hc_1011 : ∀ j9 : Nat, j9 < 4 → σ_993 (25 + 10 + 2 * j9) = o7 G (25 + 10 + 2 * j9) (lN (nm j9)) (lN (on j9)) (nI (sl j9)) (nI (mo j9)) (nI (nb j9)) := fun j9 hj0 => (hf_992 _ (by omega)).trans (hc_827 j9 (by omega))
        have hc_1012 : ∀ j9 : Nat, j9 < 4 → σ_993 (25 + 10 + 2 * j9 + 1) = q_an G 5 (bm j9) := fun j9 hj0 => (hf_992 _ (by omega)).trans (hc_828 j9 (by omega))
        have hc_1013 : σ_993 (27 + 2) = q_an G 8 (va_up fi (x_pl (g 1) p) (fi (x_pl (g 1) p) - k)) := (hf_992 _ (by omega)).trans hc_829
        have hc_1014 : σ_993 (27 + 3) = q_an G 8 (va_up se (x_pl (g 1) p) (se (x_pl (g 1) p) - l)) := (hf_992 _ (by omega)).trans hc_830
        have hc_1015 : σ_993 27 = o6 G (27) (nI (s_take g p k l 1)) (nI (s_take g p k l 2)) := (hf_992 _ (by omega)).trans hc_831
        have hc_1016 : σ_993 45 = o1 G (h0) (h1) (h2) (h3x_805) (h4x_806) := (hf_992 _ (by omega)).trans hc_807
        refine A_goto (tgt := 123) hg dX10_makeTurn_106 (by decide) ?_
        refine A_canon (x_acP ac (g 3) (k + l) (s_over (s_take g p k l)) (s_tot (s_take g p k l)) (decide (s_tot g ≠ 0))) hc_991 (fun jj hj => by unfold x_acP; rw [if_pos c94, if_neg (show ¬ (s_over (s_take g p k l) = true) by rw [c80]; decide)]; rfl) (fun σ_1017 hc_1018 hf_1019 => ?_)
        have hc_1020 : σ_1017 0 = o10 G (z1) (z2) (z3) := (hf_1019 _ (by omega)).trans hc_994
        have hc_1021 : σ_1017 43 = o4 G (43)  := (hf_1019 _ (by omega)).trans hc_995
        have hc_1022 : σ_1017 44 = q_rn G 4 4 (fun j => some (46 + 8 * j)) := (hf_1019 _ (by omega)).trans hc_996
        have hc_1023 : ∀ j9 : Nat, j9 < 4 → σ_1017 (46 + 8 * j9) = o8 G (46 + 8 * j9) (nI (flA j9)) (nI (n0A j9)) (nI (gvA j9)) (nI (gsA j9)) (nI (lmA j9)) (nI (vsA j9)) := fun j9 hj0 => (hf_1019 _ (by omega)).trans (hc_997 j9 (by omega))
        have hc_1024 : ∀ j9 : Nat, j9 < 4 → σ_1017 (46 + 8 * j9 + 1) = o7 G (46 + 8 * j9 + 1) (lN (nmA j9)) (lN (onA j9)) (nI (slA j9)) (nI (moA j9)) (nI (nbA j9)) := fun j9 hj0 => (hf_1019 _ (by omega)).trans (hc_998 j9 (by omega))
        have hc_1025 : ∀ j9 : Nat, j9 < 4 → σ_1017 (46 + 8 * j9 + 2) = q_an G 5 (bmA j9) := fun j9 hj0 => (hf_1019 _ (by omega)).trans (hc_999 j9 (by omega))
        have hc_1026 : ∀ j9 : Nat, j9 < 4 → σ_1017 (46 + 8 * j9 + 3) = q_an G 1681 (skA j9) := fun j9 hj0 => (hf_1019 _ (by omega)).trans (hc_1000 j9 (by omega))
        have hc_1027 : ∀ j9 : Nat, j9 < 4 → σ_1017 (46 + 8 * j9 + 4) = q_an G 1681 (s2A j9) := fun j9 hj0 => (hf_1019 _ (by omega)).trans (hc_1001 j9 (by omega))
        have hc_1028 : ∀ j9 : Nat, j9 < 4 → σ_1017 (46 + 8 * j9 + 5) = q_an G 1681 (vaA j9) := fun j9 hj0 => (hf_1019 _ (by omega)).trans (hc_1002 j9 (by omega))
        have hc_1029 : ∀ j9 : Nat, j9 < 4 → σ_1017 (46 + 8 * j9 + 6) = q_an G 1681 (spA j9) := fun j9 hj0 => (hf_1019 _ (by omega)).trans (hc_1003 j9 (by omega))
        have hc_1030 : ∀ j9 : Nat, j9 < 4 → σ_1017 (46 + 8 * j9 + 7) = q_an G 1681 (rfA j9) := fun j9 hj0 => (hf_1019 _ (by omega)).trans (hc_1004 j9 (by omega))
        have hc_1031 : σ_1017 25 = o0 G (25) (nI (g 0)) (nI (g 3)) (nI (g 4)) (nI (g 5)) (nI (g 6)) := (hf_1019 _ (by omega)).trans hc_1005
        have hc_1032 : σ_1017 26 = q_rn G 3 4 (fun j => some (25 + 10 + 2 * j)) := (hf_1019 _ (by omega)).trans hc_1006
        have hc_1033 : σ_1017 (27 + 1) = q_an G 8 kd := (hf_1019 _ (by omega)).trans hc_1007
        have hc_1034 : σ_1017 (27 + 4) = q_an G 8 tf := (hf_1019 _ (by omega)).trans hc_1008
        have hc_1035 : σ_1017 (27 + 5) = q_an G 8 ts := (hf_1019 _ (by omega)).trans hc_1009
        have hc_1036 : σ_1017 (25 + 9) = q_an G 100 tu := (hf_1019 _ (by omega)).trans hc_1010
        have hc_1037 : ∀ j9 : Nat, j9 < 4 → σ_1017 (25 + 10 + 2 * j9) = o7 G (25 + 10 + 2 * j9) (lN (nm j9)) (lN (on j9)) (nI (sl j9)) (nI (mo j9)) (nI (nb j9)) := fun j9 hj0 => (hf_1019 _ (by omega)).trans (hc_1011 j9 (by omega))
        have hc_1038 : ∀ j9 : Nat, j9 < 4 → σ_1017 (25 + 10 + 2 * j9 + 1) = q_an G 5 (bm j9) := fun j9 hj0 => (hf_1019 _ (by omega)).trans (hc_1012 j9 (by omega))
        have hc_1039 : σ_1017 (27 + 2) = q_an G 8 (va_up fi (x_pl (g 1) p) (fi (x_pl (g 1) p) - k)) := (hf_1019 _ (by omega)).trans hc_1013
        have hc_1040 : σ_1017 (27 + 3) = q_an G 8 (va_up se (x_pl (g 1) p) (se (x_pl (g 1) p) - l)) := (hf_1019 _ (by omega)).trans hc_1014
        have hc_1041 : σ_1017 27 = o6 G (27) (nI (s_take g p k l 1)) (nI (s_take g p k l 2)) := (hf_1019 _ (by omega)).trans hc_1015
        have hc_1042 : σ_1017 45 = o1 G (h0) (h1) (h2) (h3x_805) (h4x_806) := (hf_1019 _ (by omega)).trans hc_1016
        refine A_aload_n hg dX10_makeTurn_123 rfl rfl ?_
        refine A_getf (v := .ref (q_h G + 25)) hg fl_RX10_40 dX10_makeTurn_124 hc_1020 (by omega) rfl ?_
        refine A_iload_n hg dX10_makeTurn_127 rfl rfl ?_
        refine A_iload_n hg dX10_makeTurn_128 rfl rfl ?_
        refine A_iload hg dX10_makeTurn_129 rfl ?_
        refine A_iload hg dX10_makeTurn_131 rfl ?_
        refine A_vV (kc2 := 0) (ks2 := 0) (As := [.int (nI (p)), .int (nI (k)), .int (nI (l)), .int (nI (s_tot (s_take g p k l)))]) (rest := []) hg lk_RX10_399 in_X0_keepTurn se_X0_keepTurn rfl dX10_makeTurn_133 ⟨by decide, by decide⟩ rfl rfl ⟨by decide, by decide⟩ hc_1031 (by omega) rfl rfl (Nat.le_of_ble_eq_true rfl) (c_X0_keepTurn G ex n σ_1017 25 (g 0) (g 3) (g 4) (g 5) (g 6) tu p k l (s_tot (s_take g p k l)) hc_1031 hc_1036 (by omega) (by omega)) ?_
        rintro σ_1046 ⟨hc_1043, hc_1044, hf_1045⟩
        have hc_1047 : σ_1046 0 = o10 G (z1) (z2) (z3) := (hf_1045 _ (by omega)).trans hc_1020
        have hc_1048 : σ_1046 43 = o4 G (43)  := (hf_1045 _ (by omega)).trans hc_1021
        have hc_1049 : σ_1046 44 = q_rn G 4 4 (fun j => some (46 + 8 * j)) := (hf_1045 _ (by omega)).trans hc_1022
        have hc_1050 : ∀ j9 : Nat, j9 < 4 → σ_1046 (46 + 8 * j9) = o8 G (46 + 8 * j9) (nI (flA j9)) (nI (n0A j9)) (nI (gvA j9)) (nI (gsA j9)) (nI (lmA j9)) (nI (vsA j9)) := fun j9 hj0 => (hf_1045 _ (by omega)).trans (hc_1023 j9 (by omega))
        have hc_1051 : ∀ j9 : Nat, j9 < 4 → σ_1046 (46 + 8 * j9 + 1) = o7 G (46 + 8 * j9 + 1) (lN (nmA j9)) (lN (onA j9)) (nI (slA j9)) (nI (moA j9)) (nI (nbA j9)) := fun j9 hj0 => (hf_1045 _ (by omega)).trans (hc_1024 j9 (by omega))
        have hc_1052 : ∀ j9 : Nat, j9 < 4 → σ_1046 (46 + 8 * j9 + 2) = q_an G 5 (bmA j9) := fun j9 hj0 => (hf_1045 _ (by omega)).trans (hc_1025 j9 (by omega))
        have hc_1053 : ∀ j9 : Nat, j9 < 4 → σ_1046 (46 + 8 * j9 + 3) = q_an G 1681 (skA j9) := fun j9 hj0 => (hf_1045 _ (by omega)).trans (hc_1026 j9 (by omega))
        have hc_1054 : ∀ j9 : Nat, j9 < 4 → σ_1046 (46 + 8 * j9 + 4) = q_an G 1681 (s2A j9) := fun j9 hj0 => (hf_1045 _ (by omega)).trans (hc_1027 j9 (by omega))
        have hc_1055 : ∀ j9 : Nat, j9 < 4 → σ_1046 (46 + 8 * j9 + 5) = q_an G 1681 (vaA j9) := fun j9 hj0 => (hf_1045 _ (by omega)).trans (hc_1028 j9 (by omega))
        have hc_1056 : ∀ j9 : Nat, j9 < 4 → σ_1046 (46 + 8 * j9 + 6) = q_an G 1681 (spA j9) := fun j9 hj0 => (hf_1045 _ (by omega)).trans (hc_1029 j9 (by omega))
        have hc_1057 : ∀ j9 : Nat, j9 < 4 → σ_1046 (46 + 8 * j9 + 7) = q_an G 1681 (rfA j9) := fun j9 hj0 => (hf_1045 _ (by omega)).trans (hc_1030 j9 (by omega))
        have hc_1058 : σ_1046 26 = q_rn G 3 4 (fun j => some (25 + 10 + 2 * j)) := (hf_1045 _ (by omega)).trans hc_1032
        have hc_1059 : σ_1046 (27 + 1) = q_an G 8 kd := (hf_1045 _ (by omega)).trans hc_1033
        have hc_1060 : σ_1046 (27 + 4) = q_an G 8 tf := (hf_1045 _ (by omega)).trans hc_1034
        have hc_1061 : σ_1046 (27 + 5) = q_an G 8 ts := (hf_1045 _ (by omega)).trans hc_1035
        have hc_1062 : ∀ j9 : Nat, j9 < 4 → σ_1046 (25 + 10 + 2 * j9) = o7 G (25 + 10 + 2 * j9) (lN (nm j9)) (lN (on j9)) (nI (sl j9)) (nI (mo j9)) (nI (nb j9)) := fun j9 hj0 => (hf_1045 _ (by omega)).trans (hc_1037 j9 (by omega))
        have hc_1063 : ∀ j9 : Nat, j9 < 4 → σ_1046 (25 + 10 + 2 * j9 + 1) = q_an G 5 (bm j9) := fun j9 hj0 => (hf_1045 _ (by omega)).trans (hc_1038 j9 (by omega))
        have hc_1064 : σ_1046 (27 + 2) = q_an G 8 (va_up fi (x_pl (g 1) p) (fi (x_pl (g 1) p) - k)) := (hf_1045 _ (by omega)).trans hc_1039
        have hc_1065 : σ_1046 (27 + 3) = q_an G 8 (va_up se (x_pl (g 1) p) (se (x_pl (g 1) p) - l)) := (hf_1045 _ (by omega)).trans hc_1040
        have hc_1066 : σ_1046 27 = o6 G (27) (nI (s_take g p k l 1)) (nI (s_take g p k l 2)) := (hf_1045 _ (by omega)).trans hc_1041
        have hc_1067 : σ_1046 45 = o1 G (h0) (h1) (h2) (h3x_805) (h4x_806) := (hf_1045 _ (by omega)).trans hc_1042
        have hc_1068 : σ_1046 (25 + 8) = q_an G 10 (x_acP ac (g 3) (k + l) (s_over (s_take g p k l)) (s_tot (s_take g p k l)) (decide (s_tot g ≠ 0))) := (hf_1045 _ (by omega)).trans hc_1018
        refine A_aload_n hg dX10_makeTurn_136 rfl rfl ?_
        refine A_getf (v := .ref (q_h G + 25)) hg fl_RX10_40 dX10_makeTurn_137 hc_1047 (by omega) rfl ?_
        refine A_dup hg dX10_makeTurn_140 rfl ?_
        refine A_getf (v := .int (nI (g 4))) hg fl_RX10_137 dX10_makeTurn_141 hc_1043 (by omega) rfl ?_
        refine A_iconst (v := (nI (1))) hg dX10_makeTurn_144 (by decide) ?_
        refine A_iaddN hg dX10_makeTurn_145 ?_
        refine A_putf hg fl_RX10_137 dX10_makeTurn_146 hc_1043 (by omega) (Nat.le_of_ble_eq_true rfl) rfl rfl rfl (fun σ_1069 hc_1070 hf_1071 => ?_)
        have hc_1070 : σ_1069 25 = o0 G (25) (nI (g 0)) (nI (g 3)) (nI ((g 4) + 1)) (nI (g 5)) (nI (min ((g 6) + 1) 20)) := hc_1070
        have hc_1072 : σ_1069 0 = o10 G (z1) (z2) (z3) := (hf_1071 _ (by omega)).trans hc_1047
        have hc_1073 : σ_1069 43 = o4 G (43)  := (hf_1071 _ (by omega)).trans hc_1048
        have hc_1074 : σ_1069 44 = q_rn G 4 4 (fun j => some (46 + 8 * j)) := (hf_1071 _ (by omega)).trans hc_1049
        have hc_1075 : ∀ j9 : Nat, j9 < 4 → σ_1069 (46 + 8 * j9) = o8 G (46 + 8 * j9) (nI (flA j9)) (nI (n0A j9)) (nI (gvA j9)) (nI (gsA j9)) (nI (lmA j9)) (nI (vsA j9)) := fun j9 hj0 => (hf_1071 _ (by omega)).trans (hc_1050 j9 (by omega))
        have hc_1076 : ∀ j9 : Nat, j9 < 4 → σ_1069 (46 + 8 * j9 + 1) = o7 G (46 + 8 * j9 + 1) (lN (nmA j9)) (lN (onA j9)) (nI (slA j9)) (nI (moA j9)) (nI (nbA j9)) := fun j9 hj0 => (hf_1071 _ (by omega)).trans (hc_1051 j9 (by omega))
        have hc_1077 : ∀ j9 : Nat, j9 < 4 → σ_1069 (46 + 8 * j9 + 2) = q_an G 5 (bmA j9) := fun j9 hj0 => (hf_1071 _ (by omega)).trans (hc_1052 j9 (by omega))
        have hc_1078 : ∀ j9 : Nat, j9 < 4 → σ_1069 (46 + 8 * j9 + 3) = q_an G 1681 (skA j9) := fun j9 hj0 => (hf_1071 _ (by omega)).trans (hc_1053 j9 (by omega))
        have hc_1079 : ∀ j9 : Nat, j9 < 4 → σ_1069 (46 + 8 * j9 + 4) = q_an G 1681 (s2A j9) := fun j9 hj0 => (hf_1071 _ (by omega)).trans (hc_1054 j9 (by omega))
        have hc_1080 : ∀ j9 : Nat, j9 < 4 → σ_1069 (46 + 8 * j9 + 5) = q_an G 1681 (vaA j9) := fun j9 hj0 => (hf_1071 _ (by omega)).trans (hc_1055 j9 (by omega))
        have hc_1081 : ∀ j9 : Nat, j9 < 4 → σ_1069 (46 + 8 * j9 + 6) = q_an G 1681 (spA j9) := fun j9 hj0 => (hf_1071 _ (by omega)).trans (hc_1056 j9 (by omega))
        have hc_1082 : ∀ j9 : Nat, j9 < 4 → σ_1069 (46 + 8 * j9 + 7) = q_an G 1681 (rfA j9) := fun j9 hj0 => (hf_1071 _ (by omega)).trans (hc_1057 j9 (by omega))
        have hc_1083 : σ_1069 26 = q_rn G 3 4 (fun j => some (25 + 10 + 2 * j)) := (hf_1071 _ (by omega)).trans hc_1058
        have hc_1084 : σ_1069 (27 + 1) = q_an G 8 kd := (hf_1071 _ (by omega)).trans hc_1059
        have hc_1085 : σ_1069 (27 + 4) = q_an G 8 tf := (hf_1071 _ (by omega)).trans hc_1060
        have hc_1086 : σ_1069 (27 + 5) = q_an G 8 ts := (hf_1071 _ (by omega)).trans hc_1061
        have hc_1087 : ∀ j9 : Nat, j9 < 4 → σ_1069 (25 + 10 + 2 * j9) = o7 G (25 + 10 + 2 * j9) (lN (nm j9)) (lN (on j9)) (nI (sl j9)) (nI (mo j9)) (nI (nb j9)) := fun j9 hj0 => (hf_1071 _ (by omega)).trans (hc_1062 j9 (by omega))
        have hc_1088 : ∀ j9 : Nat, j9 < 4 → σ_1069 (25 + 10 + 2 * j9 + 1) = q_an G 5 (bm j9) := fun j9 hj0 => (hf_1071 _ (by omega)).trans (hc_1063 j9 (by omega))
        have hc_1089 : σ_1069 (27 + 2) = q_an G 8 (va_up fi (x_pl (g 1) p) (fi (x_pl (g 1) p) - k)) := (hf_1071 _ (by omega)).trans hc_1064
        have hc_1090 : σ_1069 (27 + 3) = q_an G 8 (va_up se (x_pl (g 1) p) (se (x_pl (g 1) p) - l)) := (hf_1071 _ (by omega)).trans hc_1065
        have hc_1091 : σ_1069 27 = o6 G (27) (nI (s_take g p k l 1)) (nI (s_take g p k l 2)) := (hf_1071 _ (by omega)).trans hc_1066
        have hc_1092 : σ_1069 45 = o1 G (h0) (h1) (h2) (h3x_805) (h4x_806) := (hf_1071 _ (by omega)).trans hc_1067
        have hc_1093 : σ_1069 (25 + 8) = q_an G 10 (x_acP ac (g 3) (k + l) (s_over (s_take g p k l)) (s_tot (s_take g p k l)) (decide (s_tot g ≠ 0))) := (hf_1071 _ (by omega)).trans hc_1068
        have hc_1094 : σ_1069 (25 + 9) = q_an G 100 (fun j => if j < 5 then (if j = 0 then (g 3) else if j = 1 then p else if j = 2 then k else if j = 3 then l else (s_tot (s_take g p k l))) else tu (j - 5)) := (hf_1071 _ (by omega)).trans hc_1044
        refine A_aload_n hg dX10_makeTurn_149 rfl rfl ?_
        refine A_getf (v := .ref (q_h G + 25)) hg fl_RX10_40 dX10_makeTurn_150 hc_1072 (by omega) rfl ?_
        refine A_iconst (v := (nI (1))) hg dX10_makeTurn_153 (by decide) ?_
        refine A_aload_n hg dX10_makeTurn_154 rfl rfl ?_
        refine A_getf (v := .ref (q_h G + 25)) hg fl_RX10_40 dX10_makeTurn_155 hc_1072 (by omega) rfl ?_
        refine A_getf (v := .int (nI (g 3))) hg fl_RX10_134 dX10_makeTurn_158 hc_1070 (by omega) rfl ?_
        refine A_isubN hg dX10_makeTurn_161 (by omega) ?_
        refine A_putf hg fl_RX10_134 dX10_makeTurn_162 hc_1070 (by omega) (Nat.le_of_ble_eq_true rfl) rfl rfl rfl (fun σ_1095 hc_1096 hf_1097 => ?_)
        have hc_1096 : σ_1095 25 = o0 G (25) (nI (g 0)) (nI (1 - (g 3))) (nI ((g 4) + 1)) (nI (g 5)) (nI (min ((g 6) + 1) 20)) := hc_1096
        have hc_1098 : σ_1095 0 = o10 G (z1) (z2) (z3) := (hf_1097 _ (by omega)).trans hc_1072
        have hc_1099 : σ_1095 43 = o4 G (43)  := (hf_1097 _ (by omega)).trans hc_1073
        have hc_1100 : σ_1095 44 = q_rn G 4 4 (fun j => some (46 + 8 * j)) := (hf_1097 _ (by omega)).trans hc_1074
        have hc_1101 : ∀ j9 : Nat, j9 < 4 → σ_1095 (46 + 8 * j9) = o8 G (46 + 8 * j9) (nI (flA j9)) (nI (n0A j9)) (nI (gvA j9)) (nI (gsA j9)) (nI (lmA j9)) (nI (vsA j9)) := fun j9 hj0 => (hf_1097 _ (by omega)).trans (hc_1075 j9 (by omega))
        have hc_1102 : ∀ j9 : Nat, j9 < 4 → σ_1095 (46 + 8 * j9 + 1) = o7 G (46 + 8 * j9 + 1) (lN (nmA j9)) (lN (onA j9)) (nI (slA j9)) (nI (moA j9)) (nI (nbA j9)) := fun j9 hj0 => (hf_1097 _ (by omega)).trans (hc_1076 j9 (by omega))
        have hc_1103 : ∀ j9 : Nat, j9 < 4 → σ_1095 (46 + 8 * j9 + 2) = q_an G 5 (bmA j9) := fun j9 hj0 => (hf_1097 _ (by omega)).trans (hc_1077 j9 (by omega))
        have hc_1104 : ∀ j9 : Nat, j9 < 4 → σ_1095 (46 + 8 * j9 + 3) = q_an G 1681 (skA j9) := fun j9 hj0 => (hf_1097 _ (by omega)).trans (hc_1078 j9 (by omega))
        have hc_1105 : ∀ j9 : Nat, j9 < 4 → σ_1095 (46 + 8 * j9 + 4) = q_an G 1681 (s2A j9) := fun j9 hj0 => (hf_1097 _ (by omega)).trans (hc_1079 j9 (by omega))
        have hc_1106 : ∀ j9 : Nat, j9 < 4 → σ_1095 (46 + 8 * j9 + 5) = q_an G 1681 (vaA j9) := fun j9 hj0 => (hf_1097 _ (by omega)).trans (hc_1080 j9 (by omega))
        have hc_1107 : ∀ j9 : Nat, j9 < 4 → σ_1095 (46 + 8 * j9 + 6) = q_an G 1681 (spA j9) := fun j9 hj0 => (hf_1097 _ (by omega)).trans (hc_1081 j9 (by omega))
        have hc_1108 : ∀ j9 : Nat, j9 < 4 → σ_1095 (46 + 8 * j9 + 7) = q_an G 1681 (rfA j9) := fun j9 hj0 => (hf_1097 _ (by omega)).trans (hc_1082 j9 (by omega))
        have hc_1109 : σ_1095 26 = q_rn G 3 4 (fun j => some (25 + 10 + 2 * j)) := (hf_1097 _ (by omega)).trans hc_1083
        have hc_1110 : σ_1095 (27 + 1) = q_an G 8 kd := (hf_1097 _ (by omega)).trans hc_1084
        have hc_1111 : σ_1095 (27 + 4) = q_an G 8 tf := (hf_1097 _ (by omega)).trans hc_1085
        have hc_1112 : σ_1095 (27 + 5) = q_an G 8 ts := (hf_1097 _ (by omega)).trans hc_1086
        have hc_1113 : ∀ j9 : Nat, j9 < 4 → σ_1095 (25 + 10 + 2 * j9) = o7 G (25 + 10 + 2 * j9) (lN (nm j9)) (lN (on j9)) (nI (sl j9)) (nI (mo j9)) (nI (nb j9)) := fun j9 hj0 => (hf_1097 _ (by omega)).trans (hc_1087 j9 (by omega))
        have hc_1114 : ∀ j9 : Nat, j9 < 4 → σ_1095 (25 + 10 + 2 * j9 + 1) = q_an G 5 (bm j9) := fun j9 hj0 => (hf_1097 _ (by omega)).trans (hc_1088 j9 (by omega))
        have hc_1115 : σ_1095 (27 + 2) = q_an G 8 (va_up fi (x_pl (g 1) p) (fi (x_pl (g 1) p) - k)) := (hf_1097 _ (by omega)).trans hc_1089
        have hc_1116 : σ_1095 (27 + 3) = q_an G 8 (va_up se (x_pl (g 1) p) (se (x_pl (g 1) p) - l)) := (hf_1097 _ (by omega)).trans hc_1090
        have hc_1117 : σ_1095 27 = o6 G (27) (nI (s_take g p k l 1)) (nI (s_take g p k l 2)) := (hf_1097 _ (by omega)).trans hc_1091
        have hc_1118 : σ_1095 45 = o1 G (h0) (h1) (h2) (h3x_805) (h4x_806) := (hf_1097 _ (by omega)).trans hc_1092
        have hc_1119 : σ_1095 (25 + 8) = q_an G 10 (x_acP ac (g 3) (k + l) (s_over (s_take g p k l)) (s_tot (s_take g p k l)) (decide (s_tot g ≠ 0))) := (hf_1097 _ (by omega)).trans hc_1093
        have hc_1120 : σ_1095 (25 + 9) = q_an G 100 (fun j => if j < 5 then (if j = 0 then (g 3) else if j = 1 then p else if j = 2 then k else if j = 3 then l else (s_tot (s_take g p k l))) else tu (j - 5)) := (hf_1097 _ (by omega)).trans hc_1094
        obtain ⟨q0, q1, q2, q3, q4, q5, q6⟩ := x_play_hi (k := k) (l := l) hgw hpp
        refine A_canon (x_tuP tu (g 3) p k l (s_tot (s_take g p k l))) hc_1120 (fun jj hj => rfl) (fun σ_1121 hc_1122 hf_1123 => ?_)
        have hc_1124 : σ_1121 0 = o10 G (z1) (z2) (z3) := (hf_1123 _ (by omega)).trans hc_1098
        have hc_1125 : σ_1121 43 = o4 G (43)  := (hf_1123 _ (by omega)).trans hc_1099
        have hc_1126 : σ_1121 44 = q_rn G 4 4 (fun j => some (46 + 8 * j)) := (hf_1123 _ (by omega)).trans hc_1100
        have hc_1127 : ∀ j9 : Nat, j9 < 4 → σ_1121 (46 + 8 * j9) = o8 G (46 + 8 * j9) (nI (flA j9)) (nI (n0A j9)) (nI (gvA j9)) (nI (gsA j9)) (nI (lmA j9)) (nI (vsA j9)) := fun j9 hj0 => (hf_1123 _ (by omega)).trans (hc_1101 j9 (by omega))
        have hc_1128 : ∀ j9 : Nat, j9 < 4 → σ_1121 (46 + 8 * j9 + 1) = o7 G (46 + 8 * j9 + 1) (lN (nmA j9)) (lN (onA j9)) (nI (slA j9)) (nI (moA j9)) (nI (nbA j9)) := fun j9 hj0 => (hf_1123 _ (by omega)).trans (hc_1102 j9 (by omega))
        have hc_1129 : ∀ j9 : Nat, j9 < 4 → σ_1121 (46 + 8 * j9 + 2) = q_an G 5 (bmA j9) := fun j9 hj0 => (hf_1123 _ (by omega)).trans (hc_1103 j9 (by omega))
        have hc_1130 : ∀ j9 : Nat, j9 < 4 → σ_1121 (46 + 8 * j9 + 3) = q_an G 1681 (skA j9) := fun j9 hj0 => (hf_1123 _ (by omega)).trans (hc_1104 j9 (by omega))
        have hc_1131 : ∀ j9 : Nat, j9 < 4 → σ_1121 (46 + 8 * j9 + 4) = q_an G 1681 (s2A j9) := fun j9 hj0 => (hf_1123 _ (by omega)).trans (hc_1105 j9 (by omega))
        have hc_1132 : ∀ j9 : Nat, j9 < 4 → σ_1121 (46 + 8 * j9 + 5) = q_an G 1681 (vaA j9) := fun j9 hj0 => (hf_1123 _ (by omega)).trans (hc_1106 j9 (by omega))
        have hc_1133 : ∀ j9 : Nat, j9 < 4 → σ_1121 (46 + 8 * j9 + 6) = q_an G 1681 (spA j9) := fun j9 hj0 => (hf_1123 _ (by omega)).trans (hc_1107 j9 (by omega))
        have hc_1134 : ∀ j9 : Nat, j9 < 4 → σ_1121 (46 + 8 * j9 + 7) = q_an G 1681 (rfA j9) := fun j9 hj0 => (hf_1123 _ (by omega)).trans (hc_1108 j9 (by omega))
        have hc_1135 : σ_1121 26 = q_rn G 3 4 (fun j => some (25 + 10 + 2 * j)) := (hf_1123 _ (by omega)).trans hc_1109
        have hc_1136 : σ_1121 (27 + 1) = q_an G 8 kd := (hf_1123 _ (by omega)).trans hc_1110
        have hc_1137 : σ_1121 (27 + 4) = q_an G 8 tf := (hf_1123 _ (by omega)).trans hc_1111
        have hc_1138 : σ_1121 (27 + 5) = q_an G 8 ts := (hf_1123 _ (by omega)).trans hc_1112
        have hc_1139 : ∀ j9 : Nat, j9 < 4 → σ_1121 (25 + 10 + 2 * j9) = o7 G (25 + 10 + 2 * j9) (lN (nm j9)) (lN (on j9)) (nI (sl j9)) (nI (mo j9)) (nI (nb j9)) := fun j9 hj0 => (hf_1123 _ (by omega)).trans (hc_1113 j9 (by omega))
        have hc_1140 : ∀ j9 : Nat, j9 < 4 → σ_1121 (25 + 10 + 2 * j9 + 1) = q_an G 5 (bm j9) := fun j9 hj0 => (hf_1123 _ (by omega)).trans (hc_1114 j9 (by omega))
        have hc_1141 : σ_1121 (27 + 2) = q_an G 8 (va_up fi (x_pl (g 1) p) (fi (x_pl (g 1) p) - k)) := (hf_1123 _ (by omega)).trans hc_1115
        have hc_1142 : σ_1121 (27 + 3) = q_an G 8 (va_up se (x_pl (g 1) p) (se (x_pl (g 1) p) - l)) := (hf_1123 _ (by omega)).trans hc_1116
        have hc_1143 : σ_1121 27 = o6 G (27) (nI (s_take g p k l 1)) (nI (s_take g p k l 2)) := (hf_1123 _ (by omega)).trans hc_1117
        have hc_1144 : σ_1121 45 = o1 G (h0) (h1) (h2) (h3x_805) (h4x_806) := (hf_1123 _ (by omega)).trans hc_1118
        have hc_1145 : σ_1121 (25 + 8) = q_an G 10 (x_acP ac (g 3) (k + l) (s_over (s_take g p k l)) (s_tot (s_take g p k l)) (decide (s_tot g ≠ 0))) := (hf_1123 _ (by omega)).trans hc_1119
        have hc_1146 : σ_1121 25 = o0 G (25) (nI (g 0)) (nI (1 - (g 3))) (nI ((g 4) + 1)) (nI (g 5)) (nI (min ((g 6) + 1) 20)) := (hf_1123 _ (by omega)).trans hc_1096
        have hc_1147 : σ_1121 25 = o0 G (25) (nI (s_play g p k l 0)) (nI (s_play g p k l 3)) (nI (s_play g p k l 4)) (nI (s_play g p k l 5)) (nI (s_play g p k l 6)) := hc_1146.trans (by rw [q0, q3, q4, q5, q6])
        have hc_1148 : σ_1121 27 = o6 G (27) (nI (s_play g p k l 1)) (nI (s_play g p k l 2)) := hc_1143.trans (by rw [ek1, ek2, q1, q2])
        refine A_iload hg dX10_makeTurn_165 rfl ?_
        rw [hQ]
        exact A_ireturn hg (by decide) (by decide) rfl dX10_makeTurn_167 ⟨rfl, ⟨(h3x_805), (h4x_806), rfl, ⟨_, _, _, _, _, _, _, _, _, _, _, _, _, ⟨hc_1147, hc_1135, hc_1148, hc_1136, hc_1141, hc_1142, hc_1137, hc_1138, hc_1145, hc_1122, hc_1139, hc_1140⟩, x_gr_play hpp hgr0⟩, hc_1144, (fun i hi => ((hf_1123 i (by omega)).trans ((hf_1097 i (by omega)).trans ((hf_1071 i (by omega)).trans ((hf_1045 i (by omega)).trans ((hf_1019 i (by omega)).trans ((hf_992 i (by omega)).trans ((hf_808 i (by omega)).trans ((hf_780 i (by omega)).trans ((hf_754 i (by omega)).trans (hf_728 i (by omega))))))))))))⟩⟩
    · skip
      refine A_aload_n hg dX10_makeTurn_83 rfl rfl ?_
      refine A_getf (v := .ref (q_h G + 25)) hg fl_RX10_40 dX10_makeTurn_84 hc_810 (by omega) rfl ?_
      refine A_iconst (v := (nI (2))) hg dX10_makeTurn_87 (by decide) ?_
      refine A_iconst (v := (nI (1))) hg dX10_makeTurn_88 (by decide) ?_
      refine A_vV (kc2 := 0) (ks2 := 0) (As := [.int (nI (2)), .int (nI (1))]) (rest := []) hg lk_RX10_396 in_X0_addToAccount se_X0_addToAccount rfl dX10_makeTurn_89 ⟨by decide, by decide⟩ rfl rfl ⟨by decide, by decide⟩ hc_821 (by omega) rfl rfl (Nat.le_of_ble_eq_true rfl) (c_X0_addToAccount G ex n σ_809 25 (g 0) (g 3) (g 4) (g 5) (g 6) (va_up (va_up ac ((g 3) * 5 + 0) (ac ((g 3) * 5 + 0) + 1)) ((g 3) * 5 + 1) ((va_up ac ((g 3) * 5 + 0) (ac ((g 3) * 5 + 0) + 1)) ((g 3) * 5 + 1) + (k + l))) 2 1 hc_821 hc_832 (by omega) (by omega) (by omega)) ?_
      rintro σ_1151 ⟨hc_1149, hf_1150⟩
      have hc_1152 : σ_1151 0 = o10 G (z1) (z2) (z3) := (hf_1150 _ (by omega)).trans hc_810
      have hc_1153 : σ_1151 43 = o4 G (43)  := (hf_1150 _ (by omega)).trans hc_811
      have hc_1154 : σ_1151 44 = q_rn G 4 4 (fun j => some (46 + 8 * j)) := (hf_1150 _ (by omega)).trans hc_812
      have hc_1155 : ∀ j9 : Nat, j9 < 4 → σ_1151 (46 + 8 * j9) = o8 G (46 + 8 * j9) (nI (flA j9)) (nI (n0A j9)) (nI (gvA j9)) (nI (gsA j9)) (nI (lmA j9)) (nI (vsA j9)) := fun j9 hj0 => (hf_1150 _ (by omega)).trans (hc_813 j9 (by omega))
      have hc_1156 : ∀ j9 : Nat, j9 < 4 → σ_1151 (46 + 8 * j9 + 1) = o7 G (46 + 8 * j9 + 1) (lN (nmA j9)) (lN (onA j9)) (nI (slA j9)) (nI (moA j9)) (nI (nbA j9)) := fun j9 hj0 => (hf_1150 _ (by omega)).trans (hc_814 j9 (by omega))
      have hc_1157 : ∀ j9 : Nat, j9 < 4 → σ_1151 (46 + 8 * j9 + 2) = q_an G 5 (bmA j9) := fun j9 hj0 => (hf_1150 _ (by omega)).trans (hc_815 j9 (by omega))
      have hc_1158 : ∀ j9 : Nat, j9 < 4 → σ_1151 (46 + 8 * j9 + 3) = q_an G 1681 (skA j9) := fun j9 hj0 => (hf_1150 _ (by omega)).trans (hc_816 j9 (by omega))
      have hc_1159 : ∀ j9 : Nat, j9 < 4 → σ_1151 (46 + 8 * j9 + 4) = q_an G 1681 (s2A j9) := fun j9 hj0 => (hf_1150 _ (by omega)).trans (hc_817 j9 (by omega))
      have hc_1160 : ∀ j9 : Nat, j9 < 4 → σ_1151 (46 + 8 * j9 + 5) = q_an G 1681 (vaA j9) := fun j9 hj0 => (hf_1150 _ (by omega)).trans (hc_818 j9 (by omega))
      have hc_1161 : ∀ j9 : Nat, j9 < 4 → σ_1151 (46 + 8 * j9 + 6) = q_an G 1681 (spA j9) := fun j9 hj0 => (hf_1150 _ (by omega)).trans (hc_819 j9 (by omega))
      have hc_1162 : ∀ j9 : Nat, j9 < 4 → σ_1151 (46 + 8 * j9 + 7) = q_an G 1681 (rfA j9) := fun j9 hj0 => (hf_1150 _ (by omega)).trans (hc_820 j9 (by omega))
      have hc_1163 : σ_1151 25 = o0 G (25) (nI (g 0)) (nI (g 3)) (nI (g 4)) (nI (g 5)) (nI (g 6)) := (hf_1150 _ (by omega)).trans hc_821
      have hc_1164 : σ_1151 26 = q_rn G 3 4 (fun j => some (25 + 10 + 2 * j)) := (hf_1150 _ (by omega)).trans hc_822
      have hc_1165 : σ_1151 (27 + 1) = q_an G 8 kd := (hf_1150 _ (by omega)).trans hc_823
      have hc_1166 : σ_1151 (27 + 4) = q_an G 8 tf := (hf_1150 _ (by omega)).trans hc_824
      have hc_1167 : σ_1151 (27 + 5) = q_an G 8 ts := (hf_1150 _ (by omega)).trans hc_825
      have hc_1168 : σ_1151 (25 + 9) = q_an G 100 tu := (hf_1150 _ (by omega)).trans hc_826
      have hc_1169 : ∀ j9 : Nat, j9 < 4 → σ_1151 (25 + 10 + 2 * j9) = o7 G (25 + 10 + 2 * j9) (lN (nm j9)) (lN (on j9)) (nI (sl j9)) (nI (mo j9)) (nI (nb j9)) := fun j9 hj0 => (hf_1150 _ (by omega)).trans (hc_827 j9 (by omega))
      have hc_1170 : ∀ j9 : Nat, j9 < 4 → σ_1151 (25 + 10 + 2 * j9 + 1) = q_an G 5 (bm j9) := fun j9 hj0 => (hf_1150 _ (by omega)).trans (hc_828 j9 (by omega))
      have hc_1171 : σ_1151 (27 + 2) = q_an G 8 (va_up fi (x_pl (g 1) p) (fi (x_pl (g 1) p) - k)) := (hf_1150 _ (by omega)).trans hc_829
      have hc_1172 : σ_1151 (27 + 3) = q_an G 8 (va_up se (x_pl (g 1) p) (se (x_pl (g 1) p) - l)) := (hf_1150 _ (by omega)).trans hc_830
      have hc_1173 : σ_1151 27 = o6 G (27) (nI (s_take g p k l 1)) (nI (s_take g p k l 2)) := (hf_1150 _ (by omega)).trans hc_831
      have hc_1174 : σ_1151 45 = o1 G (h0) (h1) (h2) (h3x_805) (h4x_806) := (hf_1150 _ (by omega)).trans hc_807
      refine A_iload hg dX10_makeTurn_92 rfl ?_
      refine A_if_neN (tgt := 109) hg dX10_makeTurn_94 (by omega) (by decide) (fun c94 => ?_) (fun c94 => ?_)
      · skip
        refine A_iload hg dX10_makeTurn_109 rfl ?_
        refine A_if_eqN (tgt := 123) hg dX10_makeTurn_111 (by decide) (by decide) (fun c111 => absurd c111 (by decide)) (fun c111 => ?_)
        refine A_aload_n hg dX10_makeTurn_114 rfl rfl ?_
        refine A_getf (v := .ref (q_h G + 25)) hg fl_RX10_40 dX10_makeTurn_115 hc_1152 (by omega) rfl ?_
        refine A_iconst (v := (nI (4))) hg dX10_makeTurn_118 (by decide) ?_
        refine A_iconst (v := (nI (1))) hg dX10_makeTurn_119 (by decide) ?_
        refine A_vV (kc2 := 0) (ks2 := 0) (As := [.int (nI (4)), .int (nI (1))]) (rest := []) hg lk_RX10_396 in_X0_addToAccount se_X0_addToAccount rfl dX10_makeTurn_120 ⟨by decide, by decide⟩ rfl rfl ⟨by decide, by decide⟩ hc_1163 (by omega) rfl rfl (Nat.le_of_ble_eq_true rfl) (c_X0_addToAccount G ex n σ_1151 25 (g 0) (g 3) (g 4) (g 5) (g 6) (va_up (va_up (va_up ac ((g 3) * 5 + 0) (ac ((g 3) * 5 + 0) + 1)) ((g 3) * 5 + 1) ((va_up ac ((g 3) * 5 + 0) (ac ((g 3) * 5 + 0) + 1)) ((g 3) * 5 + 1) + (k + l))) ((g 3) * 5 + 2) ((va_up (va_up ac ((g 3) * 5 + 0) (ac ((g 3) * 5 + 0) + 1)) ((g 3) * 5 + 1) ((va_up ac ((g 3) * 5 + 0) (ac ((g 3) * 5 + 0) + 1)) ((g 3) * 5 + 1) + (k + l))) ((g 3) * 5 + 2) + 1)) 4 1 hc_1163 hc_1149 (by omega) (by omega) (by omega)) ?_
        rintro σ_1177 ⟨hc_1175, hf_1176⟩
        have hc_1178 : σ_1177 0 = o10 G (z1) (z2) (z3) := (hf_1176 _ (by omega)).trans hc_1152
        have hc_1179 : σ_1177 43 = o4 G (43)  := (hf_1176 _ (by omega)).trans hc_1153
        have hc_1180 : σ_1177 44 = q_rn G 4 4 (fun j => some (46 + 8 * j)) := (hf_1176 _ (by omega)).trans hc_1154
        have hc_1181 : ∀ j9 : Nat, j9 < 4 → σ_1177 (46 + 8 * j9) = o8 G (46 + 8 * j9) (nI (flA j9)) (nI (n0A j9)) (nI (gvA j9)) (nI (gsA j9)) (nI (lmA j9)) (nI (vsA j9)) := fun j9 hj0 => (hf_1176 _ (by omega)).trans (hc_1155 j9 (by omega))
        have hc_1182 : ∀ j9 : Nat, j9 < 4 → σ_1177 (46 + 8 * j9 + 1) = o7 G (46 + 8 * j9 + 1) (lN (nmA j9)) (lN (onA j9)) (nI (slA j9)) (nI (moA j9)) (nI (nbA j9)) := fun j9 hj0 => (hf_1176 _ (by omega)).trans (hc_1156 j9 (by omega))
        have hc_1183 : ∀ j9 : Nat, j9 < 4 → σ_1177 (46 + 8 * j9 + 2) = q_an G 5 (bmA j9) := fun j9 hj0 => (hf_1176 _ (by omega)).trans (hc_1157 j9 (by omega))
        have hc_1184 : ∀ j9 : Nat, j9 < 4 → σ_1177 (46 + 8 * j9 + 3) = q_an G 1681 (skA j9) := fun j9 hj0 => (hf_1176 _ (by omega)).trans (hc_1158 j9 (by omega))
        have hc_1185 : ∀ j9 : Nat, j9 < 4 → σ_1177 (46 + 8 * j9 + 4) = q_an G 1681 (s2A j9) := fun j9 hj0 => (hf_1176 _ (by omega)).trans (hc_1159 j9 (by omega))
        have hc_1186 : ∀ j9 : Nat, j9 < 4 → σ_1177 (46 + 8 * j9 + 5) = q_an G 1681 (vaA j9) := fun j9 hj0 => (hf_1176 _ (by omega)).trans (hc_1160 j9 (by omega))
        have hc_1187 : ∀ j9 : Nat, j9 < 4 → σ_1177 (46 + 8 * j9 + 6) = q_an G 1681 (spA j9) := fun j9 hj0 => (hf_1176 _ (by omega)).trans (hc_1161 j9 (by omega))
        have hc_1188 : ∀ j9 : Nat, j9 < 4 → σ_1177 (46 + 8 * j9 + 7) = q_an G 1681 (rfA j9) := fun j9 hj0 => (hf_1176 _ (by omega)).trans (hc_1162 j9 (by omega))
        have hc_1189 : σ_1177 25 = o0 G (25) (nI (g 0)) (nI (g 3)) (nI (g 4)) (nI (g 5)) (nI (g 6)) := (hf_1176 _ (by omega)).trans hc_1163
        have hc_1190 : σ_1177 26 = q_rn G 3 4 (fun j => some (25 + 10 + 2 * j)) := (hf_1176 _ (by omega)).trans hc_1164
        have hc_1191 : σ_1177 (27 + 1) = q_an G 8 kd := (hf_1176 _ (by omega)).trans hc_1165
        have hc_1192 : σ_1177 (27 + 4) = q_an G 8 tf := (hf_1176 _ (by omega)).trans hc_1166
        have hc_1193 : σ_1177 (27 + 5) = q_an G 8 ts := (hf_1176 _ (by omega)).trans hc_1167
        have hc_1194 : σ_1177 (25 + 9) = q_an G 100 tu := (hf_1176 _ (by omega)).trans hc_1168
        have hc_1195 : ∀ j9 : Nat, j9 < 4 → σ_1177 (25 + 10 + 2 * j9) = o7 G (25 + 10 + 2 * j9) (lN (nm j9)) (lN (on j9)) (nI (sl j9)) (nI (mo j9)) (nI (nb j9)) := fun j9 hj0 => (hf_1176 _ (by omega)).trans (hc_1169 j9 (by omega))
        have hc_1196 : ∀ j9 : Nat, j9 < 4 → σ_1177 (25 + 10 + 2 * j9 + 1) = q_an G 5 (bm j9) := fun j9 hj0 => (hf_1176 _ (by omega)).trans (hc_1170 j9 (by omega))
        have hc_1197 : σ_1177 (27 + 2) = q_an G 8 (va_up fi (x_pl (g 1) p) (fi (x_pl (g 1) p) - k)) := (hf_1176 _ (by omega)).trans hc_1171
        have hc_1198 : σ_1177 (27 + 3) = q_an G 8 (va_up se (x_pl (g 1) p) (se (x_pl (g 1) p) - l)) := (hf_1176 _ (by omega)).trans hc_1172
        have hc_1199 : σ_1177 27 = o6 G (27) (nI (s_take g p k l 1)) (nI (s_take g p k l 2)) := (hf_1176 _ (by omega)).trans hc_1173
        have hc_1200 : σ_1177 45 = o1 G (h0) (h1) (h2) (h3x_805) (h4x_806) := (hf_1176 _ (by omega)).trans hc_1174
        refine A_canon (x_acP ac (g 3) (k + l) (s_over (s_take g p k l)) (s_tot (s_take g p k l)) (decide (s_tot g ≠ 0))) hc_1175 (fun jj hj => by unfold x_acP; rw [if_neg c94, if_pos (decide_eq_true c11), if_pos c80]; rfl) (fun σ_1201 hc_1202 hf_1203 => ?_)
        have hc_1204 : σ_1201 0 = o10 G (z1) (z2) (z3) := (hf_1203 _ (by omega)).trans hc_1178
        have hc_1205 : σ_1201 43 = o4 G (43)  := (hf_1203 _ (by omega)).trans hc_1179
        have hc_1206 : σ_1201 44 = q_rn G 4 4 (fun j => some (46 + 8 * j)) := (hf_1203 _ (by omega)).trans hc_1180
        have hc_1207 : ∀ j9 : Nat, j9 < 4 → σ_1201 (46 + 8 * j9) = o8 G (46 + 8 * j9) (nI (flA j9)) (nI (n0A j9)) (nI (gvA j9)) (nI (gsA j9)) (nI (lmA j9)) (nI (vsA j9)) := fun j9 hj0 => (hf_1203 _ (by omega)).trans (hc_1181 j9 (by omega))
        have hc_1208 : ∀ j9 : Nat, j9 < 4 → σ_1201 (46 + 8 * j9 + 1) = o7 G (46 + 8 * j9 + 1) (lN (nmA j9)) (lN (onA j9)) (nI (slA j9)) (nI (moA j9)) (nI (nbA j9)) := fun j9 hj0 => (hf_1203 _ (by omega)).trans (hc_1182 j9 (by omega))
        have hc_1209 : ∀ j9 : Nat, j9 < 4 → σ_1201 (46 + 8 * j9 + 2) = q_an G 5 (bmA j9) := fun j9 hj0 => (hf_1203 _ (by omega)).trans (hc_1183 j9 (by omega))
        have hc_1210 : ∀ j9 : Nat, j9 < 4 → σ_1201 (46 + 8 * j9 + 3) = q_an G 1681 (skA j9) := fun j9 hj0 => (hf_1203 _ (by omega)).trans (hc_1184 j9 (by omega))
        have hc_1211 : ∀ j9 : Nat, j9 < 4 → σ_1201 (46 + 8 * j9 + 4) = q_an G 1681 (s2A j9) := fun j9 hj0 => (hf_1203 _ (by omega)).trans (hc_1185 j9 (by omega))
        have hc_1212 : ∀ j9 : Nat, j9 < 4 → σ_1201 (46 + 8 * j9 + 5) = q_an G 1681 (vaA j9) := fun j9 hj0 => (hf_1203 _ (by omega)).trans (hc_1186 j9 (by omega))
        have hc_1213 : ∀ j9 : Nat, j9 < 4 → σ_1201 (46 + 8 * j9 + 6) = q_an G 1681 (spA j9) := fun j9 hj0 => (hf_1203 _ (by omega)).trans (hc_1187 j9 (by omega))
        have hc_1214 : ∀ j9 : Nat, j9 < 4 → σ_1201 (46 + 8 * j9 + 7) = q_an G 1681 (rfA j9) := fun j9 hj0 => (hf_1203 _ (by omega)).trans (hc_1188 j9 (by omega))
        have hc_1215 : σ_1201 25 = o0 G (25) (nI (g 0)) (nI (g 3)) (nI (g 4)) (nI (g 5)) (nI (g 6)) := (hf_1203 _ (by omega)).trans hc_1189
        have hc_1216 : σ_1201 26 = q_rn G 3 4 (fun j => some (25 + 10 + 2 * j)) := (hf_1203 _ (by omega)).trans hc_1190
        have hc_1217 : σ_1201 (27 + 1) = q_an G 8 kd := (hf_1203 _ (by omega)).trans hc_1191
        have hc_1218 : σ_1201 (27 + 4) = q_an G 8 tf := (hf_1203 _ (by omega)).trans hc_1192
        have hc_1219 : σ_1201 (27 + 5) = q_an G 8 ts := (hf_1203 _ (by omega)).trans hc_1193
        have hc_1220 : σ_1201 (25 + 9) = q_an G 100 tu := (hf_1203 _ (by omega)).trans hc_1194
        have hc_1221 : ∀ j9 : Nat, j9 < 4 → σ_1201 (25 + 10 + 2 * j9) = o7 G (25 + 10 + 2 * j9) (lN (nm j9)) (lN (on j9)) (nI (sl j9)) (nI (mo j9)) (nI (nb j9)) := fun j9 hj0 => (hf_1203 _ (by omega)).trans (hc_1195 j9 (by omega))
        have hc_1222 : ∀ j9 : Nat, j9 < 4 → σ_1201 (25 + 10 + 2 * j9 + 1) = q_an G 5 (bm j9) := fun j9 hj0 => (hf_1203 _ (by omega)).trans (hc_1196 j9 (by omega))
        have hc_1223 : σ_1201 (27 + 2) = q_an G 8 (va_up fi (x_pl (g 1) p) (fi (x_pl (g 1) p) - k)) := (hf_1203 _ (by omega)).trans hc_1197
        have hc_1224 : σ_1201 (27 + 3) = q_an G 8 (va_up se (x_pl (g 1) p) (se (x_pl (g 1) p) - l)) := (hf_1203 _ (by omega)).trans hc_1198
        have hc_1225 : σ_1201 27 = o6 G (27) (nI (s_take g p k l 1)) (nI (s_take g p k l 2)) := (hf_1203 _ (by omega)).trans hc_1199
        have hc_1226 : σ_1201 45 = o1 G (h0) (h1) (h2) (h3x_805) (h4x_806) := (hf_1203 _ (by omega)).trans hc_1200
        refine A_aload_n hg dX10_makeTurn_123 rfl rfl ?_
        refine A_getf (v := .ref (q_h G + 25)) hg fl_RX10_40 dX10_makeTurn_124 hc_1204 (by omega) rfl ?_
        refine A_iload_n hg dX10_makeTurn_127 rfl rfl ?_
        refine A_iload_n hg dX10_makeTurn_128 rfl rfl ?_
        refine A_iload hg dX10_makeTurn_129 rfl ?_
        refine A_iload hg dX10_makeTurn_131 rfl ?_
        refine A_vV (kc2 := 0) (ks2 := 0) (As := [.int (nI (p)), .int (nI (k)), .int (nI (l)), .int (nI (s_tot (s_take g p k l)))]) (rest := []) hg lk_RX10_399 in_X0_keepTurn se_X0_keepTurn rfl dX10_makeTurn_133 ⟨by decide, by decide⟩ rfl rfl ⟨by decide, by decide⟩ hc_1215 (by omega) rfl rfl (Nat.le_of_ble_eq_true rfl) (c_X0_keepTurn G ex n σ_1201 25 (g 0) (g 3) (g 4) (g 5) (g 6) tu p k l (s_tot (s_take g p k l)) hc_1215 hc_1220 (by omega) (by omega)) ?_
        rintro σ_1230 ⟨hc_1227, hc_1228, hf_1229⟩
        have hc_1231 : σ_1230 0 = o10 G (z1) (z2) (z3) := (hf_1229 _ (by omega)).trans hc_1204
        have hc_1232 : σ_1230 43 = o4 G (43)  := (hf_1229 _ (by omega)).trans hc_1205
        have hc_1233 : σ_1230 44 = q_rn G 4 4 (fun j => some (46 + 8 * j)) := (hf_1229 _ (by omega)).trans hc_1206
        have hc_1234 : ∀ j9 : Nat, j9 < 4 → σ_1230 (46 + 8 * j9) = o8 G (46 + 8 * j9) (nI (flA j9)) (nI (n0A j9)) (nI (gvA j9)) (nI (gsA j9)) (nI (lmA j9)) (nI (vsA j9)) := fun j9 hj0 => (hf_1229 _ (by omega)).trans (hc_1207 j9 (by omega))
        have hc_1235 : ∀ j9 : Nat, j9 < 4 → σ_1230 (46 + 8 * j9 + 1) = o7 G (46 + 8 * j9 + 1) (lN (nmA j9)) (lN (onA j9)) (nI (slA j9)) (nI (moA j9)) (nI (nbA j9)) := fun j9 hj0 => (hf_1229 _ (by omega)).trans (hc_1208 j9 (by omega))
        have hc_1236 : ∀ j9 : Nat, j9 < 4 → σ_1230 (46 + 8 * j9 + 2) = q_an G 5 (bmA j9) := fun j9 hj0 => (hf_1229 _ (by omega)).trans (hc_1209 j9 (by omega))
        have hc_1237 : ∀ j9 : Nat, j9 < 4 → σ_1230 (46 + 8 * j9 + 3) = q_an G 1681 (skA j9) := fun j9 hj0 => (hf_1229 _ (by omega)).trans (hc_1210 j9 (by omega))
        have hc_1238 : ∀ j9 : Nat, j9 < 4 → σ_1230 (46 + 8 * j9 + 4) = q_an G 1681 (s2A j9) := fun j9 hj0 => (hf_1229 _ (by omega)).trans (hc_1211 j9 (by omega))
        have hc_1239 : ∀ j9 : Nat, j9 < 4 → σ_1230 (46 + 8 * j9 + 5) = q_an G 1681 (vaA j9) := fun j9 hj0 => (hf_1229 _ (by omega)).trans (hc_1212 j9 (by omega))
        have hc_1240 : ∀ j9 : Nat, j9 < 4 → σ_1230 (46 + 8 * j9 + 6) = q_an G 1681 (spA j9) := fun j9 hj0 => (hf_1229 _ (by omega)).trans (hc_1213 j9 (by omega))
        have hc_1241 : ∀ j9 : Nat, j9 < 4 → σ_1230 (46 + 8 * j9 + 7) = q_an G 1681 (rfA j9) := fun j9 hj0 => (hf_1229 _ (by omega)).trans (hc_1214 j9 (by omega))
        have hc_1242 : σ_1230 26 = q_rn G 3 4 (fun j => some (25 + 10 + 2 * j)) := (hf_1229 _ (by omega)).trans hc_1216
        have hc_1243 : σ_1230 (27 + 1) = q_an G 8 kd := (hf_1229 _ (by omega)).trans hc_1217
        have hc_1244 : σ_1230 (27 + 4) = q_an G 8 tf := (hf_1229 _ (by omega)).trans hc_1218
        have hc_1245 : σ_1230 (27 + 5) = q_an G 8 ts := (hf_1229 _ (by omega)).trans hc_1219
        have hc_1246 : ∀ j9 : Nat, j9 < 4 → σ_1230 (25 + 10 + 2 * j9) = o7 G (25 + 10 + 2 * j9) (lN (nm j9)) (lN (on j9)) (nI (sl j9)) (nI (mo j9)) (nI (nb j9)) := fun j9 hj0 => (hf_1229 _ (by omega)).trans (hc_1221 j9 (by omega))
        have hc_1247 : ∀ j9 : Nat, j9 < 4 → σ_1230 (25 + 10 + 2 * j9 + 1) = q_an G 5 (bm j9) := fun j9 hj0 => (hf_1229 _ (by omega)).trans (hc_1222 j9 (by omega))
        have hc_1248 : σ_1230 (27 + 2) = q_an G 8 (va_up fi (x_pl (g 1) p) (fi (x_pl (g 1) p) - k)) := (hf_1229 _ (by omega)).trans hc_1223
        have hc_1249 : σ_1230 (27 + 3) = q_an G 8 (va_up se (x_pl (g 1) p) (se (x_pl (g 1) p) - l)) := (hf_1229 _ (by omega)).trans hc_1224
        have hc_1250 : σ_1230 27 = o6 G (27) (nI (s_take g p k l 1)) (nI (s_take g p k l 2)) := (hf_1229 _ (by omega)).trans hc_1225
        have hc_1251 : σ_1230 45 = o1 G (h0) (h1) (h2) (h3x_805) (h4x_806) := (hf_1229 _ (by omega)).trans hc_1226
        have hc_1252 : σ_1230 (25 + 8) = q_an G 10 (x_acP ac (g 3) (k + l) (s_over (s_take g p k l)) (s_tot (s_take g p k l)) (decide (s_tot g ≠ 0))) := (hf_1229 _ (by omega)).trans hc_1202
        refine A_aload_n hg dX10_makeTurn_136 rfl rfl ?_
        refine A_getf (v := .ref (q_h G + 25)) hg fl_RX10_40 dX10_makeTurn_137 hc_1231 (by omega) rfl ?_
        refine A_dup hg dX10_makeTurn_140 rfl ?_
        refine A_getf (v := .int (nI (g 4))) hg fl_RX10_137 dX10_makeTurn_141 hc_1227 (by omega) rfl ?_
        refine A_iconst (v := (nI (1))) hg dX10_makeTurn_144 (by decide) ?_
        refine A_iaddN hg dX10_makeTurn_145 ?_
        refine A_putf hg fl_RX10_137 dX10_makeTurn_146 hc_1227 (by omega) (Nat.le_of_ble_eq_true rfl) rfl rfl rfl (fun σ_1253 hc_1254 hf_1255 => ?_)
        have hc_1254 : σ_1253 25 = o0 G (25) (nI (g 0)) (nI (g 3)) (nI ((g 4) + 1)) (nI (g 5)) (nI (min ((g 6) + 1) 20)) := hc_1254
        have hc_1256 : σ_1253 0 = o10 G (z1) (z2) (z3) := (hf_1255 _ (by omega)).trans hc_1231
        have hc_1257 : σ_1253 43 = o4 G (43)  := (hf_1255 _ (by omega)).trans hc_1232
        have hc_1258 : σ_1253 44 = q_rn G 4 4 (fun j => some (46 + 8 * j)) := (hf_1255 _ (by omega)).trans hc_1233
        have hc_1259 : ∀ j9 : Nat, j9 < 4 → σ_1253 (46 + 8 * j9) = o8 G (46 + 8 * j9) (nI (flA j9)) (nI (n0A j9)) (nI (gvA j9)) (nI (gsA j9)) (nI (lmA j9)) (nI (vsA j9)) := fun j9 hj0 => (hf_1255 _ (by omega)).trans (hc_1234 j9 (by omega))
        have hc_1260 : ∀ j9 : Nat, j9 < 4 → σ_1253 (46 + 8 * j9 + 1) = o7 G (46 + 8 * j9 + 1) (lN (nmA j9)) (lN (onA j9)) (nI (slA j9)) (nI (moA j9)) (nI (nbA j9)) := fun j9 hj0 => (hf_1255 _ (by omega)).trans (hc_1235 j9 (by omega))
        have hc_1261 : ∀ j9 : Nat, j9 < 4 → σ_1253 (46 + 8 * j9 + 2) = q_an G 5 (bmA j9) := fun j9 hj0 => (hf_1255 _ (by omega)).trans (hc_1236 j9 (by omega))
        have hc_1262 : ∀ j9 : Nat, j9 < 4 → σ_1253 (46 + 8 * j9 + 3) = q_an G 1681 (skA j9) := fun j9 hj0 => (hf_1255 _ (by omega)).trans (hc_1237 j9 (by omega))
        have hc_1263 : ∀ j9 : Nat, j9 < 4 → σ_1253 (46 + 8 * j9 + 4) = q_an G 1681 (s2A j9) := fun j9 hj0 => (hf_1255 _ (by omega)).trans (hc_1238 j9 (by omega))
        have hc_1264 : ∀ j9 : Nat, j9 < 4 → σ_1253 (46 + 8 * j9 + 5) = q_an G 1681 (vaA j9) := fun j9 hj0 => (hf_1255 _ (by omega)).trans (hc_1239 j9 (by omega))
        have hc_1265 : ∀ j9 : Nat, j9 < 4 → σ_1253 (46 + 8 * j9 + 6) = q_an G 1681 (spA j9) := fun j9 hj0 => (hf_1255 _ (by omega)).trans (hc_1240 j9 (by omega))
        have hc_1266 : ∀ j9 : Nat, j9 < 4 → σ_1253 (46 + 8 * j9 + 7) = q_an G 1681 (rfA j9) := fun j9 hj0 => (hf_1255 _ (by omega)).trans (hc_1241 j9 (by omega))
        have hc_1267 : σ_1253 26 = q_rn G 3 4 (fun j => some (25 + 10 + 2 * j)) := (hf_1255 _ (by omega)).trans hc_1242
        have hc_1268 : σ_1253 (27 + 1) = q_an G 8 kd := (hf_1255 _ (by omega)).trans hc_1243
        have hc_1269 : σ_1253 (27 + 4) = q_an G 8 tf := (hf_1255 _ (by omega)).trans hc_1244
        have hc_1270 : σ_1253 (27 + 5) = q_an G 8 ts := (hf_1255 _ (by omega)).trans hc_1245
        have hc_1271 : ∀ j9 : Nat, j9 < 4 → σ_1253 (25 + 10 + 2 * j9) = o7 G (25 + 10 + 2 * j9) (lN (nm j9)) (lN (on j9)) (nI (sl j9)) (nI (mo j9)) (nI (nb j9)) := fun j9 hj0 => (hf_1255 _ (by omega)).trans (hc_1246 j9 (by omega))
        have hc_1272 : ∀ j9 : Nat, j9 < 4 → σ_1253 (25 + 10 + 2 * j9 + 1) = q_an G 5 (bm j9) := fun j9 hj0 => (hf_1255 _ (by omega)).trans (hc_1247 j9 (by omega))
        have hc_1273 : σ_1253 (27 + 2) = q_an G 8 (va_up fi (x_pl (g 1) p) (fi (x_pl (g 1) p) - k)) := (hf_1255 _ (by omega)).trans hc_1248
        have hc_1274 : σ_1253 (27 + 3) = q_an G 8 (va_up se (x_pl (g 1) p) (se (x_pl (g 1) p) - l)) := (hf_1255 _ (by omega)).trans hc_1249
        have hc_1275 : σ_1253 27 = o6 G (27) (nI (s_take g p k l 1)) (nI (s_take g p k l 2)) := (hf_1255 _ (by omega)).trans hc_1250
        have hc_1276 : σ_1253 45 = o1 G (h0) (h1) (h2) (h3x_805) (h4x_806) := (hf_1255 _ (by omega)).trans hc_1251
        have hc_1277 : σ_1253 (25 + 8) = q_an G 10 (x_acP ac (g 3) (k + l) (s_over (s_take g p k l)) (s_tot (s_take g p k l)) (decide (s_tot g ≠ 0))) := (hf_1255 _ (by omega)).trans hc_1252
        have hc_1278 : σ_1253 (25 + 9) = q_an G 100 (fun j => if j < 5 then (if j = 0 then (g 3) else if j = 1 then p else if j = 2 then k else if j = 3 then l else (s_tot (s_take g p k l))) else tu (j - 5)) := (hf_1255 _ (by omega)).trans hc_1228
        refine A_aload_n hg dX10_makeTurn_149 rfl rfl ?_
        refine A_getf (v := .ref (q_h G + 25)) hg fl_RX10_40 dX10_makeTurn_150 hc_1256 (by omega) rfl ?_
        refine A_iconst (v := (nI (1))) hg dX10_makeTurn_153 (by decide) ?_
        refine A_aload_n hg dX10_makeTurn_154 rfl rfl ?_
        refine A_getf (v := .ref (q_h G + 25)) hg fl_RX10_40 dX10_makeTurn_155 hc_1256 (by omega) rfl ?_
        refine A_getf (v := .int (nI (g 3))) hg fl_RX10_134 dX10_makeTurn_158 hc_1254 (by omega) rfl ?_
        refine A_isubN hg dX10_makeTurn_161 (by omega) ?_
        refine A_putf hg fl_RX10_134 dX10_makeTurn_162 hc_1254 (by omega) (Nat.le_of_ble_eq_true rfl) rfl rfl rfl (fun σ_1279 hc_1280 hf_1281 => ?_)
        have hc_1280 : σ_1279 25 = o0 G (25) (nI (g 0)) (nI (1 - (g 3))) (nI ((g 4) + 1)) (nI (g 5)) (nI (min ((g 6) + 1) 20)) := hc_1280
        have hc_1282 : σ_1279 0 = o10 G (z1) (z2) (z3) := (hf_1281 _ (by omega)).trans hc_1256
        have hc_1283 : σ_1279 43 = o4 G (43)  := (hf_1281 _ (by omega)).trans hc_1257
        have hc_1284 : σ_1279 44 = q_rn G 4 4 (fun j => some (46 + 8 * j)) := (hf_1281 _ (by omega)).trans hc_1258
        have hc_1285 : ∀ j9 : Nat, j9 < 4 → σ_1279 (46 + 8 * j9) = o8 G (46 + 8 * j9) (nI (flA j9)) (nI (n0A j9)) (nI (gvA j9)) (nI (gsA j9)) (nI (lmA j9)) (nI (vsA j9)) := fun j9 hj0 => (hf_1281 _ (by omega)).trans (hc_1259 j9 (by omega))
        have hc_1286 : ∀ j9 : Nat, j9 < 4 → σ_1279 (46 + 8 * j9 + 1) = o7 G (46 + 8 * j9 + 1) (lN (nmA j9)) (lN (onA j9)) (nI (slA j9)) (nI (moA j9)) (nI (nbA j9)) := fun j9 hj0 => (hf_1281 _ (by omega)).trans (hc_1260 j9 (by omega))
        have hc_1287 : ∀ j9 : Nat, j9 < 4 → σ_1279 (46 + 8 * j9 + 2) = q_an G 5 (bmA j9) := fun j9 hj0 => (hf_1281 _ (by omega)).trans (hc_1261 j9 (by omega))
        have hc_1288 : ∀ j9 : Nat, j9 < 4 → σ_1279 (46 + 8 * j9 + 3) = q_an G 1681 (skA j9) := fun j9 hj0 => (hf_1281 _ (by omega)).trans (hc_1262 j9 (by omega))
        have hc_1289 : ∀ j9 : Nat, j9 < 4 → σ_1279 (46 + 8 * j9 + 4) = q_an G 1681 (s2A j9) := fun j9 hj0 => (hf_1281 _ (by omega)).trans (hc_1263 j9 (by omega))
        have hc_1290 : ∀ j9 : Nat, j9 < 4 → σ_1279 (46 + 8 * j9 + 5) = q_an G 1681 (vaA j9) := fun j9 hj0 => (hf_1281 _ (by omega)).trans (hc_1264 j9 (by omega))
        have hc_1291 : ∀ j9 : Nat, j9 < 4 → σ_1279 (46 + 8 * j9 + 6) = q_an G 1681 (spA j9) := fun j9 hj0 => (hf_1281 _ (by omega)).trans (hc_1265 j9 (by omega))
        have hc_1292 : ∀ j9 : Nat, j9 < 4 → σ_1279 (46 + 8 * j9 + 7) = q_an G 1681 (rfA j9) := fun j9 hj0 => (hf_1281 _ (by omega)).trans (hc_1266 j9 (by omega))
        have hc_1293 : σ_1279 26 = q_rn G 3 4 (fun j => some (25 + 10 + 2 * j)) := (hf_1281 _ (by omega)).trans hc_1267
        have hc_1294 : σ_1279 (27 + 1) = q_an G 8 kd := (hf_1281 _ (by omega)).trans hc_1268
        have hc_1295 : σ_1279 (27 + 4) = q_an G 8 tf := (hf_1281 _ (by omega)).trans hc_1269
        have hc_1296 : σ_1279 (27 + 5) = q_an G 8 ts := (hf_1281 _ (by omega)).trans hc_1270
        have hc_1297 : ∀ j9 : Nat, j9 < 4 → σ_1279 (25 + 10 + 2 * j9) = o7 G (25 + 10 + 2 * j9) (lN (nm j9)) (lN (on j9)) (nI (sl j9)) (nI (mo j9)) (nI (nb j9)) := fun j9 hj0 => (hf_1281 _ (by omega)).trans (hc_1271 j9 (by omega))
        have hc_1298 : ∀ j9 : Nat, j9 < 4 → σ_1279 (25 + 10 + 2 * j9 + 1) = q_an G 5 (bm j9) := fun j9 hj0 => (hf_1281 _ (by omega)).trans (hc_1272 j9 (by omega))
        have hc_1299 : σ_1279 (27 + 2) = q_an G 8 (va_up fi (x_pl (g 1) p) (fi (x_pl (g 1) p) - k)) := (hf_1281 _ (by omega)).trans hc_1273
        have hc_1300 : σ_1279 (27 + 3) = q_an G 8 (va_up se (x_pl (g 1) p) (se (x_pl (g 1) p) - l)) := (hf_1281 _ (by omega)).trans hc_1274
        have hc_1301 : σ_1279 27 = o6 G (27) (nI (s_take g p k l 1)) (nI (s_take g p k l 2)) := (hf_1281 _ (by omega)).trans hc_1275
        have hc_1302 : σ_1279 45 = o1 G (h0) (h1) (h2) (h3x_805) (h4x_806) := (hf_1281 _ (by omega)).trans hc_1276
        have hc_1303 : σ_1279 (25 + 8) = q_an G 10 (x_acP ac (g 3) (k + l) (s_over (s_take g p k l)) (s_tot (s_take g p k l)) (decide (s_tot g ≠ 0))) := (hf_1281 _ (by omega)).trans hc_1277
        have hc_1304 : σ_1279 (25 + 9) = q_an G 100 (fun j => if j < 5 then (if j = 0 then (g 3) else if j = 1 then p else if j = 2 then k else if j = 3 then l else (s_tot (s_take g p k l))) else tu (j - 5)) := (hf_1281 _ (by omega)).trans hc_1278
        obtain ⟨q0, q1, q2, q3, q4, q5, q6⟩ := x_play_hi (k := k) (l := l) hgw hpp
        refine A_canon (x_tuP tu (g 3) p k l (s_tot (s_take g p k l))) hc_1304 (fun jj hj => rfl) (fun σ_1305 hc_1306 hf_1307 => ?_)
        have hc_1308 : σ_1305 0 = o10 G (z1) (z2) (z3) := (hf_1307 _ (by omega)).trans hc_1282
        have hc_1309 : σ_1305 43 = o4 G (43)  := (hf_1307 _ (by omega)).trans hc_1283
        have hc_1310 : σ_1305 44 = q_rn G 4 4 (fun j => some (46 + 8 * j)) := (hf_1307 _ (by omega)).trans hc_1284
        have hc_1311 : ∀ j9 : Nat, j9 < 4 → σ_1305 (46 + 8 * j9) = o8 G (46 + 8 * j9) (nI (flA j9)) (nI (n0A j9)) (nI (gvA j9)) (nI (gsA j9)) (nI (lmA j9)) (nI (vsA j9)) := fun j9 hj0 => (hf_1307 _ (by omega)).trans (hc_1285 j9 (by omega))
        have hc_1312 : ∀ j9 : Nat, j9 < 4 → σ_1305 (46 + 8 * j9 + 1) = o7 G (46 + 8 * j9 + 1) (lN (nmA j9)) (lN (onA j9)) (nI (slA j9)) (nI (moA j9)) (nI (nbA j9)) := fun j9 hj0 => (hf_1307 _ (by omega)).trans (hc_1286 j9 (by omega))
        have hc_1313 : ∀ j9 : Nat, j9 < 4 → σ_1305 (46 + 8 * j9 + 2) = q_an G 5 (bmA j9) := fun j9 hj0 => (hf_1307 _ (by omega)).trans (hc_1287 j9 (by omega))
        have hc_1314 : ∀ j9 : Nat, j9 < 4 → σ_1305 (46 + 8 * j9 + 3) = q_an G 1681 (skA j9) := fun j9 hj0 => (hf_1307 _ (by omega)).trans (hc_1288 j9 (by omega))
        have hc_1315 : ∀ j9 : Nat, j9 < 4 → σ_1305 (46 + 8 * j9 + 4) = q_an G 1681 (s2A j9) := fun j9 hj0 => (hf_1307 _ (by omega)).trans (hc_1289 j9 (by omega))
        have hc_1316 : ∀ j9 : Nat, j9 < 4 → σ_1305 (46 + 8 * j9 + 5) = q_an G 1681 (vaA j9) := fun j9 hj0 => (hf_1307 _ (by omega)).trans (hc_1290 j9 (by omega))
        have hc_1317 : ∀ j9 : Nat, j9 < 4 → σ_1305 (46 + 8 * j9 + 6) = q_an G 1681 (spA j9) := fun j9 hj0 => (hf_1307 _ (by omega)).trans (hc_1291 j9 (by omega))
        have hc_1318 : ∀ j9 : Nat, j9 < 4 → σ_1305 (46 + 8 * j9 + 7) = q_an G 1681 (rfA j9) := fun j9 hj0 => (hf_1307 _ (by omega)).trans (hc_1292 j9 (by omega))
        have hc_1319 : σ_1305 26 = q_rn G 3 4 (fun j => some (25 + 10 + 2 * j)) := (hf_1307 _ (by omega)).trans hc_1293
        have hc_1320 : σ_1305 (27 + 1) = q_an G 8 kd := (hf_1307 _ (by omega)).trans hc_1294
        have hc_1321 : σ_1305 (27 + 4) = q_an G 8 tf := (hf_1307 _ (by omega)).trans hc_1295
        have hc_1322 : σ_1305 (27 + 5) = q_an G 8 ts := (hf_1307 _ (by omega)).trans hc_1296
        have hc_1323 : ∀ j9 : Nat, j9 < 4 → σ_1305 (25 + 10 + 2 * j9) = o7 G (25 + 10 + 2 * j9) (lN (nm j9)) (lN (on j9)) (nI (sl j9)) (nI (mo j9)) (nI (nb j9)) := fun j9 hj0 => (hf_1307 _ (by omega)).trans (hc_1297 j9 (by omega))
        have hc_1324 : ∀ j9 : Nat, j9 < 4 → σ_1305 (25 + 10 + 2 * j9 + 1) = q_an G 5 (bm j9) := fun j9 hj0 => (hf_1307 _ (by omega)).trans (hc_1298 j9 (by omega))
        have hc_1325 : σ_1305 (27 + 2) = q_an G 8 (va_up fi (x_pl (g 1) p) (fi (x_pl (g 1) p) - k)) := (hf_1307 _ (by omega)).trans hc_1299
        have hc_1326 : σ_1305 (27 + 3) = q_an G 8 (va_up se (x_pl (g 1) p) (se (x_pl (g 1) p) - l)) := (hf_1307 _ (by omega)).trans hc_1300
        have hc_1327 : σ_1305 27 = o6 G (27) (nI (s_take g p k l 1)) (nI (s_take g p k l 2)) := (hf_1307 _ (by omega)).trans hc_1301
        have hc_1328 : σ_1305 45 = o1 G (h0) (h1) (h2) (h3x_805) (h4x_806) := (hf_1307 _ (by omega)).trans hc_1302
        have hc_1329 : σ_1305 (25 + 8) = q_an G 10 (x_acP ac (g 3) (k + l) (s_over (s_take g p k l)) (s_tot (s_take g p k l)) (decide (s_tot g ≠ 0))) := (hf_1307 _ (by omega)).trans hc_1303
        have hc_1330 : σ_1305 25 = o0 G (25) (nI (g 0)) (nI (1 - (g 3))) (nI ((g 4) + 1)) (nI (g 5)) (nI (min ((g 6) + 1) 20)) := (hf_1307 _ (by omega)).trans hc_1280
        have hc_1331 : σ_1305 25 = o0 G (25) (nI (s_play g p k l 0)) (nI (s_play g p k l 3)) (nI (s_play g p k l 4)) (nI (s_play g p k l 5)) (nI (s_play g p k l 6)) := hc_1330.trans (by rw [q0, q3, q4, q5, q6])
        have hc_1332 : σ_1305 27 = o6 G (27) (nI (s_play g p k l 1)) (nI (s_play g p k l 2)) := hc_1327.trans (by rw [ek1, ek2, q1, q2])
        refine A_iload hg dX10_makeTurn_165 rfl ?_
        rw [hQ]
        exact A_ireturn hg (by decide) (by decide) rfl dX10_makeTurn_167 ⟨rfl, ⟨(h3x_805), (h4x_806), rfl, ⟨_, _, _, _, _, _, _, _, _, _, _, _, _, ⟨hc_1331, hc_1319, hc_1332, hc_1320, hc_1325, hc_1326, hc_1321, hc_1322, hc_1329, hc_1306, hc_1323, hc_1324⟩, x_gr_play hpp hgr0⟩, hc_1328, (fun i hi => ((hf_1307 i (by omega)).trans ((hf_1281 i (by omega)).trans ((hf_1255 i (by omega)).trans ((hf_1229 i (by omega)).trans ((hf_1203 i (by omega)).trans ((hf_1176 i (by omega)).trans ((hf_1150 i (by omega)).trans ((hf_808 i (by omega)).trans ((hf_780 i (by omega)).trans ((hf_754 i (by omega)).trans (hf_728 i (by omega)))))))))))))⟩⟩
      · skip
        refine A_aload_n hg dX10_makeTurn_97 rfl rfl ?_
        refine A_getf (v := .ref (q_h G + 25)) hg fl_RX10_40 dX10_makeTurn_98 hc_1152 (by omega) rfl ?_
        refine A_iconst (v := (nI (3))) hg dX10_makeTurn_101 (by decide) ?_
        refine A_iconst (v := (nI (1))) hg dX10_makeTurn_102 (by decide) ?_
        refine A_vV (kc2 := 0) (ks2 := 0) (As := [.int (nI (3)), .int (nI (1))]) (rest := []) hg lk_RX10_396 in_X0_addToAccount se_X0_addToAccount rfl dX10_makeTurn_103 ⟨by decide, by decide⟩ rfl rfl ⟨by decide, by decide⟩ hc_1163 (by omega) rfl rfl (Nat.le_of_ble_eq_true rfl) (c_X0_addToAccount G ex n σ_1151 25 (g 0) (g 3) (g 4) (g 5) (g 6) (va_up (va_up (va_up ac ((g 3) * 5 + 0) (ac ((g 3) * 5 + 0) + 1)) ((g 3) * 5 + 1) ((va_up ac ((g 3) * 5 + 0) (ac ((g 3) * 5 + 0) + 1)) ((g 3) * 5 + 1) + (k + l))) ((g 3) * 5 + 2) ((va_up (va_up ac ((g 3) * 5 + 0) (ac ((g 3) * 5 + 0) + 1)) ((g 3) * 5 + 1) ((va_up ac ((g 3) * 5 + 0) (ac ((g 3) * 5 + 0) + 1)) ((g 3) * 5 + 1) + (k + l))) ((g 3) * 5 + 2) + 1)) 3 1 hc_1163 hc_1149 (by omega) (by omega) (by omega)) ?_
        rintro σ_1335 ⟨hc_1333, hf_1334⟩
        have hc_1336 : σ_1335 0 = o10 G (z1) (z2) (z3) := (hf_1334 _ (by omega)).trans hc_1152
        have hc_1337 : σ_1335 43 = o4 G (43)  := (hf_1334 _ (by omega)).trans hc_1153
        have hc_1338 : σ_1335 44 = q_rn G 4 4 (fun j => some (46 + 8 * j)) := (hf_1334 _ (by omega)).trans hc_1154
        have hc_1339 : ∀ j9 : Nat, j9 < 4 → σ_1335 (46 + 8 * j9) = o8 G (46 + 8 * j9) (nI (flA j9)) (nI (n0A j9)) (nI (gvA j9)) (nI (gsA j9)) (nI (lmA j9)) (nI (vsA j9)) := fun j9 hj0 => (hf_1334 _ (by omega)).trans (hc_1155 j9 (by omega))
        have hc_1340 : ∀ j9 : Nat, j9 < 4 → σ_1335 (46 + 8 * j9 + 1) = o7 G (46 + 8 * j9 + 1) (lN (nmA j9)) (lN (onA j9)) (nI (slA j9)) (nI (moA j9)) (nI (nbA j9)) := fun j9 hj0 => (hf_1334 _ (by omega)).trans (hc_1156 j9 (by omega))
        have hc_1341 : ∀ j9 : Nat, j9 < 4 → σ_1335 (46 + 8 * j9 + 2) = q_an G 5 (bmA j9) := fun j9 hj0 => (hf_1334 _ (by omega)).trans (hc_1157 j9 (by omega))
        have hc_1342 : ∀ j9 : Nat, j9 < 4 → σ_1335 (46 + 8 * j9 + 3) = q_an G 1681 (skA j9) := fun j9 hj0 => (hf_1334 _ (by omega)).trans (hc_1158 j9 (by omega))
        have hc_1343 : ∀ j9 : Nat, j9 < 4 → σ_1335 (46 + 8 * j9 + 4) = q_an G 1681 (s2A j9) := fun j9 hj0 => (hf_1334 _ (by omega)).trans (hc_1159 j9 (by omega))
        have hc_1344 : ∀ j9 : Nat, j9 < 4 → σ_1335 (46 + 8 * j9 + 5) = q_an G 1681 (vaA j9) := fun j9 hj0 => (hf_1334 _ (by omega)).trans (hc_1160 j9 (by omega))
        have hc_1345 : ∀ j9 : Nat, j9 < 4 → σ_1335 (46 + 8 * j9 + 6) = q_an G 1681 (spA j9) := fun j9 hj0 => (hf_1334 _ (by omega)).trans (hc_1161 j9 (by omega))
        have hc_1346 : ∀ j9 : Nat, j9 < 4 → σ_1335 (46 + 8 * j9 + 7) = q_an G 1681 (rfA j9) := fun j9 hj0 => (hf_1334 _ (by omega)).trans (hc_1162 j9 (by omega))
        have hc_1347 : σ_1335 25 = o0 G (25) (nI (g 0)) (nI (g 3)) (nI (g 4)) (nI (g 5)) (nI (g 6)) := (hf_1334 _ (by omega)).trans hc_1163
        have hc_1348 : σ_1335 26 = q_rn G 3 4 (fun j => some (25 + 10 + 2 * j)) := (hf_1334 _ (by omega)).trans hc_1164
        have hc_1349 : σ_1335 (27 + 1) = q_an G 8 kd := (hf_1334 _ (by omega)).trans hc_1165
        have hc_1350 : σ_1335 (27 + 4) = q_an G 8 tf := (hf_1334 _ (by omega)).trans hc_1166
        have hc_1351 : σ_1335 (27 + 5) = q_an G 8 ts := (hf_1334 _ (by omega)).trans hc_1167
        have hc_1352 : σ_1335 (25 + 9) = q_an G 100 tu := (hf_1334 _ (by omega)).trans hc_1168
        have hc_1353 : ∀ j9 : Nat, j9 < 4 → σ_1335 (25 + 10 + 2 * j9) = o7 G (25 + 10 + 2 * j9) (lN (nm j9)) (lN (on j9)) (nI (sl j9)) (nI (mo j9)) (nI (nb j9)) := fun j9 hj0 => (hf_1334 _ (by omega)).trans (hc_1169 j9 (by omega))
        have hc_1354 : ∀ j9 : Nat, j9 < 4 → σ_1335 (25 + 10 + 2 * j9 + 1) = q_an G 5 (bm j9) := fun j9 hj0 => (hf_1334 _ (by omega)).trans (hc_1170 j9 (by omega))
        have hc_1355 : σ_1335 (27 + 2) = q_an G 8 (va_up fi (x_pl (g 1) p) (fi (x_pl (g 1) p) - k)) := (hf_1334 _ (by omega)).trans hc_1171
        have hc_1356 : σ_1335 (27 + 3) = q_an G 8 (va_up se (x_pl (g 1) p) (se (x_pl (g 1) p) - l)) := (hf_1334 _ (by omega)).trans hc_1172
        have hc_1357 : σ_1335 27 = o6 G (27) (nI (s_take g p k l 1)) (nI (s_take g p k l 2)) := (hf_1334 _ (by omega)).trans hc_1173
        have hc_1358 : σ_1335 45 = o1 G (h0) (h1) (h2) (h3x_805) (h4x_806) := (hf_1334 _ (by omega)).trans hc_1174
        refine A_goto (tgt := 123) hg dX10_makeTurn_106 (by decide) ?_
        refine A_canon (x_acP ac (g 3) (k + l) (s_over (s_take g p k l)) (s_tot (s_take g p k l)) (decide (s_tot g ≠ 0))) hc_1333 (fun jj hj => by unfold x_acP; rw [if_pos c94, if_pos c80]; rfl) (fun σ_1359 hc_1360 hf_1361 => ?_)
        have hc_1362 : σ_1359 0 = o10 G (z1) (z2) (z3) := (hf_1361 _ (by omega)).trans hc_1336
        have hc_1363 : σ_1359 43 = o4 G (43)  := (hf_1361 _ (by omega)).trans hc_1337
        have hc_1364 : σ_1359 44 = q_rn G 4 4 (fun j => some (46 + 8 * j)) := (hf_1361 _ (by omega)).trans hc_1338
        have hc_1365 : ∀ j9 : Nat, j9 < 4 → σ_1359 (46 + 8 * j9) = o8 G (46 + 8 * j9) (nI (flA j9)) (nI (n0A j9)) (nI (gvA j9)) (nI (gsA j9)) (nI (lmA j9)) (nI (vsA j9)) := fun j9 hj0 => (hf_1361 _ (by omega)).trans (hc_1339 j9 (by omega))
        have hc_1366 : ∀ j9 : Nat, j9 < 4 → σ_1359 (46 + 8 * j9 + 1) = o7 G (46 + 8 * j9 + 1) (lN (nmA j9)) (lN (onA j9)) (nI (slA j9)) (nI (moA j9)) (nI (nbA j9)) := fun j9 hj0 => (hf_1361 _ (by omega)).trans (hc_1340 j9 (by omega))
        have hc_1367 : ∀ j9 : Nat, j9 < 4 → σ_1359 (46 + 8 * j9 + 2) = q_an G 5 (bmA j9) := fun j9 hj0 => (hf_1361 _ (by omega)).trans (hc_1341 j9 (by omega))
        have hc_1368 : ∀ j9 : Nat, j9 < 4 → σ_1359 (46 + 8 * j9 + 3) = q_an G 1681 (skA j9) := fun j9 hj0 => (hf_1361 _ (by omega)).trans (hc_1342 j9 (by omega))
        have hc_1369 : ∀ j9 : Nat, j9 < 4 → σ_1359 (46 + 8 * j9 + 4) = q_an G 1681 (s2A j9) := fun j9 hj0 => (hf_1361 _ (by omega)).trans (hc_1343 j9 (by omega))
        have hc_1370 : ∀ j9 : Nat, j9 < 4 → σ_1359 (46 + 8 * j9 + 5) = q_an G 1681 (vaA j9) := fun j9 hj0 => (hf_1361 _ (by omega)).trans (hc_1344 j9 (by omega))
        have hc_1371 : ∀ j9 : Nat, j9 < 4 → σ_1359 (46 + 8 * j9 + 6) = q_an G 1681 (spA j9) := fun j9 hj0 => (hf_1361 _ (by omega)).trans (hc_1345 j9 (by omega))
        have hc_1372 : ∀ j9 : Nat, j9 < 4 → σ_1359 (46 + 8 * j9 + 7) = q_an G 1681 (rfA j9) := fun j9 hj0 => (hf_1361 _ (by omega)).trans (hc_1346 j9 (by omega))
        have hc_1373 : σ_1359 25 = o0 G (25) (nI (g 0)) (nI (g 3)) (nI (g 4)) (nI (g 5)) (nI (g 6)) := (hf_1361 _ (by omega)).trans hc_1347
        have hc_1374 : σ_1359 26 = q_rn G 3 4 (fun j => some (25 + 10 + 2 * j)) := (hf_1361 _ (by omega)).trans hc_1348
        have hc_1375 : σ_1359 (27 + 1) = q_an G 8 kd := (hf_1361 _ (by omega)).trans hc_1349
        have hc_1376 : σ_1359 (27 + 4) = q_an G 8 tf := (hf_1361 _ (by omega)).trans hc_1350
        have hc_1377 : σ_1359 (27 + 5) = q_an G 8 ts := (hf_1361 _ (by omega)).trans hc_1351
        have hc_1378 : σ_1359 (25 + 9) = q_an G 100 tu := (hf_1361 _ (by omega)).trans hc_1352
        have hc_1379 : ∀ j9 : Nat, j9 < 4 → σ_1359 (25 + 10 + 2 * j9) = o7 G (25 + 10 + 2 * j9) (lN (nm j9)) (lN (on j9)) (nI (sl j9)) (nI (mo j9)) (nI (nb j9)) := fun j9 hj0 => (hf_1361 _ (by omega)).trans (hc_1353 j9 (by omega))
        have hc_1380 : ∀ j9 : Nat, j9 < 4 → σ_1359 (25 + 10 + 2 * j9 + 1) = q_an G 5 (bm j9) := fun j9 hj0 => (hf_1361 _ (by omega)).trans (hc_1354 j9 (by omega))
        have hc_1381 : σ_1359 (27 + 2) = q_an G 8 (va_up fi (x_pl (g 1) p) (fi (x_pl (g 1) p) - k)) := (hf_1361 _ (by omega)).trans hc_1355
        have hc_1382 : σ_1359 (27 + 3) = q_an G 8 (va_up se (x_pl (g 1) p) (se (x_pl (g 1) p) - l)) := (hf_1361 _ (by omega)).trans hc_1356
        have hc_1383 : σ_1359 27 = o6 G (27) (nI (s_take g p k l 1)) (nI (s_take g p k l 2)) := (hf_1361 _ (by omega)).trans hc_1357
        have hc_1384 : σ_1359 45 = o1 G (h0) (h1) (h2) (h3x_805) (h4x_806) := (hf_1361 _ (by omega)).trans hc_1358
        refine A_aload_n hg dX10_makeTurn_123 rfl rfl ?_
        refine A_getf (v := .ref (q_h G + 25)) hg fl_RX10_40 dX10_makeTurn_124 hc_1362 (by omega) rfl ?_
        refine A_iload_n hg dX10_makeTurn_127 rfl rfl ?_
        refine A_iload_n hg dX10_makeTurn_128 rfl rfl ?_
        refine A_iload hg dX10_makeTurn_129 rfl ?_
        refine A_iload hg dX10_makeTurn_131 rfl ?_
        refine A_vV (kc2 := 0) (ks2 := 0) (As := [.int (nI (p)), .int (nI (k)), .int (nI (l)), .int (nI (s_tot (s_take g p k l)))]) (rest := []) hg lk_RX10_399 in_X0_keepTurn se_X0_keepTurn rfl dX10_makeTurn_133 ⟨by decide, by decide⟩ rfl rfl ⟨by decide, by decide⟩ hc_1373 (by omega) rfl rfl (Nat.le_of_ble_eq_true rfl) (c_X0_keepTurn G ex n σ_1359 25 (g 0) (g 3) (g 4) (g 5) (g 6) tu p k l (s_tot (s_take g p k l)) hc_1373 hc_1378 (by omega) (by omega)) ?_
        rintro σ_1388 ⟨hc_1385, hc_1386, hf_1387⟩
        have hc_1389 : σ_1388 0 = o10 G (z1) (z2) (z3) := (hf_1387 _ (by omega)).trans hc_1362
        have hc_1390 : σ_1388 43 = o4 G (43)  := (hf_1387 _ (by omega)).trans hc_1363
        have hc_1391 : σ_1388 44 = q_rn G 4 4 (fun j => some (46 + 8 * j)) := (hf_1387 _ (by omega)).trans hc_1364
        have hc_1392 : ∀ j9 : Nat, j9 < 4 → σ_1388 (46 + 8 * j9) = o8 G (46 + 8 * j9) (nI (flA j9)) (nI (n0A j9)) (nI (gvA j9)) (nI (gsA j9)) (nI (lmA j9)) (nI (vsA j9)) := fun j9 hj0 => (hf_1387 _ (by omega)).trans (hc_1365 j9 (by omega))
        have hc_1393 : ∀ j9 : Nat, j9 < 4 → σ_1388 (46 + 8 * j9 + 1) = o7 G (46 + 8 * j9 + 1) (lN (nmA j9)) (lN (onA j9)) (nI (slA j9)) (nI (moA j9)) (nI (nbA j9)) := fun j9 hj0 => (hf_1387 _ (by omega)).trans (hc_1366 j9 (by omega))
        have hc_1394 : ∀ j9 : Nat, j9 < 4 → σ_1388 (46 + 8 * j9 + 2) = q_an G 5 (bmA j9) := fun j9 hj0 => (hf_1387 _ (by omega)).trans (hc_1367 j9 (by omega))
        have hc_1395 : ∀ j9 : Nat, j9 < 4 → σ_1388 (46 + 8 * j9 + 3) = q_an G 1681 (skA j9) := fun j9 hj0 => (hf_1387 _ (by omega)).trans (hc_1368 j9 (by omega))
        have hc_1396 : ∀ j9 : Nat, j9 < 4 → σ_1388 (46 + 8 * j9 + 4) = q_an G 1681 (s2A j9) := fun j9 hj0 => (hf_1387 _ (by omega)).trans (hc_1369 j9 (by omega))
        have hc_1397 : ∀ j9 : Nat, j9 < 4 → σ_1388 (46 + 8 * j9 + 5) = q_an G 1681 (vaA j9) := fun j9 hj0 => (hf_1387 _ (by omega)).trans (hc_1370 j9 (by omega))
        have hc_1398 : ∀ j9 : Nat, j9 < 4 → σ_1388 (46 + 8 * j9 + 6) = q_an G 1681 (spA j9) := fun j9 hj0 => (hf_1387 _ (by omega)).trans (hc_1371 j9 (by omega))
        have hc_1399 : ∀ j9 : Nat, j9 < 4 → σ_1388 (46 + 8 * j9 + 7) = q_an G 1681 (rfA j9) := fun j9 hj0 => (hf_1387 _ (by omega)).trans (hc_1372 j9 (by omega))
        have hc_1400 : σ_1388 26 = q_rn G 3 4 (fun j => some (25 + 10 + 2 * j)) := (hf_1387 _ (by omega)).trans hc_1374
        have hc_1401 : σ_1388 (27 + 1) = q_an G 8 kd := (hf_1387 _ (by omega)).trans hc_1375
        have hc_1402 : σ_1388 (27 + 4) = q_an G 8 tf := (hf_1387 _ (by omega)).trans hc_1376
        have hc_1403 : σ_1388 (27 + 5) = q_an G 8 ts := (hf_1387 _ (by omega)).trans hc_1377
        have hc_1404 : ∀ j9 : Nat, j9 < 4 → σ_1388 (25 + 10 + 2 * j9) = o7 G (25 + 10 + 2 * j9) (lN (nm j9)) (lN (on j9)) (nI (sl j9)) (nI (mo j9)) (nI (nb j9)) := fun j9 hj0 => (hf_1387 _ (by omega)).trans (hc_1379 j9 (by omega))
        have hc_1405 : ∀ j9 : Nat, j9 < 4 → σ_1388 (25 + 10 + 2 * j9 + 1) = q_an G 5 (bm j9) := fun j9 hj0 => (hf_1387 _ (by omega)).trans (hc_1380 j9 (by omega))
        have hc_1406 : σ_1388 (27 + 2) = q_an G 8 (va_up fi (x_pl (g 1) p) (fi (x_pl (g 1) p) - k)) := (hf_1387 _ (by omega)).trans hc_1381
        have hc_1407 : σ_1388 (27 + 3) = q_an G 8 (va_up se (x_pl (g 1) p) (se (x_pl (g 1) p) - l)) := (hf_1387 _ (by omega)).trans hc_1382
        have hc_1408 : σ_1388 27 = o6 G (27) (nI (s_take g p k l 1)) (nI (s_take g p k l 2)) := (hf_1387 _ (by omega)).trans hc_1383
        have hc_1409 : σ_1388 45 = o1 G (h0) (h1) (h2) (h3x_805) (h4x_806) := (hf_1387 _ (by omega)).trans hc_1384
        have hc_1410 : σ_1388 (25 + 8) = q_an G 10 (x_acP ac (g 3) (k + l) (s_over (s_take g p k l)) (s_tot (s_take g p k l)) (decide (s_tot g ≠ 0))) := (hf_1387 _ (by omega)).trans hc_1360
        refine A_aload_n hg dX10_makeTurn_136 rfl rfl ?_
        refine A_getf (v := .ref (q_h G + 25)) hg fl_RX10_40 dX10_makeTurn_137 hc_1389 (by omega) rfl ?_
        refine A_dup hg dX10_makeTurn_140 rfl ?_
        refine A_getf (v := .int (nI (g 4))) hg fl_RX10_137 dX10_makeTurn_141 hc_1385 (by omega) rfl ?_
        refine A_iconst (v := (nI (1))) hg dX10_makeTurn_144 (by decide) ?_
        refine A_iaddN hg dX10_makeTurn_145 ?_
        refine A_putf hg fl_RX10_137 dX10_makeTurn_146 hc_1385 (by omega) (Nat.le_of_ble_eq_true rfl) rfl rfl rfl (fun σ_1411 hc_1412 hf_1413 => ?_)
        have hc_1412 : σ_1411 25 = o0 G (25) (nI (g 0)) (nI (g 3)) (nI ((g 4) + 1)) (nI (g 5)) (nI (min ((g 6) + 1) 20)) := hc_1412
        have hc_1414 : σ_1411 0 = o10 G (z1) (z2) (z3) := (hf_1413 _ (by omega)).trans hc_1389
        have hc_1415 : σ_1411 43 = o4 G (43)  := (hf_1413 _ (by omega)).trans hc_1390
        have hc_1416 : σ_1411 44 = q_rn G 4 4 (fun j => some (46 + 8 * j)) := (hf_1413 _ (by omega)).trans hc_1391
        have hc_1417 : ∀ j9 : Nat, j9 < 4 → σ_1411 (46 + 8 * j9) = o8 G (46 + 8 * j9) (nI (flA j9)) (nI (n0A j9)) (nI (gvA j9)) (nI (gsA j9)) (nI (lmA j9)) (nI (vsA j9)) := fun j9 hj0 => (hf_1413 _ (by omega)).trans (hc_1392 j9 (by omega))
        have hc_1418 : ∀ j9 : Nat, j9 < 4 → σ_1411 (46 + 8 * j9 + 1) = o7 G (46 + 8 * j9 + 1) (lN (nmA j9)) (lN (onA j9)) (nI (slA j9)) (nI (moA j9)) (nI (nbA j9)) := fun j9 hj0 => (hf_1413 _ (by omega)).trans (hc_1393 j9 (by omega))
        have hc_1419 : ∀ j9 : Nat, j9 < 4 → σ_1411 (46 + 8 * j9 + 2) = q_an G 5 (bmA j9) := fun j9 hj0 => (hf_1413 _ (by omega)).trans (hc_1394 j9 (by omega))
        have hc_1420 : ∀ j9 : Nat, j9 < 4 → σ_1411 (46 + 8 * j9 + 3) = q_an G 1681 (skA j9) := fun j9 hj0 => (hf_1413 _ (by omega)).trans (hc_1395 j9 (by omega))
        have hc_1421 : ∀ j9 : Nat, j9 < 4 → σ_1411 (46 + 8 * j9 + 4) = q_an G 1681 (s2A j9) := fun j9 hj0 => (hf_1413 _ (by omega)).trans (hc_1396 j9 (by omega))
        have hc_1422 : ∀ j9 : Nat, j9 < 4 → σ_1411 (46 + 8 * j9 + 5) = q_an G 1681 (vaA j9) := fun j9 hj0 => (hf_1413 _ (by omega)).trans (hc_1397 j9 (by omega))
        have hc_1423 : ∀ j9 : Nat, j9 < 4 → σ_1411 (46 + 8 * j9 + 6) = q_an G 1681 (spA j9) := fun j9 hj0 => (hf_1413 _ (by omega)).trans (hc_1398 j9 (by omega))
        have hc_1424 : ∀ j9 : Nat, j9 < 4 → σ_1411 (46 + 8 * j9 + 7) = q_an G 1681 (rfA j9) := fun j9 hj0 => (hf_1413 _ (by omega)).trans (hc_1399 j9 (by omega))
        have hc_1425 : σ_1411 26 = q_rn G 3 4 (fun j => some (25 + 10 + 2 * j)) := (hf_1413 _ (by omega)).trans hc_1400
        have hc_1426 : σ_1411 (27 + 1) = q_an G 8 kd := (hf_1413 _ (by omega)).trans hc_1401
        have hc_1427 : σ_1411 (27 + 4) = q_an G 8 tf := (hf_1413 _ (by omega)).trans hc_1402
        have hc_1428 : σ_1411 (27 + 5) = q_an G 8 ts := (hf_1413 _ (by omega)).trans hc_1403
        have hc_1429 : ∀ j9 : Nat, j9 < 4 → σ_1411 (25 + 10 + 2 * j9) = o7 G (25 + 10 + 2 * j9) (lN (nm j9)) (lN (on j9)) (nI (sl j9)) (nI (mo j9)) (nI (nb j9)) := fun j9 hj0 => (hf_1413 _ (by omega)).trans (hc_1404 j9 (by omega))
        have hc_1430 : ∀ j9 : Nat, j9 < 4 → σ_1411 (25 + 10 + 2 * j9 + 1) = q_an G 5 (bm j9) := fun j9 hj0 => (hf_1413 _ (by omega)).trans (hc_1405 j9 (by omega))
        have hc_1431 : σ_1411 (27 + 2) = q_an G 8 (va_up fi (x_pl (g 1) p) (fi (x_pl (g 1) p) - k)) := (hf_1413 _ (by omega)).trans hc_1406
        have hc_1432 : σ_1411 (27 + 3) = q_an G 8 (va_up se (x_pl (g 1) p) (se (x_pl (g 1) p) - l)) := (hf_1413 _ (by omega)).trans hc_1407
        have hc_1433 : σ_1411 27 = o6 G (27) (nI (s_take g p k l 1)) (nI (s_take g p k l 2)) := (hf_1413 _ (by omega)).trans hc_1408
        have hc_1434 : σ_1411 45 = o1 G (h0) (h1) (h2) (h3x_805) (h4x_806) := (hf_1413 _ (by omega)).trans hc_1409
        have hc_1435 : σ_1411 (25 + 8) = q_an G 10 (x_acP ac (g 3) (k + l) (s_over (s_take g p k l)) (s_tot (s_take g p k l)) (decide (s_tot g ≠ 0))) := (hf_1413 _ (by omega)).trans hc_1410
        have hc_1436 : σ_1411 (25 + 9) = q_an G 100 (fun j => if j < 5 then (if j = 0 then (g 3) else if j = 1 then p else if j = 2 then k else if j = 3 then l else (s_tot (s_take g p k l))) else tu (j - 5)) := (hf_1413 _ (by omega)).trans hc_1386
        refine A_aload_n hg dX10_makeTurn_149 rfl rfl ?_
        refine A_getf (v := .ref (q_h G + 25)) hg fl_RX10_40 dX10_makeTurn_150 hc_1414 (by omega) rfl ?_
        refine A_iconst (v := (nI (1))) hg dX10_makeTurn_153 (by decide) ?_
        refine A_aload_n hg dX10_makeTurn_154 rfl rfl ?_
        refine A_getf (v := .ref (q_h G + 25)) hg fl_RX10_40 dX10_makeTurn_155 hc_1414 (by omega) rfl ?_
        refine A_getf (v := .int (nI (g 3))) hg fl_RX10_134 dX10_makeTurn_158 hc_1412 (by omega) rfl ?_
        refine A_isubN hg dX10_makeTurn_161 (by omega) ?_
        refine A_putf hg fl_RX10_134 dX10_makeTurn_162 hc_1412 (by omega) (Nat.le_of_ble_eq_true rfl) rfl rfl rfl (fun σ_1437 hc_1438 hf_1439 => ?_)
        have hc_1438 : σ_1437 25 = o0 G (25) (nI (g 0)) (nI (1 - (g 3))) (nI ((g 4) + 1)) (nI (g 5)) (nI (min ((g 6) + 1) 20)) := hc_1438
        have hc_1440 : σ_1437 0 = o10 G (z1) (z2) (z3) := (hf_1439 _ (by omega)).trans hc_1414
        have hc_1441 : σ_1437 43 = o4 G (43)  := (hf_1439 _ (by omega)).trans hc_1415
        have hc_1442 : σ_1437 44 = q_rn G 4 4 (fun j => some (46 + 8 * j)) := (hf_1439 _ (by omega)).trans hc_1416
        have hc_1443 : ∀ j9 : Nat, j9 < 4 → σ_1437 (46 + 8 * j9) = o8 G (46 + 8 * j9) (nI (flA j9)) (nI (n0A j9)) (nI (gvA j9)) (nI (gsA j9)) (nI (lmA j9)) (nI (vsA j9)) := fun j9 hj0 => (hf_1439 _ (by omega)).trans (hc_1417 j9 (by omega))
        have hc_1444 : ∀ j9 : Nat, j9 < 4 → σ_1437 (46 + 8 * j9 + 1) = o7 G (46 + 8 * j9 + 1) (lN (nmA j9)) (lN (onA j9)) (nI (slA j9)) (nI (moA j9)) (nI (nbA j9)) := fun j9 hj0 => (hf_1439 _ (by omega)).trans (hc_1418 j9 (by omega))
        have hc_1445 : ∀ j9 : Nat, j9 < 4 → σ_1437 (46 + 8 * j9 + 2) = q_an G 5 (bmA j9) := fun j9 hj0 => (hf_1439 _ (by omega)).trans (hc_1419 j9 (by omega))
        have hc_1446 : ∀ j9 : Nat, j9 < 4 → σ_1437 (46 + 8 * j9 + 3) = q_an G 1681 (skA j9) := fun j9 hj0 => (hf_1439 _ (by omega)).trans (hc_1420 j9 (by omega))
        have hc_1447 : ∀ j9 : Nat, j9 < 4 → σ_1437 (46 + 8 * j9 + 4) = q_an G 1681 (s2A j9) := fun j9 hj0 => (hf_1439 _ (by omega)).trans (hc_1421 j9 (by omega))
        have hc_1448 : ∀ j9 : Nat, j9 < 4 → σ_1437 (46 + 8 * j9 + 5) = q_an G 1681 (vaA j9) := fun j9 hj0 => (hf_1439 _ (by omega)).trans (hc_1422 j9 (by omega))
        have hc_1449 : ∀ j9 : Nat, j9 < 4 → σ_1437 (46 + 8 * j9 + 6) = q_an G 1681 (spA j9) := fun j9 hj0 => (hf_1439 _ (by omega)).trans (hc_1423 j9 (by omega))
        have hc_1450 : ∀ j9 : Nat, j9 < 4 → σ_1437 (46 + 8 * j9 + 7) = q_an G 1681 (rfA j9) := fun j9 hj0 => (hf_1439 _ (by omega)).trans (hc_1424 j9 (by omega))
        have hc_1451 : σ_1437 26 = q_rn G 3 4 (fun j => some (25 + 10 + 2 * j)) := (hf_1439 _ (by omega)).trans hc_1425
        have hc_1452 : σ_1437 (27 + 1) = q_an G 8 kd := (hf_1439 _ (by omega)).trans hc_1426
        have hc_1453 : σ_1437 (27 + 4) = q_an G 8 tf := (hf_1439 _ (by omega)).trans hc_1427
        have hc_1454 : σ_1437 (27 + 5) = q_an G 8 ts := (hf_1439 _ (by omega)).trans hc_1428
        have hc_1455 : ∀ j9 : Nat, j9 < 4 → σ_1437 (25 + 10 + 2 * j9) = o7 G (25 + 10 + 2 * j9) (lN (nm j9)) (lN (on j9)) (nI (sl j9)) (nI (mo j9)) (nI (nb j9)) := fun j9 hj0 => (hf_1439 _ (by omega)).trans (hc_1429 j9 (by omega))
        have hc_1456 : ∀ j9 : Nat, j9 < 4 → σ_1437 (25 + 10 + 2 * j9 + 1) = q_an G 5 (bm j9) := fun j9 hj0 => (hf_1439 _ (by omega)).trans (hc_1430 j9 (by omega))
        have hc_1457 : σ_1437 (27 + 2) = q_an G 8 (va_up fi (x_pl (g 1) p) (fi (x_pl (g 1) p) - k)) := (hf_1439 _ (by omega)).trans hc_1431
        have hc_1458 : σ_1437 (27 + 3) = q_an G 8 (va_up se (x_pl (g 1) p) (se (x_pl (g 1) p) - l)) := (hf_1439 _ (by omega)).trans hc_1432
        have hc_1459 : σ_1437 27 = o6 G (27) (nI (s_take g p k l 1)) (nI (s_take g p k l 2)) := (hf_1439 _ (by omega)).trans hc_1433
        have hc_1460 : σ_1437 45 = o1 G (h0) (h1) (h2) (h3x_805) (h4x_806) := (hf_1439 _ (by omega)).trans hc_1434
        have hc_1461 : σ_1437 (25 + 8) = q_an G 10 (x_acP ac (g 3) (k + l) (s_over (s_take g p k l)) (s_tot (s_take g p k l)) (decide (s_tot g ≠ 0))) := (hf_1439 _ (by omega)).trans hc_1435
        have hc_1462 : σ_1437 (25 + 9) = q_an G 100 (fun j => if j < 5 then (if j = 0 then (g 3) else if j = 1 then p else if j = 2 then k else if j = 3 then l else (s_tot (s_take g p k l))) else tu (j - 5)) := (hf_1439 _ (by omega)).trans hc_1436
        obtain ⟨q0, q1, q2, q3, q4, q5, q6⟩ := x_play_hi (k := k) (l := l) hgw hpp
        refine A_canon (x_tuP tu (g 3) p k l (s_tot (s_take g p k l))) hc_1462 (fun jj hj => rfl) (fun σ_1463 hc_1464 hf_1465 => ?_)
        have hc_1466 : σ_1463 0 = o10 G (z1) (z2) (z3) := (hf_1465 _ (by omega)).trans hc_1440
        have hc_1467 : σ_1463 43 = o4 G (43)  := (hf_1465 _ (by omega)).trans hc_1441
        have hc_1468 : σ_1463 44 = q_rn G 4 4 (fun j => some (46 + 8 * j)) := (hf_1465 _ (by omega)).trans hc_1442
        have hc_1469 : ∀ j9 : Nat, j9 < 4 → σ_1463 (46 + 8 * j9) = o8 G (46 + 8 * j9) (nI (flA j9)) (nI (n0A j9)) (nI (gvA j9)) (nI (gsA j9)) (nI (lmA j9)) (nI (vsA j9)) := fun j9 hj0 => (hf_1465 _ (by omega)).trans (hc_1443 j9 (by omega))
        have hc_1470 : ∀ j9 : Nat, j9 < 4 → σ_1463 (46 + 8 * j9 + 1) = o7 G (46 + 8 * j9 + 1) (lN (nmA j9)) (lN (onA j9)) (nI (slA j9)) (nI (moA j9)) (nI (nbA j9)) := fun j9 hj0 => (hf_1465 _ (by omega)).trans (hc_1444 j9 (by omega))
        have hc_1471 : ∀ j9 : Nat, j9 < 4 → σ_1463 (46 + 8 * j9 + 2) = q_an G 5 (bmA j9) := fun j9 hj0 => (hf_1465 _ (by omega)).trans (hc_1445 j9 (by omega))
        have hc_1472 : ∀ j9 : Nat, j9 < 4 → σ_1463 (46 + 8 * j9 + 3) = q_an G 1681 (skA j9) := fun j9 hj0 => (hf_1465 _ (by omega)).trans (hc_1446 j9 (by omega))
        have hc_1473 : ∀ j9 : Nat, j9 < 4 → σ_1463 (46 + 8 * j9 + 4) = q_an G 1681 (s2A j9) := fun j9 hj0 => (hf_1465 _ (by omega)).trans (hc_1447 j9 (by omega))
        have hc_1474 : ∀ j9 : Nat, j9 < 4 → σ_1463 (46 + 8 * j9 + 5) = q_an G 1681 (vaA j9) := fun j9 hj0 => (hf_1465 _ (by omega)).trans (hc_1448 j9 (by omega))
        have hc_1475 : ∀ j9 : Nat, j9 < 4 → σ_1463 (46 + 8 * j9 + 6) = q_an G 1681 (spA j9) := fun j9 hj0 => (hf_1465 _ (by omega)).trans (hc_1449 j9 (by omega))
        have hc_1476 : ∀ j9 : Nat, j9 < 4 → σ_1463 (46 + 8 * j9 + 7) = q_an G 1681 (rfA j9) := fun j9 hj0 => (hf_1465 _ (by omega)).trans (hc_1450 j9 (by omega))
        have hc_1477 : σ_1463 26 = q_rn G 3 4 (fun j => some (25 + 10 + 2 * j)) := (hf_1465 _ (by omega)).trans hc_1451
        have hc_1478 : σ_1463 (27 + 1) = q_an G 8 kd := (hf_1465 _ (by omega)).trans hc_1452
        have hc_1479 : σ_1463 (27 + 4) = q_an G 8 tf := (hf_1465 _ (by omega)).trans hc_1453
        have hc_1480 : σ_1463 (27 + 5) = q_an G 8 ts := (hf_1465 _ (by omega)).trans hc_1454
        have hc_1481 : ∀ j9 : Nat, j9 < 4 → σ_1463 (25 + 10 + 2 * j9) = o7 G (25 + 10 + 2 * j9) (lN (nm j9)) (lN (on j9)) (nI (sl j9)) (nI (mo j9)) (nI (nb j9)) := fun j9 hj0 => (hf_1465 _ (by omega)).trans (hc_1455 j9 (by omega))
        have hc_1482 : ∀ j9 : Nat, j9 < 4 → σ_1463 (25 + 10 + 2 * j9 + 1) = q_an G 5 (bm j9) := fun j9 hj0 => (hf_1465 _ (by omega)).trans (hc_1456 j9 (by omega))
        have hc_1483 : σ_1463 (27 + 2) = q_an G 8 (va_up fi (x_pl (g 1) p) (fi (x_pl (g 1) p) - k)) := (hf_1465 _ (by omega)).trans hc_1457
        have hc_1484 : σ_1463 (27 + 3) = q_an G 8 (va_up se (x_pl (g 1) p) (se (x_pl (g 1) p) - l)) := (hf_1465 _ (by omega)).trans hc_1458
        have hc_1485 : σ_1463 27 = o6 G (27) (nI (s_take g p k l 1)) (nI (s_take g p k l 2)) := (hf_1465 _ (by omega)).trans hc_1459
        have hc_1486 : σ_1463 45 = o1 G (h0) (h1) (h2) (h3x_805) (h4x_806) := (hf_1465 _ (by omega)).trans hc_1460
        have hc_1487 : σ_1463 (25 + 8) = q_an G 10 (x_acP ac (g 3) (k + l) (s_over (s_take g p k l)) (s_tot (s_take g p k l)) (decide (s_tot g ≠ 0))) := (hf_1465 _ (by omega)).trans hc_1461
        have hc_1488 : σ_1463 25 = o0 G (25) (nI (g 0)) (nI (1 - (g 3))) (nI ((g 4) + 1)) (nI (g 5)) (nI (min ((g 6) + 1) 20)) := (hf_1465 _ (by omega)).trans hc_1438
        have hc_1489 : σ_1463 25 = o0 G (25) (nI (s_play g p k l 0)) (nI (s_play g p k l 3)) (nI (s_play g p k l 4)) (nI (s_play g p k l 5)) (nI (s_play g p k l 6)) := hc_1488.trans (by rw [q0, q3, q4, q5, q6])
        have hc_1490 : σ_1463 27 = o6 G (27) (nI (s_play g p k l 1)) (nI (s_play g p k l 2)) := hc_1485.trans (by rw [ek1, ek2, q1, q2])
        refine A_iload hg dX10_makeTurn_165 rfl ?_
        rw [hQ]
        exact A_ireturn hg (by decide) (by decide) rfl dX10_makeTurn_167 ⟨rfl, ⟨(h3x_805), (h4x_806), rfl, ⟨_, _, _, _, _, _, _, _, _, _, _, _, _, ⟨hc_1489, hc_1477, hc_1490, hc_1478, hc_1483, hc_1484, hc_1479, hc_1480, hc_1487, hc_1464, hc_1481, hc_1482⟩, x_gr_play hpp hgr0⟩, hc_1486, (fun i hi => ((hf_1465 i (by omega)).trans ((hf_1439 i (by omega)).trans ((hf_1413 i (by omega)).trans ((hf_1387 i (by omega)).trans ((hf_1361 i (by omega)).trans ((hf_1334 i (by omega)).trans ((hf_1150 i (by omega)).trans ((hf_808 i (by omega)).trans ((hf_780 i (by omega)).trans ((hf_754 i (by omega)).trans (hf_728 i (by omega)))))))))))))⟩⟩
set_option maxRecDepth 100000 in
set_option maxHeartbeats 4000000 in
theorem c_X10_move (G : GL) (ex : Bool) (n : Nat) (σ : Nat → va_E) (z1 : Int32) (z2 : Int32) (z3 : Int32) (g : Nat → Nat) (nx : Nat) (m : Nat) (ps : Nat → Nat → Nat) (p : Int32) (k : Int32) (l : Int32) (hc0 : σ 0 = o10 G (z1) (z2) (z3)) (hn9 : 279 ≤ n) (hG : x_gm G σ 25 g) (hM : x_mx G σ) (hHi : x_hi G σ nx m ps) : CtX G yX10_move cX10_move 4 (some .int) ⟨7, 2, 12, 146⟩ [.ref (q_h G + 0), .int (p), .int (k), .int (l)] ex n σ (fun v9 σ2 => ∃ (p1 : Nat), ∃ (a1 : Nat), ∃ (b1 : Nat), v9 = some (.int (nI (s_tot (s_play g p1 a1 b1)))) ∧ (p = nI p1) ∧ (p1 < s_np g) ∧ (k = nI a1) ∧ (l = nI b1) ∧ (s_ref g p1 a1 b1 = 0) ∧ (x_gm G σ2 25 (s_play g p1 a1 b1)) ∧ (x_hi G σ2 ((nx + 1) % 8) (min (m + 1) 8) (x_psh m ps g)) ∧ (x_mx G σ2) ∧ (∀ i : Nat, i < 25 ∨ 223 < i → σ2 i = σ i)) (fun E σ2 => σ2 = σ ∧ ((E = "java/lang/IndexOutOfBoundsException" ∧ (∀ j : Nat, j < s_np g → p = nI j → False)) ∨ (E = "java/lang/IllegalStateException" ∧ (∃ p1 : Nat, p = nI p1 ∧ p1 < s_np g ∧ ¬ s_refI g p1 k l = 0)))) := by
  refine q_enter [some (.ref (q_h G + 0)), some (.int (p)), some (.int (k)), some (.int (l))] (by decide) (Nat.le_of_ble_eq_true rfl) rfl ?_
  intro K hg
  obtain ⟨Q, hQ⟩ : ∃ Q, Q = q_Q G K ex n 2 12 (fun v9 n' σ' => n' = n ∧ (fun v9 σ2 => ∃ (p1 : Nat), ∃ (a1 : Nat), ∃ (b1 : Nat), v9 = some (.int (nI (s_tot (s_play g p1 a1 b1)))) ∧ (p = nI p1) ∧ (p1 < s_np g) ∧ (k = nI a1) ∧ (l = nI b1) ∧ (s_ref g p1 a1 b1 = 0) ∧ (x_gm G σ2 25 (s_play g p1 a1 b1)) ∧ (x_hi G σ2 ((nx + 1) % 8) (min (m + 1) 8) (x_psh m ps g)) ∧ (x_mx G σ2) ∧ (∀ i : Nat, i < 25 ∨ 223 < i → σ2 i = σ i)) v9 σ') (fun E σ2 => σ2 = σ ∧ ((E = "java/lang/IndexOutOfBoundsException" ∧ (∀ j : Nat, j < s_np g → p = nI j → False)) ∨ (E = "java/lang/IllegalStateException" ∧ (∃ p1 : Nat, p = nI p1 ∧ p1 < s_np g ∧ ¬ s_refI g p1 k l = 0)))) := ⟨_, rfl⟩
  refine (?_ : AJ G K (q_Q G K ex n 2 12 _ _) 0 0 ex n 0 _ _ σ)
  rw [← hQ]
  have hG0 := hG
  obtain ⟨kd, fi, se, tf, ts, ac, tu, nm, on, sl, mo, nb, bm, ⟨hg_1, hg_2, hg_3, hg_4, hg_5, hg_6, hg_7, hg_8, hg_9, hg_10, hg_11, hg_12⟩, hgr⟩ := hG
  obtain ⟨hgw, hxp, htp, hrl, hac, htu⟩ := hgr
  have hrs := x_rl_rs hrl
  have hg0 := hgw.1
  have hg1 := hgw.2.1
  have hg2 := hgw.2.2.1
  have hg3 := hgw.2.2.2.1
  have hg6 := hgw.2.2.2.2.1
  have hnp : s_np g = g 1 + g 2 := rfl
  have hc_13 : ∀ j9 : Nat, j9 < g 0 → σ (25 + 10 + 2 * j9) = o7 G (25 + 10 + 2 * j9) (lN (nm j9)) (lN (on j9)) (nI (s_rule g j9 18)) (nI (s_rule g j9 19)) (nI (s_rule g j9 20)) := fun j9 hj => (hg_11 j9 (by omega)).trans (by rw [(hrl j9 hj).2.2.2.1, (hrl j9 hj).2.2.2.2.1, (hrl j9 hj).2.2.2.2.2.1])
  have hc_14 : ∀ j9 : Nat, j9 < g 0 → σ (25 + 10 + 2 * j9 + 1) = q_an G 5 (bm j9) := fun j9 hj => hg_12 j9 (by omega)
  have hHi0 := hHi
  obtain ⟨hnx, hm8, hc78, hc79, hjs, hps⟩ := hHi
  obtain ⟨h0, h1, h2, h3, h4, flA, n0A, gvA, gsA, lmA, vsA, nmA, onA, slA, moA, nbA, bmA, skA, s2A, vaA, spA, rfA, hm_15, hm_16, hm_17, hm_18, hm_19, hm_20, hm_21, hm_22, hm_23, hm_24, hm_25, hTI⟩ := hM
  refine A_aload_n hg dX10_move_0 rfl rfl ?_
  refine A_iload_n hg dX10_move_1 rfl rfl ?_
  refine A_pVX (kc2 := 1) (ks2 := 6) (As := [.int (p)]) (rest := []) hg lk_RX10_257 in_X10_needPart se_X10_needPart rfl dX10_move_2 ⟨by decide, by decide⟩ rfl rfl ⟨by decide, by decide⟩ hc0 (by omega) rfl rfl (Nat.le_of_ble_eq_true rfl) (c_X10_needPart G ex n σ z1 z2 z3 (g 0) (g 3) (g 4) (g 5) (g 6) (g 1) (g 2) p hc0 hg_1 hg_3 (by omega) (by omega) (by omega)) (fun E σx hx => by rw [hQ]; exact A_out hg (by decide) (by decide) (by obtain ⟨hs, hE, hx⟩ := hx; exact ⟨hs, Or.inl (⟨hE, hx⟩)⟩)) ?_
  rintro _ ⟨p1, rfl, hpe, hpl9⟩
  refine (?_ : AJ G K Q 1 6 ex n 5 [some (.ref (q_h G + 0)), some (.int (p)), some (.int (k)), some (.int (l))] [] σ)
  subst hpe
  have hpp : p1 < s_np g := hpl9
  refine A_aload_n hg dX10_move_5 rfl rfl ?_
  refine A_getf (v := .ref (q_h G + 25)) hg fl_RX10_40 dX10_move_6 hc0 (by omega) rfl ?_
  refine A_iload_n hg dX10_move_9 rfl rfl ?_
  refine A_iload_n hg dX10_move_10 rfl rfl ?_
  refine A_iload_n hg dX10_move_11 rfl rfl ?_
  refine A_eV (kc2 := 1) (ks2 := 6) (As := [.int (nI (p1)), .int (k), .int (l)]) (rest := []) hg lk_RX10_299 in_X0_reasonAgainst se_X0_reasonAgainst rfl dX10_move_12 ⟨by decide, by decide⟩ rfl rfl ⟨by decide, by decide⟩ hg_1 (by omega) rfl rfl (Nat.le_of_ble_eq_true rfl) (c_X0_reasonAgainst G ex n σ 25 (g 0) (g 3) (g 4) (g 5) (g 6) g kd fi se nm on bm p1 k l hg_1 hg_2 hg_3 hg_4 hg_5 hg_6 hc_13 hc_14 (by omega) hgw hxp hrs (by omega)) ?_
  have hrle : s_refI g p1 k l ≤ 7 := by
    unfold s_refI
    split
    · omega
    · exact s_ref_le _ _ _ _
  refine A_if_eqN (tgt := 29) hg dX10_move_15 (by omega) (by decide) (fun c15 => ?_) (fun c15 => ?_)
  · skip
    obtain ⟨a1, b1, hke, hle, hka, hkb, hkx, hly, hrf⟩ := s_refI_0 c15
    subst hke
    subst hle
    refine A_aload_n hg dX10_move_29 rfl rfl ?_
    refine A_getf (v := .ref (q_h G + 78)) hg fl_RX10_54 dX10_move_30 hc0 (by omega) rfl ?_
    refine A_aload_n hg dX10_move_33 rfl rfl ?_
    refine A_getf (v := .ref (q_h G + 25)) hg fl_RX10_40 dX10_move_34 hc0 (by omega) rfl ?_
    refine A_vV (kc2 := 1) (ks2 := 6) (As := [.ref (q_h G + 25)]) (rest := []) hg lk_RX10_389 in_X2_push se_X2_push rfl dX10_move_37 ⟨by decide, by decide⟩ rfl rfl ⟨by decide, by decide⟩ hc78 (by omega) rfl rfl (Nat.le_of_ble_eq_true rfl) (c_X2_push G ex n σ nx m 25 g hc78 hc79 (by omega) (by omega) (by omega) rfl (hjs nx hnx) hG0) ?_
    rintro σ_28 ⟨hG9, hc_26, hf_27⟩
    have hc_29 : σ_28 0 = o10 G (z1) (z2) (z3) := (hf_27 _ (by omega)).trans hc0
    have hc_30 : σ_28 25 = o0 G (25) (nI (g 0)) (nI (g 3)) (nI (g 4)) (nI (g 5)) (nI (g 6)) := (hf_27 _ (by omega)).trans hg_1
    have hc_31 : σ_28 26 = q_rn G 3 4 (fun j => some (25 + 10 + 2 * j)) := (hf_27 _ (by omega)).trans hg_2
    have hc_32 : σ_28 27 = o6 G (27) (nI (g 1)) (nI (g 2)) := (hf_27 _ (by omega)).trans hg_3
    have hc_33 : σ_28 (27 + 1) = q_an G 8 kd := (hf_27 _ (by omega)).trans hg_4
    have hc_34 : σ_28 (27 + 2) = q_an G 8 fi := (hf_27 _ (by omega)).trans hg_5
    have hc_35 : σ_28 (27 + 3) = q_an G 8 se := (hf_27 _ (by omega)).trans hg_6
    have hc_36 : σ_28 (27 + 4) = q_an G 8 tf := (hf_27 _ (by omega)).trans hg_7
    have hc_37 : σ_28 (27 + 5) = q_an G 8 ts := (hf_27 _ (by omega)).trans hg_8
    have hc_38 : σ_28 (25 + 8) = q_an G 10 ac := (hf_27 _ (by omega)).trans hg_9
    have hc_39 : σ_28 (25 + 9) = q_an G 100 tu := (hf_27 _ (by omega)).trans hg_10
    have hc_40 : ∀ j9 : Nat, j9 < g 0 → σ_28 (25 + 10 + 2 * j9) = o7 G (25 + 10 + 2 * j9) (lN (nm j9)) (lN (on j9)) (nI (s_rule g j9 18)) (nI (s_rule g j9 19)) (nI (s_rule g j9 20)) := fun j9 hj0 => (hf_27 _ (by omega)).trans (hc_13 j9 (by omega))
    have hc_41 : ∀ j9 : Nat, j9 < g 0 → σ_28 (25 + 10 + 2 * j9 + 1) = q_an G 5 (bm j9) := fun j9 hj0 => (hf_27 _ (by omega)).trans (hc_14 j9 (by omega))
    have hc_42 : σ_28 79 = q_rn G 2 8 (fun j => some (80 + 18 * j)) := (hf_27 _ (by omega)).trans hc79
    have hc_43 : σ_28 43 = o4 G (43)  := (hf_27 _ (by omega)).trans hm_15
    have hc_44 : σ_28 44 = q_rn G 4 4 (fun j => some (46 + 8 * j)) := (hf_27 _ (by omega)).trans hm_16
    have hc_45 : σ_28 45 = o1 G (h0) (h1) (h2) (h3) (h4) := (hf_27 _ (by omega)).trans hm_17
    have hc_46 : ∀ j9 : Nat, j9 < 4 → σ_28 (46 + 8 * j9) = o8 G (46 + 8 * j9) (nI (flA j9)) (nI (n0A j9)) (nI (gvA j9)) (nI (gsA j9)) (nI (lmA j9)) (nI (vsA j9)) := fun j9 hj0 => (hf_27 _ (by omega)).trans (hm_18 j9 (by omega))
    have hc_47 : ∀ j9 : Nat, j9 < 4 → σ_28 (46 + 8 * j9 + 1) = o7 G (46 + 8 * j9 + 1) (lN (nmA j9)) (lN (onA j9)) (nI (slA j9)) (nI (moA j9)) (nI (nbA j9)) := fun j9 hj0 => (hf_27 _ (by omega)).trans (hm_19 j9 (by omega))
    have hc_48 : ∀ j9 : Nat, j9 < 4 → σ_28 (46 + 8 * j9 + 2) = q_an G 5 (bmA j9) := fun j9 hj0 => (hf_27 _ (by omega)).trans (hm_20 j9 (by omega))
    have hc_49 : ∀ j9 : Nat, j9 < 4 → σ_28 (46 + 8 * j9 + 3) = q_an G 1681 (skA j9) := fun j9 hj0 => (hf_27 _ (by omega)).trans (hm_21 j9 (by omega))
    have hc_50 : ∀ j9 : Nat, j9 < 4 → σ_28 (46 + 8 * j9 + 4) = q_an G 1681 (s2A j9) := fun j9 hj0 => (hf_27 _ (by omega)).trans (hm_22 j9 (by omega))
    have hc_51 : ∀ j9 : Nat, j9 < 4 → σ_28 (46 + 8 * j9 + 5) = q_an G 1681 (vaA j9) := fun j9 hj0 => (hf_27 _ (by omega)).trans (hm_23 j9 (by omega))
    have hc_52 : ∀ j9 : Nat, j9 < 4 → σ_28 (46 + 8 * j9 + 6) = q_an G 1681 (spA j9) := fun j9 hj0 => (hf_27 _ (by omega)).trans (hm_24 j9 (by omega))
    have hc_53 : ∀ j9 : Nat, j9 < 4 → σ_28 (46 + 8 * j9 + 7) = q_an G 1681 (rfA j9) := fun j9 hj0 => (hf_27 _ (by omega)).trans (hm_25 j9 (by omega))
    have hHiP := x_hi_push hHi0 hG9 hc_26 (fun i a b => hf_27 i (by omega))
    refine A_aload_n hg dX10_move_40 rfl rfl ?_
    refine A_aload_n hg dX10_move_41 rfl rfl ?_
    refine A_hV (kc2 := 1) (ks2 := 6) (As := []) (rest := [.ref (q_h G + 0)]) hg lk_RX10_140 in_X10_fittedMix se_X10_fittedMix rfl dX10_move_42 ⟨by decide, by decide⟩ rfl rfl ⟨by decide, by decide⟩ hc_29 (by omega) rfl rfl (Nat.le_of_ble_eq_true rfl) (c_X10_fittedMix G ex n σ_28 z1 z2 z3 g kd fi se nm on bm flA n0A gvA gsA lmA vsA nmA onA slA moA nbA bmA skA s2A vaA spA rfA hc_29 hc_43 hc_44 hc_30 hc_31 hc_32 hc_33 hc_34 hc_35 hc_40 hc_41 hc_46 hc_47 hc_48 hc_49 hc_50 hc_51 hc_52 hc_53 (by omega) hgw hxp hrs hTI) ?_
    rintro _ σ_80 ⟨flB_54, n0B_55, gvB_56, gsB_57, lmB_58, vsB_59, nmB_60, onB_61, slB_62, moB_63, nbB_64, bmB_65, skB_66, s2B_67, vaB_68, spB_69, rfB_70, rfl, hTI2, hTF2, hc_71, hc_72, hc_73, hc_74, hc_75, hc_76, hc_77, hc_78, hf_79⟩
    refine (?_ : AJ G K Q 1 6 ex n 45 [some (.ref (q_h G + 0)), some (.int (nI (p1))), some (.int (nI (a1))), some (.int (nI (b1)))] [.ref (q_h G + 43), .ref (q_h G + 0)] σ_80)
    have hc_81 : σ_80 0 = o10 G (z1) (z2) (z3) := (hf_79 _ (by omega)).trans hc_29
    have hc_82 : σ_80 25 = o0 G (25) (nI (g 0)) (nI (g 3)) (nI (g 4)) (nI (g 5)) (nI (g 6)) := (hf_79 _ (by omega)).trans hc_30
    have hc_83 : σ_80 26 = q_rn G 3 4 (fun j => some (25 + 10 + 2 * j)) := (hf_79 _ (by omega)).trans hc_31
    have hc_84 : σ_80 27 = o6 G (27) (nI (g 1)) (nI (g 2)) := (hf_79 _ (by omega)).trans hc_32
    have hc_85 : σ_80 (27 + 1) = q_an G 8 kd := (hf_79 _ (by omega)).trans hc_33
    have hc_86 : σ_80 (27 + 2) = q_an G 8 fi := (hf_79 _ (by omega)).trans hc_34
    have hc_87 : σ_80 (27 + 3) = q_an G 8 se := (hf_79 _ (by omega)).trans hc_35
    have hc_88 : σ_80 (27 + 4) = q_an G 8 tf := (hf_79 _ (by omega)).trans hc_36
    have hc_89 : σ_80 (27 + 5) = q_an G 8 ts := (hf_79 _ (by omega)).trans hc_37
    have hc_90 : σ_80 (25 + 8) = q_an G 10 ac := (hf_79 _ (by omega)).trans hc_38
    have hc_91 : σ_80 (25 + 9) = q_an G 100 tu := (hf_79 _ (by omega)).trans hc_39
    have hc_92 : ∀ j9 : Nat, j9 < g 0 → σ_80 (25 + 10 + 2 * j9) = o7 G (25 + 10 + 2 * j9) (lN (nm j9)) (lN (on j9)) (nI (s_rule g j9 18)) (nI (s_rule g j9 19)) (nI (s_rule g j9 20)) := fun j9 hj0 => (hf_79 _ (by omega)).trans (hc_40 j9 (by omega))
    have hc_93 : ∀ j9 : Nat, j9 < g 0 → σ_80 (25 + 10 + 2 * j9 + 1) = q_an G 5 (bm j9) := fun j9 hj0 => (hf_79 _ (by omega)).trans (hc_41 j9 (by omega))
    have hc_94 : σ_80 79 = q_rn G 2 8 (fun j => some (80 + 18 * j)) := (hf_79 _ (by omega)).trans hc_42
    have hc_95 : σ_80 43 = o4 G (43)  := (hf_79 _ (by omega)).trans hc_43
    have hc_96 : σ_80 44 = q_rn G 4 4 (fun j => some (46 + 8 * j)) := (hf_79 _ (by omega)).trans hc_44
    have hc_97 : σ_80 45 = o1 G (h0) (h1) (h2) (h3) (h4) := (hf_79 _ (by omega)).trans hc_45
    have hc_98 : σ_80 78 = o2 G (78) (nI ((nx + 1) % 8)) (nI (min (m + 1) 8)) := (hf_79 _ (by omega)).trans hc_26
    refine A_iload_n hg dX10_move_45 rfl rfl ?_
    refine A_iload_n hg dX10_move_46 rfl rfl ?_
    refine A_iload_n hg dX10_move_47 rfl rfl ?_
    refine A_hV (kc2 := 1) (ks2 := 6) (As := [.ref (q_h G + 43), .int (nI (p1)), .int (nI (a1)), .int (nI (b1))]) (rest := []) hg lk_RX10_392 in_X10_makeTurn se_X10_makeTurn rfl dX10_move_48 ⟨by decide, by decide⟩ rfl rfl ⟨by decide, by decide⟩ hc_81 (by omega) rfl rfl (Nat.le_of_ble_eq_true rfl) (c_X10_makeTurn G ex n σ_80 z1 z2 z3 g flB_54 n0B_55 gvB_56 gsB_57 lmB_58 vsB_59 nmB_60 onB_61 slB_62 moB_63 nbB_64 bmB_65 skB_66 s2B_67 vaB_68 spB_69 rfB_70 p1 a1 b1 h0 h1 h2 h3 h4 hc_81 hc_95 hc_96 hc_71 hc_72 hc_73 hc_74 hc_75 hc_76 hc_77 hc_78 hc_97 (by omega) (x_gm_e (fun i _ _ => ((hf_79 i (by omega)).trans (hf_27 i (by omega)))) hG0) hTF2 hpp hkx hly) ?_
    rintro _ σ_103 ⟨h3x_99, h4x_100, rfl, hG9x, hc_101, hf_102⟩
    refine (?_ : AJ G K Q 1 6 ex n 51 [some (.ref (q_h G + 0)), some (.int (nI (p1))), some (.int (nI (a1))), some (.int (nI (b1)))] [.int (nI (s_tot (s_take g p1 a1 b1)))] σ_103)
    have hc_104 : σ_103 0 = o10 G (z1) (z2) (z3) := (hf_102 _ (by omega)).trans hc_81
    have hc_105 : σ_103 79 = q_rn G 2 8 (fun j => some (80 + 18 * j)) := (hf_102 _ (by omega)).trans hc_94
    have hc_106 : σ_103 43 = o4 G (43)  := (hf_102 _ (by omega)).trans hc_95
    have hc_107 : σ_103 44 = q_rn G 4 4 (fun j => some (46 + 8 * j)) := (hf_102 _ (by omega)).trans hc_96
    have hc_108 : σ_103 78 = o2 G (78) (nI ((nx + 1) % 8)) (nI (min (m + 1) 8)) := (hf_102 _ (by omega)).trans hc_98
    have hc_109 : ∀ j9 : Nat, j9 < 4 → σ_103 (46 + 8 * j9) = o8 G (46 + 8 * j9) (nI (flB_54 j9)) (nI (n0B_55 j9)) (nI (gvB_56 j9)) (nI (gsB_57 j9)) (nI (lmB_58 j9)) (nI (vsB_59 j9)) := fun j9 hj0 => (hf_102 _ (by omega)).trans (hc_71 j9 (by omega))
    have hc_110 : ∀ j9 : Nat, j9 < 4 → σ_103 (46 + 8 * j9 + 1) = o7 G (46 + 8 * j9 + 1) (lN (nmB_60 j9)) (lN (onB_61 j9)) (nI (slB_62 j9)) (nI (moB_63 j9)) (nI (nbB_64 j9)) := fun j9 hj0 => (hf_102 _ (by omega)).trans (hc_72 j9 (by omega))
    have hc_111 : ∀ j9 : Nat, j9 < 4 → σ_103 (46 + 8 * j9 + 2) = q_an G 5 (bmB_65 j9) := fun j9 hj0 => (hf_102 _ (by omega)).trans (hc_73 j9 (by omega))
    have hc_112 : ∀ j9 : Nat, j9 < 4 → σ_103 (46 + 8 * j9 + 3) = q_an G 1681 (skB_66 j9) := fun j9 hj0 => (hf_102 _ (by omega)).trans (hc_74 j9 (by omega))
    have hc_113 : ∀ j9 : Nat, j9 < 4 → σ_103 (46 + 8 * j9 + 4) = q_an G 1681 (s2B_67 j9) := fun j9 hj0 => (hf_102 _ (by omega)).trans (hc_75 j9 (by omega))
    have hc_114 : ∀ j9 : Nat, j9 < 4 → σ_103 (46 + 8 * j9 + 5) = q_an G 1681 (vaB_68 j9) := fun j9 hj0 => (hf_102 _ (by omega)).trans (hc_76 j9 (by omega))
    have hc_115 : ∀ j9 : Nat, j9 < 4 → σ_103 (46 + 8 * j9 + 6) = q_an G 1681 (spB_69 j9) := fun j9 hj0 => (hf_102 _ (by omega)).trans (hc_77 j9 (by omega))
    have hc_116 : ∀ j9 : Nat, j9 < 4 → σ_103 (46 + 8 * j9 + 7) = q_an G 1681 (rfB_70 j9) := fun j9 hj0 => (hf_102 _ (by omega)).trans (hc_78 j9 (by omega))
    rw [hQ]
    exact A_ireturn hg (by decide) (by decide) rfl dX10_move_51 ⟨rfl, ⟨p1, a1, b1, (by rw [x_tot_play hgw hpp]), rfl, hpl9, rfl, rfl, hrf, hG9x, (x_hi_e (fun i _ _ => ((hf_102 i (by omega)).trans (hf_79 i (by omega)))) hHiP), ⟨(h0), (h1), (h2), (h3x_99), (h4x_100), flB_54, n0B_55, gvB_56, gsB_57, lmB_58, vsB_59, nmB_60, onB_61, slB_62, moB_63, nbB_64, bmB_65, skB_66, s2B_67, vaB_68, spB_69, rfB_70, hc_106, hc_107, hc_101, hc_109, hc_110, hc_111, hc_112, hc_113, hc_114, hc_115, hc_116, hTI2⟩, (fun i hi => ((hf_102 i (by omega)).trans ((hf_79 i (by omega)).trans (hf_27 i (by omega)))))⟩⟩
  · skip
    rw [hQ]
    exact A_throwSW (text := "the move is refused") (names := ["java/lang/RuntimeException", "java/lang/Exception"]) hg (by decide +kernel) (by decide +kernel) tw_IllegalStateException.2.2.1 tw_IllegalStateException.2.2.2 (q_mt 1264 (by decide +kernel)) tw_IllegalStateException.1 tw_IllegalStateException.2.1 dX10_move_18 dX10_move_21 dX10_move_22 dX10_move_25 dX10_move_28 ⟨by decide, by decide, by decide, by decide⟩ (by decide) (by decide) ⟨rfl, Or.inr (⟨rfl, p1, rfl, hpl9, c15⟩)⟩
set_option maxRecDepth 100000 in
set_option maxHeartbeats 4000000 in
theorem c_X10_follow (G : GL) (ex : Bool) (n : Nat) (σ : Nat → va_E) (z1 : Int32) (z2 : Int32) (z3 : Int32) (g : Nat → Nat) (nx : Nat) (m : Nat) (ps : Nat → Nat → Nat) (t : Int32) (hc0 : σ 0 = o10 G (z1) (z2) (z3)) (hn9 : 279 ≤ n) (hG : x_gm G σ 25 g) (hM : x_mx G σ) (hH : x_hn G σ) (hHi : x_hi G σ nx m ps) : CtX G yX10_follow cX10_follow 4 (some .int) ⟨7, 1, 6, 146⟩ [.ref (q_h G + 0), .int (t)] ex n σ (fun v9 σ2 => ∃ (t1 : Nat), v9 = some (.int (nI (s_fn g t1))) ∧ (t = nI t1) ∧ (1 ≤ t1) ∧ (t1 ≤ 600) ∧ (x_gm G σ2 25 (s_it g (s_fn g t1))) ∧ (x_hi G σ2 ((nx + 1) % 8) (min (m + 1) 8) (x_psh m ps g)) ∧ (x_mx G σ2) ∧ (x_hn G σ2) ∧ (∀ i : Nat, i < 25 ∨ (223 < i ∧ i ≠ 242) → σ2 i = σ i)) (fun E σ2 => σ2 = σ ∧ ((E = "java/lang/IllegalArgumentException" ∧ (∀ j : Nat, 1 ≤ j → j ≤ 600 → t = nI j → False)))) := by
  refine q_enter [some (.ref (q_h G + 0)), some (.int (t)), none, none] (by decide) (Nat.le_of_ble_eq_true rfl) rfl ?_
  intro K hg
  obtain ⟨Q, hQ⟩ : ∃ Q, Q = q_Q G K ex n 1 6 (fun v9 n' σ' => n' = n ∧ (fun v9 σ2 => ∃ (t1 : Nat), v9 = some (.int (nI (s_fn g t1))) ∧ (t = nI t1) ∧ (1 ≤ t1) ∧ (t1 ≤ 600) ∧ (x_gm G σ2 25 (s_it g (s_fn g t1))) ∧ (x_hi G σ2 ((nx + 1) % 8) (min (m + 1) 8) (x_psh m ps g)) ∧ (x_mx G σ2) ∧ (x_hn G σ2) ∧ (∀ i : Nat, i < 25 ∨ (223 < i ∧ i ≠ 242) → σ2 i = σ i)) v9 σ') (fun E σ2 => σ2 = σ ∧ ((E = "java/lang/IllegalArgumentException" ∧ (∀ j : Nat, 1 ≤ j → j ≤ 600 → t = nI j → False)))) := ⟨_, rfl⟩
  refine (?_ : AJ G K (q_Q G K ex n 1 6 _ _) 0 0 ex n 0 _ _ σ)
  rw [← hQ]
  have hG0 := hG
  obtain ⟨kd, fi, se, tf, ts, ac, tu, nm, on, sl, mo, nb, bm, ⟨hg_1, hg_2, hg_3, hg_4, hg_5, hg_6, hg_7, hg_8, hg_9, hg_10, hg_11, hg_12⟩, hgr⟩ := hG
  obtain ⟨hgw, hxp, htp, hrl, hac, htu⟩ := hgr
  have hrs := x_rl_rs hrl
  have hg0 := hgw.1
  have hg1 := hgw.2.1
  have hg2 := hgw.2.2.1
  have hg3 := hgw.2.2.2.1
  have hg6 := hgw.2.2.2.2.1
  have hnp : s_np g = g 1 + g 2 := rfl
  have hc_13 : ∀ j9 : Nat, j9 < g 0 → σ (25 + 10 + 2 * j9) = o7 G (25 + 10 + 2 * j9) (lN (nm j9)) (lN (on j9)) (nI (s_rule g j9 18)) (nI (s_rule g j9 19)) (nI (s_rule g j9 20)) := fun j9 hj => (hg_11 j9 (by omega)).trans (by rw [(hrl j9 hj).2.2.2.1, (hrl j9 hj).2.2.2.2.1, (hrl j9 hj).2.2.2.2.2.1])
  have hc_14 : ∀ j9 : Nat, j9 < g 0 → σ (25 + 10 + 2 * j9 + 1) = q_an G 5 (bm j9) := fun j9 hj => hg_12 j9 (by omega)
  have hHi0 := hHi
  obtain ⟨hnx, hm8, hc78, hc79, hjs, hps⟩ := hHi
  obtain ⟨h0, h1, h2, h3, h4, flA, n0A, gvA, gsA, lmA, vsA, nmA, onA, slA, moA, nbA, bmA, skA, s2A, vaA, spA, rfA, hm_15, hm_16, hm_17, hm_18, hm_19, hm_20, hm_21, hm_22, hm_23, hm_24, hm_25, hTI⟩ := hM
  obtain ⟨e0, e1, e2, e3, e4, hh_26⟩ := hH
  have hgw0 := hgw
  refine A_iload_n hg dX10_follow_0 rfl rfl ?_
  refine A_iconst (v := (nI (1))) hg dX10_follow_1 (by decide) ?_
  refine A_sipush (v := (nI (600))) hg dX10_follow_2 (by decide) ?_
  refine A_pSX (kc2 := 1) (ks2 := 6) (As := [.int (t), .int (nI (1)), .int (nI (600))]) (rest := []) hg lk_RX10_179 st_X10_needRange dX10_follow_5 ⟨by decide, by decide⟩ rfl rfl ⟨by decide, by decide⟩ rfl rfl (Nat.le_of_ble_eq_true rfl) (c_X10_needRange G ex n σ t 1 600 (by omega) (by omega)) (fun E σx hx => by rw [hQ]; exact A_out hg (by decide) (by decide) (by obtain ⟨hs, hE, hx⟩ := hx; exact ⟨hs, ⟨hE, hx⟩⟩)) ?_
  rintro _ ⟨t1, rfl, hte, hta9, htl9⟩
  refine (?_ : AJ G K Q 1 6 ex n 8 [some (.ref (q_h G + 0)), some (.int (t)), none, none] [] σ)
  subst hte
  refine A_aload_n hg dX10_follow_8 rfl rfl ?_
  refine A_getf (v := .ref (q_h G + 78)) hg fl_RX10_54 dX10_follow_9 hc0 (by omega) rfl ?_
  refine A_aload_n hg dX10_follow_12 rfl rfl ?_
  refine A_getf (v := .ref (q_h G + 25)) hg fl_RX10_40 dX10_follow_13 hc0 (by omega) rfl ?_
  refine A_vV (kc2 := 1) (ks2 := 6) (As := [.ref (q_h G + 25)]) (rest := []) hg lk_RX10_389 in_X2_push se_X2_push rfl dX10_follow_16 ⟨by decide, by decide⟩ rfl rfl ⟨by decide, by decide⟩ hc78 (by omega) rfl rfl (Nat.le_of_ble_eq_true rfl) (c_X2_push G ex n σ nx m 25 g hc78 hc79 (by omega) (by omega) (by omega) rfl (hjs nx hnx) hG0) ?_
  rintro σ_29 ⟨hG9, hc_27, hf_28⟩
  have hc_30 : σ_29 0 = o10 G (z1) (z2) (z3) := (hf_28 _ (by omega)).trans hc0
  have hc_31 : σ_29 25 = o0 G (25) (nI (g 0)) (nI (g 3)) (nI (g 4)) (nI (g 5)) (nI (g 6)) := (hf_28 _ (by omega)).trans hg_1
  have hc_32 : σ_29 26 = q_rn G 3 4 (fun j => some (25 + 10 + 2 * j)) := (hf_28 _ (by omega)).trans hg_2
  have hc_33 : σ_29 27 = o6 G (27) (nI (g 1)) (nI (g 2)) := (hf_28 _ (by omega)).trans hg_3
  have hc_34 : σ_29 (27 + 1) = q_an G 8 kd := (hf_28 _ (by omega)).trans hg_4
  have hc_35 : σ_29 (27 + 2) = q_an G 8 fi := (hf_28 _ (by omega)).trans hg_5
  have hc_36 : σ_29 (27 + 3) = q_an G 8 se := (hf_28 _ (by omega)).trans hg_6
  have hc_37 : σ_29 (27 + 4) = q_an G 8 tf := (hf_28 _ (by omega)).trans hg_7
  have hc_38 : σ_29 (27 + 5) = q_an G 8 ts := (hf_28 _ (by omega)).trans hg_8
  have hc_39 : σ_29 (25 + 8) = q_an G 10 ac := (hf_28 _ (by omega)).trans hg_9
  have hc_40 : σ_29 (25 + 9) = q_an G 100 tu := (hf_28 _ (by omega)).trans hg_10
  have hc_41 : ∀ j9 : Nat, j9 < g 0 → σ_29 (25 + 10 + 2 * j9) = o7 G (25 + 10 + 2 * j9) (lN (nm j9)) (lN (on j9)) (nI (s_rule g j9 18)) (nI (s_rule g j9 19)) (nI (s_rule g j9 20)) := fun j9 hj0 => (hf_28 _ (by omega)).trans (hc_13 j9 (by omega))
  have hc_42 : ∀ j9 : Nat, j9 < g 0 → σ_29 (25 + 10 + 2 * j9 + 1) = q_an G 5 (bm j9) := fun j9 hj0 => (hf_28 _ (by omega)).trans (hc_14 j9 (by omega))
  have hc_43 : σ_29 79 = q_rn G 2 8 (fun j => some (80 + 18 * j)) := (hf_28 _ (by omega)).trans hc79
  have hc_44 : σ_29 43 = o4 G (43)  := (hf_28 _ (by omega)).trans hm_15
  have hc_45 : σ_29 44 = q_rn G 4 4 (fun j => some (46 + 8 * j)) := (hf_28 _ (by omega)).trans hm_16
  have hc_46 : σ_29 45 = o1 G (h0) (h1) (h2) (h3) (h4) := (hf_28 _ (by omega)).trans hm_17
  have hc_47 : ∀ j9 : Nat, j9 < 4 → σ_29 (46 + 8 * j9) = o8 G (46 + 8 * j9) (nI (flA j9)) (nI (n0A j9)) (nI (gvA j9)) (nI (gsA j9)) (nI (lmA j9)) (nI (vsA j9)) := fun j9 hj0 => (hf_28 _ (by omega)).trans (hm_18 j9 (by omega))
  have hc_48 : ∀ j9 : Nat, j9 < 4 → σ_29 (46 + 8 * j9 + 1) = o7 G (46 + 8 * j9 + 1) (lN (nmA j9)) (lN (onA j9)) (nI (slA j9)) (nI (moA j9)) (nI (nbA j9)) := fun j9 hj0 => (hf_28 _ (by omega)).trans (hm_19 j9 (by omega))
  have hc_49 : ∀ j9 : Nat, j9 < 4 → σ_29 (46 + 8 * j9 + 2) = q_an G 5 (bmA j9) := fun j9 hj0 => (hf_28 _ (by omega)).trans (hm_20 j9 (by omega))
  have hc_50 : ∀ j9 : Nat, j9 < 4 → σ_29 (46 + 8 * j9 + 3) = q_an G 1681 (skA j9) := fun j9 hj0 => (hf_28 _ (by omega)).trans (hm_21 j9 (by omega))
  have hc_51 : ∀ j9 : Nat, j9 < 4 → σ_29 (46 + 8 * j9 + 4) = q_an G 1681 (s2A j9) := fun j9 hj0 => (hf_28 _ (by omega)).trans (hm_22 j9 (by omega))
  have hc_52 : ∀ j9 : Nat, j9 < 4 → σ_29 (46 + 8 * j9 + 5) = q_an G 1681 (vaA j9) := fun j9 hj0 => (hf_28 _ (by omega)).trans (hm_23 j9 (by omega))
  have hc_53 : ∀ j9 : Nat, j9 < 4 → σ_29 (46 + 8 * j9 + 6) = q_an G 1681 (spA j9) := fun j9 hj0 => (hf_28 _ (by omega)).trans (hm_24 j9 (by omega))
  have hc_54 : ∀ j9 : Nat, j9 < 4 → σ_29 (46 + 8 * j9 + 7) = q_an G 1681 (rfA j9) := fun j9 hj0 => (hf_28 _ (by omega)).trans (hm_25 j9 (by omega))
  have hc_55 : σ_29 242 = o1 G (e0) (e1) (e2) (e3) (e4) := (hf_28 _ (by omega)).trans hh_26
  have hHiP := x_hi_push hHi0 hG9 hc_27 (fun i a b => hf_28 i (by omega))
  refine A_aload_n hg dX10_follow_19 rfl rfl ?_
  refine A_hV (kc2 := 1) (ks2 := 6) (As := []) (rest := []) hg lk_RX10_140 in_X10_fittedMix se_X10_fittedMix rfl dX10_follow_20 ⟨by decide, by decide⟩ rfl rfl ⟨by decide, by decide⟩ hc_30 (by omega) rfl rfl (Nat.le_of_ble_eq_true rfl) (c_X10_fittedMix G ex n σ_29 z1 z2 z3 g kd fi se nm on bm flA n0A gvA gsA lmA vsA nmA onA slA moA nbA bmA skA s2A vaA spA rfA hc_30 hc_44 hc_45 hc_31 hc_32 hc_33 hc_34 hc_35 hc_36 hc_41 hc_42 hc_47 hc_48 hc_49 hc_50 hc_51 hc_52 hc_53 hc_54 (by omega) hgw hxp hrs hTI) ?_
  rintro _ σ_65 ⟨flD, n0D, gvD, gsD, lmD, vsD, nmD, onD, slD, moD, nbD, bmD, skD, s2D, vaD, spD, rfD, rfl, hTI2, hTF2, hc_56, hc_57, hc_58, hc_59, hc_60, hc_61, hc_62, hc_63, hf_64⟩
  refine (?_ : AJ G K Q 1 6 ex n 23 [some (.ref (q_h G + 0)), some (.int (nI (t1))), none, none] [.ref (q_h G + 43)] σ_65)
  have hc_66 : σ_65 0 = o10 G (z1) (z2) (z3) := (hf_64 _ (by omega)).trans hc_30
  have hc_67 : σ_65 25 = o0 G (25) (nI (g 0)) (nI (g 3)) (nI (g 4)) (nI (g 5)) (nI (g 6)) := (hf_64 _ (by omega)).trans hc_31
  have hc_68 : σ_65 26 = q_rn G 3 4 (fun j => some (25 + 10 + 2 * j)) := (hf_64 _ (by omega)).trans hc_32
  have hc_69 : σ_65 27 = o6 G (27) (nI (g 1)) (nI (g 2)) := (hf_64 _ (by omega)).trans hc_33
  have hc_70 : σ_65 (27 + 1) = q_an G 8 kd := (hf_64 _ (by omega)).trans hc_34
  have hc_71 : σ_65 (27 + 2) = q_an G 8 fi := (hf_64 _ (by omega)).trans hc_35
  have hc_72 : σ_65 (27 + 3) = q_an G 8 se := (hf_64 _ (by omega)).trans hc_36
  have hc_73 : σ_65 (27 + 4) = q_an G 8 tf := (hf_64 _ (by omega)).trans hc_37
  have hc_74 : σ_65 (27 + 5) = q_an G 8 ts := (hf_64 _ (by omega)).trans hc_38
  have hc_75 : σ_65 (25 + 8) = q_an G 10 ac := (hf_64 _ (by omega)).trans hc_39
  have hc_76 : σ_65 (25 + 9) = q_an G 100 tu := (hf_64 _ (by omega)).trans hc_40
  have hc_77 : ∀ j9 : Nat, j9 < g 0 → σ_65 (25 + 10 + 2 * j9) = o7 G (25 + 10 + 2 * j9) (lN (nm j9)) (lN (on j9)) (nI (s_rule g j9 18)) (nI (s_rule g j9 19)) (nI (s_rule g j9 20)) := fun j9 hj0 => (hf_64 _ (by omega)).trans (hc_41 j9 (by omega))
  have hc_78 : ∀ j9 : Nat, j9 < g 0 → σ_65 (25 + 10 + 2 * j9 + 1) = q_an G 5 (bm j9) := fun j9 hj0 => (hf_64 _ (by omega)).trans (hc_42 j9 (by omega))
  have hc_79 : σ_65 79 = q_rn G 2 8 (fun j => some (80 + 18 * j)) := (hf_64 _ (by omega)).trans hc_43
  have hc_80 : σ_65 43 = o4 G (43)  := (hf_64 _ (by omega)).trans hc_44
  have hc_81 : σ_65 44 = q_rn G 4 4 (fun j => some (46 + 8 * j)) := (hf_64 _ (by omega)).trans hc_45
  have hc_82 : σ_65 45 = o1 G (h0) (h1) (h2) (h3) (h4) := (hf_64 _ (by omega)).trans hc_46
  have hc_83 : σ_65 242 = o1 G (e0) (e1) (e2) (e3) (e4) := (hf_64 _ (by omega)).trans hc_55
  have hc_84 : σ_65 78 = o2 G (78) (nI ((nx + 1) % 8)) (nI (min (m + 1) 8)) := (hf_64 _ (by omega)).trans hc_27
  refine A_astore_n hg dX10_follow_23 rfl (by decide) (q_c1d rfl) ?_
  refine A_eq (ls2 := [some (.ref (q_h G + 0)), some (.int (nI (t1))), some (.ref (q_h G + 43)), none]) (st2 := []) (pc2 := 0) rfl rfl ?_
  refine A_iconst (v := (nI (0))) hg dX10_follow_24 (by decide) ?_
  refine A_istore_n hg dX10_follow_25 rfl (by decide) (q_c1d rfl) ?_
  refine A_eq (ls2 := [some (.ref (q_h G + 0)), some (.int (nI (t1))), some (.ref (q_h G + 43)), some (.int (nI (0)))]) (st2 := []) (pc2 := 0) rfl rfl ?_
  have hL26 : ∀ (fu : Nat) (i : Nat) (f0 : Int32) (f1 : Int32) (f2 : Int32) (f3 : Int32) (f4 : Int32) (u0 : Int32) (u1 : Int32) (u2 : Int32) (u3 : Int32) (u4 : Int32) (σ_85 : Nat → va_E), (σ_85 0 = o10 G (z1) (z2) (z3)) → (σ_85 43 = o4 G (43) ) → (σ_85 44 = q_rn G 4 4 (fun j => some (46 + 8 * j))) → (σ_85 45 = o1 G (u0) (u1) (u2) (u3) (u4)) → (σ_85 242 = o1 G (f0) (f1) (f2) (f3) (f4)) → (∀ j9 : Nat, j9 < 4 → σ_85 (46 + 8 * j9) = o8 G (46 + 8 * j9) (nI (flD j9)) (nI (n0D j9)) (nI (gvD j9)) (nI (gsD j9)) (nI (lmD j9)) (nI (vsD j9))) → (∀ j9 : Nat, j9 < 4 → σ_85 (46 + 8 * j9 + 1) = o7 G (46 + 8 * j9 + 1) (lN (nmD j9)) (lN (onD j9)) (nI (slD j9)) (nI (moD j9)) (nI (nbD j9))) → (∀ j9 : Nat, j9 < 4 → σ_85 (46 + 8 * j9 + 2) = q_an G 5 (bmD j9)) → (∀ j9 : Nat, j9 < 4 → σ_85 (46 + 8 * j9 + 3) = q_an G 1681 (skD j9)) → (∀ j9 : Nat, j9 < 4 → σ_85 (46 + 8 * j9 + 4) = q_an G 1681 (s2D j9)) → (∀ j9 : Nat, j9 < 4 → σ_85 (46 + 8 * j9 + 5) = q_an G 1681 (vaD j9)) → (∀ j9 : Nat, j9 < 4 → σ_85 (46 + 8 * j9 + 6) = q_an G 1681 (spD j9)) → (∀ j9 : Nat, j9 < 4 → σ_85 (46 + 8 * j9 + 7) = q_an G 1681 (rfD j9)) → (∀ i : Nat, i < 25 ∨ (223 < i ∧ i ≠ 242) → σ_85 i = σ i) → (i ≤ t1) → (x_gm G σ_85 25 (s_it g i)) → (x_hi G σ_85 ((nx + 1) % 8) (min (m + 1) 8) (x_psh m ps g)) → (x_TF (s_it g i) (s_it g i 1) onD slD moD nbD n0D gvD gsD lmD vsD bmD skD s2D vaD spD) → (∀ j : Nat, j < i → s_adv (s_it g j) = true) → (t1 - i) < fu → AJ G K Q 1 6 ex n 26 [some (.ref (q_h G + 0)), some (.int (nI (t1))), some (.ref (q_h G + 43)), some (.int (nI (i)))] [] σ_85 := by
    intro fu
    induction fu with
    | zero => intro i f0 f1 f2 f3 f4 u0 u1 u2 u3 u4 σ_85 hc_86 hc_87 hc_88 hc_89 hc_90 hc_91 hc_92 hc_93 hc_94 hc_95 hc_96 hc_97 hc_98 hf_99 hi hGi hHiL htf has hm; exact absurd hm (Nat.not_lt_zero _)
    | succ fu ih26 =>
      intro i f0 f1 f2 f3 f4 u0 u1 u2 u3 u4 σ_85 hc_86 hc_87 hc_88 hc_89 hc_90 hc_91 hc_92 hc_93 hc_94 hc_95 hc_96 hc_97 hc_98 hf_99 hi hGi hHiL htf has hm26
      have hGi0 := hGi
      obtain ⟨kd, fi, se, tf, ts, ac, tu, nm, on, sl, mo, nb, bm, ⟨hg_100, hg_101, hg_102, hg_103, hg_104, hg_105, hg_106, hg_107, hg_108, hg_109, hg_110, hg_111⟩, hgr⟩ := hGi
      obtain ⟨hgw, hxp, htp, hrl, hac, htu⟩ := hgr
      have hrs := x_rl_rs hrl
      have hg0 := hgw.1
      have hg1 := hgw.2.1
      have hg2 := hgw.2.2.1
      have hg3 := hgw.2.2.2.1
      have hg6 := hgw.2.2.2.2.1
      have hnp : s_np (s_it g i) = (s_it g i) 1 + (s_it g i) 2 := rfl
      have hgi := s_gwf_it hgw0 i
      have hnpi : s_np (s_it g i) = s_it g i 1 + s_it g i 2 := rfl
      refine A_iload_n hg dX10_follow_26 rfl rfl ?_
      refine A_iload_n hg dX10_follow_27 rfl rfl ?_
      refine A_icmp_geN (tgt := 91) hg dX10_follow_28 (by omega) (by omega) (by decide) (fun c28 => ?_) (fun c28 => ?_)
      · skip
        refine A_iload_n hg dX10_follow_91 rfl rfl ?_
        have hfn : s_fn g t1 = i := x_fn_end hi has (Or.inl (by omega))
        rw [hQ]
        exact A_ireturn hg (by decide) (by decide) rfl dX10_follow_92 ⟨rfl, ⟨t1, (by rw [hfn, show t1 = i by omega]), rfl, hta9, htl9, (by rw [hfn]; exact hGi0), hHiL, ⟨(u0), (u1), (u2), (u3), (u4), flD, n0D, gvD, gsD, lmD, vsD, nmD, onD, slD, moD, nbD, bmD, skD, s2D, vaD, spD, rfD, hc_87, hc_88, hc_89, hc_91, hc_92, hc_93, hc_94, hc_95, hc_96, hc_97, hc_98, hTI2⟩, ⟨_, _, _, _, _, hc_90⟩, (fun i hi => (hf_99 i (by omega)))⟩⟩
      · skip
        refine A_aload_n hg dX10_follow_31 rfl rfl ?_
        refine A_aload_n hg dX10_follow_32 rfl rfl ?_
        refine A_getf (v := .ref (q_h G + 25)) hg fl_RX10_40 dX10_follow_33 hc_86 (by omega) rfl ?_
        refine A_getf (v := .ref (q_h G + 27)) hg fl_RX10_118 dX10_follow_36 hg_100 (by omega) rfl ?_
        refine A_aload_n hg dX10_follow_39 rfl rfl ?_
        refine A_getf (v := .ref (q_h G + 242)) hg fl_RX10_90 dX10_follow_40 hc_86 (by omega) rfl ?_
        refine A_vV (kc2 := 1) (ks2 := 6) (As := [.ref (q_h G + 27), .ref (q_h G + 242)]) (rest := []) hg lk_RX10_327 in_X4_advise se_X4_advise rfl dX10_follow_43 ⟨by decide, by decide⟩ rfl rfl ⟨by decide, by decide⟩ hc_87 (by omega) rfl rfl (Nat.le_of_ble_eq_true rfl) (c_X4_advise G ex n σ_85 27 (s_it g i) kd fi se flD n0D gvD gsD lmD vsD nmD onD slD moD nbD bmD skD s2D vaD spD rfD 242 f0 f1 f2 f3 f4 hc_87 hc_88 hg_102 hg_103 hg_104 hg_105 hc_91 hc_92 hc_93 hc_94 hc_95 hc_96 hc_97 hc_98 hc_90 (by omega) (Or.inl rfl) hgi hxp htf (Or.inr rfl)) ?_
        rintro σ_114 ⟨px, kx, lx, hadv9, hc_112, hf_113⟩
        have hc_115 : σ_114 0 = o10 G (z1) (z2) (z3) := (hf_113 _ (by omega)).trans hc_86
        have hc_116 : σ_114 43 = o4 G (43)  := (hf_113 _ (by omega)).trans hc_87
        have hc_117 : σ_114 44 = q_rn G 4 4 (fun j => some (46 + 8 * j)) := (hf_113 _ (by omega)).trans hc_88
        have hc_118 : σ_114 45 = o1 G (u0) (u1) (u2) (u3) (u4) := (hf_113 _ (by omega)).trans hc_89
        have hc_119 : ∀ j9 : Nat, j9 < 4 → σ_114 (46 + 8 * j9) = o8 G (46 + 8 * j9) (nI (flD j9)) (nI (n0D j9)) (nI (gvD j9)) (nI (gsD j9)) (nI (lmD j9)) (nI (vsD j9)) := fun j9 hj0 => (hf_113 _ (by omega)).trans (hc_91 j9 (by omega))
        have hc_120 : ∀ j9 : Nat, j9 < 4 → σ_114 (46 + 8 * j9 + 1) = o7 G (46 + 8 * j9 + 1) (lN (nmD j9)) (lN (onD j9)) (nI (slD j9)) (nI (moD j9)) (nI (nbD j9)) := fun j9 hj0 => (hf_113 _ (by omega)).trans (hc_92 j9 (by omega))
        have hc_121 : ∀ j9 : Nat, j9 < 4 → σ_114 (46 + 8 * j9 + 2) = q_an G 5 (bmD j9) := fun j9 hj0 => (hf_113 _ (by omega)).trans (hc_93 j9 (by omega))
        have hc_122 : ∀ j9 : Nat, j9 < 4 → σ_114 (46 + 8 * j9 + 3) = q_an G 1681 (skD j9) := fun j9 hj0 => (hf_113 _ (by omega)).trans (hc_94 j9 (by omega))
        have hc_123 : ∀ j9 : Nat, j9 < 4 → σ_114 (46 + 8 * j9 + 4) = q_an G 1681 (s2D j9) := fun j9 hj0 => (hf_113 _ (by omega)).trans (hc_95 j9 (by omega))
        have hc_124 : ∀ j9 : Nat, j9 < 4 → σ_114 (46 + 8 * j9 + 5) = q_an G 1681 (vaD j9) := fun j9 hj0 => (hf_113 _ (by omega)).trans (hc_96 j9 (by omega))
        have hc_125 : ∀ j9 : Nat, j9 < 4 → σ_114 (46 + 8 * j9 + 6) = q_an G 1681 (spD j9) := fun j9 hj0 => (hf_113 _ (by omega)).trans (hc_97 j9 (by omega))
        have hc_126 : ∀ j9 : Nat, j9 < 4 → σ_114 (46 + 8 * j9 + 7) = q_an G 1681 (rfD j9) := fun j9 hj0 => (hf_113 _ (by omega)).trans (hc_98 j9 (by omega))
        have hc_127 : σ_114 25 = o0 G (25) (nI ((s_it g i) 0)) (nI ((s_it g i) 3)) (nI ((s_it g i) 4)) (nI ((s_it g i) 5)) (nI ((s_it g i) 6)) := (hf_113 _ (by omega)).trans hg_100
        have hc_128 : σ_114 26 = q_rn G 3 4 (fun j => some (25 + 10 + 2 * j)) := (hf_113 _ (by omega)).trans hg_101
        have hc_129 : σ_114 27 = o6 G (27) (nI ((s_it g i) 1)) (nI ((s_it g i) 2)) := (hf_113 _ (by omega)).trans hg_102
        have hc_130 : σ_114 (27 + 1) = q_an G 8 kd := (hf_113 _ (by omega)).trans hg_103
        have hc_131 : σ_114 (27 + 2) = q_an G 8 fi := (hf_113 _ (by omega)).trans hg_104
        have hc_132 : σ_114 (27 + 3) = q_an G 8 se := (hf_113 _ (by omega)).trans hg_105
        have hc_133 : σ_114 (27 + 4) = q_an G 8 tf := (hf_113 _ (by omega)).trans hg_106
        have hc_134 : σ_114 (27 + 5) = q_an G 8 ts := (hf_113 _ (by omega)).trans hg_107
        have hc_135 : σ_114 (25 + 8) = q_an G 10 ac := (hf_113 _ (by omega)).trans hg_108
        have hc_136 : σ_114 (25 + 9) = q_an G 100 tu := (hf_113 _ (by omega)).trans hg_109
        have hc_137 : ∀ j9 : Nat, j9 < 4 → σ_114 (25 + 10 + 2 * j9) = o7 G (25 + 10 + 2 * j9) (lN (nm j9)) (lN (on j9)) (nI (sl j9)) (nI (mo j9)) (nI (nb j9)) := fun j9 hj0 => (hf_113 _ (by omega)).trans (hg_110 j9 (by omega))
        have hc_138 : ∀ j9 : Nat, j9 < 4 → σ_114 (25 + 10 + 2 * j9 + 1) = q_an G 5 (bm j9) := fun j9 hj0 => (hf_113 _ (by omega)).trans (hg_111 j9 (by omega))
        refine A_aload_n hg dX10_follow_46 rfl rfl ?_
        refine A_getf (v := .ref (q_h G + 242)) hg fl_RX10_90 dX10_follow_47 hc_115 (by omega) rfl ?_
        refine A_getf (v := .int (q_b (s_adv (s_it g i)))) hg fl_RX10_331 dX10_follow_50 hc_112 (by omega) rfl ?_
        refine A_if_neB (tgt := 58) hg dX10_follow_53 (by decide) (fun c53 => ?_) (fun c53 => ?_)
        · skip
          have hadt : s_adv (s_it g i) = true := c53
          obtain ⟨ha1, ha2, ha3⟩ := hadv9 hadt
          subst ha1 ha2 ha3
          obtain ⟨ho1, ho2, ho3, -⟩ := s_adv_ok hadt
          refine A_aload_n hg dX10_follow_58 rfl rfl ?_
          refine A_aload_n hg dX10_follow_59 rfl rfl ?_
          refine A_aload_n hg dX10_follow_60 rfl rfl ?_
          refine A_getf (v := .ref (q_h G + 242)) hg fl_RX10_90 dX10_follow_61 hc_115 (by omega) rfl ?_
          refine A_getf (v := .int (nI (s_ap (s_it g i)))) hg fl_RX10_335 dX10_follow_64 hc_112 (by omega) rfl ?_
          refine A_aload_n hg dX10_follow_67 rfl rfl ?_
          refine A_getf (v := .ref (q_h G + 242)) hg fl_RX10_90 dX10_follow_68 hc_115 (by omega) rfl ?_
          refine A_getf (v := .int (nI (s_ak (s_it g i)))) hg fl_RX10_338 dX10_follow_71 hc_112 (by omega) rfl ?_
          refine A_aload_n hg dX10_follow_74 rfl rfl ?_
          refine A_getf (v := .ref (q_h G + 242)) hg fl_RX10_90 dX10_follow_75 hc_115 (by omega) rfl ?_
          refine A_getf (v := .int (nI (s_al2 (s_it g i)))) hg fl_RX10_341 dX10_follow_78 hc_112 (by omega) rfl ?_
          refine A_hV (kc2 := 1) (ks2 := 6) (As := [.ref (q_h G + 43), .int (nI (s_ap (s_it g i))), .int (nI (s_ak (s_it g i))), .int (nI (s_al2 (s_it g i)))]) (rest := []) hg lk_RX10_392 in_X10_makeTurn se_X10_makeTurn rfl dX10_follow_81 ⟨by decide, by decide⟩ rfl rfl ⟨by decide, by decide⟩ hc_115 (by omega) rfl rfl (Nat.le_of_ble_eq_true rfl) (c_X10_makeTurn G ex n σ_114 z1 z2 z3 (s_it g i) flD n0D gvD gsD lmD vsD nmD onD slD moD nbD bmD skD s2D vaD spD rfD (s_ap (s_it g i)) (s_ak (s_it g i)) (s_al2 (s_it g i)) u0 u1 u2 u3 u4 hc_115 hc_116 hc_117 hc_119 hc_120 hc_121 hc_122 hc_123 hc_124 hc_125 hc_126 hc_118 (by omega) (x_gm_e (fun i _ _ => (hf_113 i (by omega))) hGi0) htf ho1 ho2 ho3) ?_
          rintro _ σ_143 ⟨h3x_139, h4x_140, rfl, hG9x, hc_141, hf_142⟩
          refine (?_ : AJ G K Q 1 6 ex n 84 [some (.ref (q_h G + 0)), some (.int (nI (t1))), some (.ref (q_h G + 43)), some (.int (nI (i)))] [.int (nI (s_tot (s_take (s_it g i) (s_ap (s_it g i)) (s_ak (s_it g i)) (s_al2 (s_it g i)))))] σ_143)
          have hc_144 : σ_143 0 = o10 G (z1) (z2) (z3) := (hf_142 _ (by omega)).trans hc_115
          have hc_145 : σ_143 43 = o4 G (43)  := (hf_142 _ (by omega)).trans hc_116
          have hc_146 : σ_143 44 = q_rn G 4 4 (fun j => some (46 + 8 * j)) := (hf_142 _ (by omega)).trans hc_117
          have hc_147 : ∀ j9 : Nat, j9 < 4 → σ_143 (46 + 8 * j9) = o8 G (46 + 8 * j9) (nI (flD j9)) (nI (n0D j9)) (nI (gvD j9)) (nI (gsD j9)) (nI (lmD j9)) (nI (vsD j9)) := fun j9 hj0 => (hf_142 _ (by omega)).trans (hc_119 j9 (by omega))
          have hc_148 : ∀ j9 : Nat, j9 < 4 → σ_143 (46 + 8 * j9 + 1) = o7 G (46 + 8 * j9 + 1) (lN (nmD j9)) (lN (onD j9)) (nI (slD j9)) (nI (moD j9)) (nI (nbD j9)) := fun j9 hj0 => (hf_142 _ (by omega)).trans (hc_120 j9 (by omega))
          have hc_149 : ∀ j9 : Nat, j9 < 4 → σ_143 (46 + 8 * j9 + 2) = q_an G 5 (bmD j9) := fun j9 hj0 => (hf_142 _ (by omega)).trans (hc_121 j9 (by omega))
          have hc_150 : ∀ j9 : Nat, j9 < 4 → σ_143 (46 + 8 * j9 + 3) = q_an G 1681 (skD j9) := fun j9 hj0 => (hf_142 _ (by omega)).trans (hc_122 j9 (by omega))
          have hc_151 : ∀ j9 : Nat, j9 < 4 → σ_143 (46 + 8 * j9 + 4) = q_an G 1681 (s2D j9) := fun j9 hj0 => (hf_142 _ (by omega)).trans (hc_123 j9 (by omega))
          have hc_152 : ∀ j9 : Nat, j9 < 4 → σ_143 (46 + 8 * j9 + 5) = q_an G 1681 (vaD j9) := fun j9 hj0 => (hf_142 _ (by omega)).trans (hc_124 j9 (by omega))
          have hc_153 : ∀ j9 : Nat, j9 < 4 → σ_143 (46 + 8 * j9 + 6) = q_an G 1681 (spD j9) := fun j9 hj0 => (hf_142 _ (by omega)).trans (hc_125 j9 (by omega))
          have hc_154 : ∀ j9 : Nat, j9 < 4 → σ_143 (46 + 8 * j9 + 7) = q_an G 1681 (rfD j9) := fun j9 hj0 => (hf_142 _ (by omega)).trans (hc_126 j9 (by omega))
          have hc_155 : σ_143 242 = o1 G (q_b (s_adv (s_it g i))) (q_b (s_aw (s_it g i))) (nI (s_ap (s_it g i))) (nI (s_ak (s_it g i))) (nI (s_al2 (s_it g i))) := (hf_142 _ (by omega)).trans hc_112
          have hsi := s_it_s hadt
          have hp1 := s_play_1 (k := s_ak (s_it g i)) (l := s_al2 (s_it g i)) hgi ho1
          rw [← hsi] at hp1
          refine A_pop hg dX10_follow_84 rfl ?_
          refine A_iincN (k' := 1) hg dX10_follow_85 (by decide) rfl (by decide) (q_c1d rfl) ?_
          refine A_eq (ls2 := [some (.ref (q_h G + 0)), some (.int (nI (t1))), some (.ref (q_h G + 43)), some (.int (nI (i + 1)))]) (st2 := []) (pc2 := 0) rfl rfl ?_
          refine A_goto (tgt := 26) hg dX10_follow_88 (by decide) ?_
          exact ih26 (i + 1) (q_b (s_adv (s_it g i))) (q_b (s_aw (s_it g i))) (nI (s_ap (s_it g i))) (nI (s_ak (s_it g i))) (nI (s_al2 (s_it g i))) u0 u1 u2 h3x_139 h4x_140 σ_143 hc_144 hc_145 hc_146 hc_141 hc_155 hc_147 hc_148 hc_149 hc_150 hc_151 hc_152 hc_153 hc_154 (fun i hi => ((hf_142 i (by omega)).trans ((hf_113 i (by omega)).trans (hf_99 i (by omega))))) (by omega) (by rw [hsi]; exact hG9x) (x_hi_e (fun i _ _ => ((hf_142 i (by omega)).trans (hf_113 i (by omega)))) hHiL) (by rw [hp1.1, hsi]; exact x_TF_play hgi ho1 (Nat.le_refl _) htf) (lt_s has hadt) (by omega)
        · skip
          refine A_iload_n hg dX10_follow_56 rfl rfl ?_
          have hfn : s_fn g t1 = i := x_fn_end hi has (Or.inr c53)
          rw [hQ]
          exact A_ireturn hg (by decide) (by decide) rfl dX10_follow_57 ⟨rfl, ⟨t1, (by rw [hfn]), rfl, hta9, htl9, (by rw [hfn]; exact (x_gm_e (fun i _ _ => (hf_113 i (by omega))) hGi0)), (x_hi_e (fun i _ _ => (hf_113 i (by omega))) hHiL), ⟨(u0), (u1), (u2), (u3), (u4), flD, n0D, gvD, gsD, lmD, vsD, nmD, onD, slD, moD, nbD, bmD, skD, s2D, vaD, spD, rfD, hc_116, hc_117, hc_118, hc_119, hc_120, hc_121, hc_122, hc_123, hc_124, hc_125, hc_126, hTI2⟩, ⟨_, _, _, _, _, hc_112⟩, (fun i hi => ((hf_113 i (by omega)).trans (hf_99 i (by omega))))⟩⟩
  exact hL26 _ 0 e0 e1 e2 e3 e4 (h0) (h1) (h2) (h3) (h4) σ_65 hc_66 hc_80 hc_81 hc_82 hc_83 hc_56 hc_57 hc_58 hc_59 hc_60 hc_61 hc_62 hc_63 (fun i hi => ((hf_64 i (by omega)).trans (hf_28 i (by omega)))) (Nat.zero_le _) (x_gm_e (fun i _ _ => ((hf_64 i (by omega)).trans (hf_28 i (by omega)))) hG0) (x_hi_e (fun i _ _ => (hf_64 i (by omega))) hHiP) hTF2 (fun j h => absurd h (Nat.not_lt_zero j)) (Nat.lt_succ_self _)
end
