section
set_option maxRecDepth 100000 in
set_option maxHeartbeats 4000000 in
theorem c_X10_fittedMix (G : GL) (ex : Bool) (n : Nat) (σ : Nat → va_E) (z1 : Int32) (z2 : Int32) (z3 : Int32) (g : Nat → Nat) (kd : Nat → Nat) (fi : Nat → Nat) (se : Nat → Nat) (nm : Nat → Nat) (on : Nat → Nat) (bm : Nat → Nat → Nat) (flA : Nat → Nat) (n0A : Nat → Nat) (gvA : Nat → Nat) (gsA : Nat → Nat) (lmA : Nat → Nat) (vsA : Nat → Nat) (nmA : Nat → Nat) (onA : Nat → Nat) (slA : Nat → Nat) (moA : Nat → Nat) (nbA : Nat → Nat) (bmA : Nat → Nat → Nat) (skA : Nat → Nat → Nat) (s2A : Nat → Nat → Nat) (vaA : Nat → Nat → Nat) (spA : Nat → Nat → Nat) (rfA : Nat → Nat → Nat) (hc0 : σ 0 = o10 G (z1) (z2) (z3)) (hc1 : σ 43 = o4 G (43) ) (hc2 : σ 44 = q_rn G 4 4 (fun j => some (46 + 8 * j))) (hc3 : σ 25 = o0 G (25) (nI (g 0)) (nI (g 3)) (nI (g 4)) (nI (g 5)) (nI (g 6))) (hc4 : σ 26 = q_rn G 3 4 (fun j => some (25 + 10 + 2 * j))) (hc5 : σ 27 = o6 G (27) (nI (g 1)) (nI (g 2))) (hc6 : σ 28 = q_an G 8 kd) (hc7 : σ 29 = q_an G 8 fi) (hc8 : σ 30 = q_an G 8 se) (hc9 : ∀ j9 : Nat, j9 < g 0 → σ (25 + 10 + 2 * j9) = o7 G (25 + 10 + 2 * j9) (lN (nm j9)) (lN (on j9)) (nI (s_rule g j9 18)) (nI (s_rule g j9 19)) (nI (s_rule g j9 20))) (hc10 : ∀ j9 : Nat, j9 < g 0 → σ (25 + 10 + 2 * j9 + 1) = q_an G 5 (bm j9)) (hc11 : ∀ j9 : Nat, j9 < 4 → σ (46 + 8 * j9) = o8 G (46 + 8 * j9) (nI (flA j9)) (nI (n0A j9)) (nI (gvA j9)) (nI (gsA j9)) (nI (lmA j9)) (nI (vsA j9))) (hc12 : ∀ j9 : Nat, j9 < 4 → σ (46 + 8 * j9 + 1) = o7 G (46 + 8 * j9 + 1) (lN (nmA j9)) (lN (onA j9)) (nI (slA j9)) (nI (moA j9)) (nI (nbA j9))) (hc13 : ∀ j9 : Nat, j9 < 4 → σ (46 + 8 * j9 + 2) = q_an G 5 (bmA j9)) (hc14 : ∀ j9 : Nat, j9 < 4 → σ (46 + 8 * j9 + 3) = q_an G 1681 (skA j9)) (hc15 : ∀ j9 : Nat, j9 < 4 → σ (46 + 8 * j9 + 4) = q_an G 1681 (s2A j9)) (hc16 : ∀ j9 : Nat, j9 < 4 → σ (46 + 8 * j9 + 5) = q_an G 1681 (vaA j9)) (hc17 : ∀ j9 : Nat, j9 < 4 → σ (46 + 8 * j9 + 6) = q_an G 1681 (spA j9)) (hc18 : ∀ j9 : Nat, j9 < 4 → σ (46 + 8 * j9 + 7) = q_an G 1681 (rfA j9)) (hn9 : 279 ≤ n) (hgw : s_gwf g) (hxp : x_p g kd fi se) (hrs : x_rs g nm on bm) (hTI : x_TI flA onA slA moA nbA n0A gvA gsA lmA vsA bmA skA s2A vaA spA) : Ct G yX10_fittedMix cX10_fittedMix 1 (some (.object "GoldenHeaps$Mix")) ⟨5, 0, 0, 120⟩ [.ref (q_h G + 0)] ex n σ (fun v9 σ2 => ∃ (flB : Nat → Nat), ∃ (n0B : Nat → Nat), ∃ (gvB : Nat → Nat), ∃ (gsB : Nat → Nat), ∃ (lmB : Nat → Nat), ∃ (vsB : Nat → Nat), ∃ (nmB : Nat → Nat), ∃ (onB : Nat → Nat), ∃ (slB : Nat → Nat), ∃ (moB : Nat → Nat), ∃ (nbB : Nat → Nat), ∃ (bmB : Nat → Nat → Nat), ∃ (skB : Nat → Nat → Nat), ∃ (s2B : Nat → Nat → Nat), ∃ (vaB : Nat → Nat → Nat), ∃ (spB : Nat → Nat → Nat), ∃ (rfB : Nat → Nat → Nat), v9 = some (.ref (q_h G + 43)) ∧ (x_TI flB onB slB moB nbB n0B gvB gsB lmB vsB bmB skB s2B vaB spB) ∧ (x_TF g (g 1) onB slB moB nbB n0B gvB gsB lmB vsB bmB skB s2B vaB spB) ∧ (∀ j9 : Nat, j9 < 4 → σ2 (46 + 8 * j9) = o8 G (46 + 8 * j9) (nI (flB j9)) (nI (n0B j9)) (nI (gvB j9)) (nI (gsB j9)) (nI (lmB j9)) (nI (vsB j9))) ∧ (∀ j9 : Nat, j9 < 4 → σ2 (46 + 8 * j9 + 1) = o7 G (46 + 8 * j9 + 1) (lN (nmB j9)) (lN (onB j9)) (nI (slB j9)) (nI (moB j9)) (nI (nbB j9))) ∧ (∀ j9 : Nat, j9 < 4 → σ2 (46 + 8 * j9 + 2) = q_an G 5 (bmB j9)) ∧ (∀ j9 : Nat, j9 < 4 → σ2 (46 + 8 * j9 + 3) = q_an G 1681 (skB j9)) ∧ (∀ j9 : Nat, j9 < 4 → σ2 (46 + 8 * j9 + 4) = q_an G 1681 (s2B j9)) ∧ (∀ j9 : Nat, j9 < 4 → σ2 (46 + 8 * j9 + 5) = q_an G 1681 (vaB j9)) ∧ (∀ j9 : Nat, j9 < 4 → σ2 (46 + 8 * j9 + 6) = q_an G 1681 (spB j9)) ∧ (∀ j9 : Nat, j9 < 4 → σ2 (46 + 8 * j9 + 7) = q_an G 1681 (rfB j9)) ∧ (∀ i : Nat, i < 46 ∨ 77 < i → σ2 i = σ i)) := by
  refine q_enter [some (.ref (q_h G + 0))] (by decide) (Nat.le_of_ble_eq_true rfl) rfl ?_
  intro K hg
  obtain ⟨Q, hQ⟩ : ∃ Q, Q = q_Q G K ex n 0 0 (fun v9 n' σ' => n' = n ∧ (fun v9 σ2 => ∃ (flB : Nat → Nat), ∃ (n0B : Nat → Nat), ∃ (gvB : Nat → Nat), ∃ (gsB : Nat → Nat), ∃ (lmB : Nat → Nat), ∃ (vsB : Nat → Nat), ∃ (nmB : Nat → Nat), ∃ (onB : Nat → Nat), ∃ (slB : Nat → Nat), ∃ (moB : Nat → Nat), ∃ (nbB : Nat → Nat), ∃ (bmB : Nat → Nat → Nat), ∃ (skB : Nat → Nat → Nat), ∃ (s2B : Nat → Nat → Nat), ∃ (vaB : Nat → Nat → Nat), ∃ (spB : Nat → Nat → Nat), ∃ (rfB : Nat → Nat → Nat), v9 = some (.ref (q_h G + 43)) ∧ (x_TI flB onB slB moB nbB n0B gvB gsB lmB vsB bmB skB s2B vaB spB) ∧ (x_TF g (g 1) onB slB moB nbB n0B gvB gsB lmB vsB bmB skB s2B vaB spB) ∧ (∀ j9 : Nat, j9 < 4 → σ2 (46 + 8 * j9) = o8 G (46 + 8 * j9) (nI (flB j9)) (nI (n0B j9)) (nI (gvB j9)) (nI (gsB j9)) (nI (lmB j9)) (nI (vsB j9))) ∧ (∀ j9 : Nat, j9 < 4 → σ2 (46 + 8 * j9 + 1) = o7 G (46 + 8 * j9 + 1) (lN (nmB j9)) (lN (onB j9)) (nI (slB j9)) (nI (moB j9)) (nI (nbB j9))) ∧ (∀ j9 : Nat, j9 < 4 → σ2 (46 + 8 * j9 + 2) = q_an G 5 (bmB j9)) ∧ (∀ j9 : Nat, j9 < 4 → σ2 (46 + 8 * j9 + 3) = q_an G 1681 (skB j9)) ∧ (∀ j9 : Nat, j9 < 4 → σ2 (46 + 8 * j9 + 4) = q_an G 1681 (s2B j9)) ∧ (∀ j9 : Nat, j9 < 4 → σ2 (46 + 8 * j9 + 5) = q_an G 1681 (vaB j9)) ∧ (∀ j9 : Nat, j9 < 4 → σ2 (46 + 8 * j9 + 6) = q_an G 1681 (spB j9)) ∧ (∀ j9 : Nat, j9 < 4 → σ2 (46 + 8 * j9 + 7) = q_an G 1681 (rfB j9)) ∧ (∀ i : Nat, i < 46 ∨ 77 < i → σ2 i = σ i)) v9 σ') q_noX := ⟨_, rfl⟩
  refine (?_ : AJ G K (q_Q G K ex n 0 0 _ _) 0 0 ex n 0 _ _ σ)
  rw [← hQ]
  have hg0 := hgw.1
  refine A_aload_n hg dX10_fittedMix_0 rfl rfl ?_
  refine A_getf (v := .ref (q_h G + 43)) hg fl_RX10_47 dX10_fittedMix_1 hc0 (by omega) rfl ?_
  refine A_aload_n hg dX10_fittedMix_4 rfl rfl ?_
  refine A_getf (v := .ref (q_h G + 25)) hg fl_RX10_40 dX10_fittedMix_5 hc0 (by omega) rfl ?_
  refine A_vV (kc2 := 0) (ks2 := 0) (As := [.ref (q_h G + 25)]) (rest := []) hg lk_RX10_457 in_X4_fit se_X4_fit rfl dX10_fittedMix_8 ⟨by decide, by decide⟩ rfl rfl ⟨by decide, by decide⟩ hc1 (by omega) rfl rfl (Nat.le_of_ble_eq_true rfl) (c_X4_fit G ex n σ g kd fi se nm on bm flA n0A gvA gsA lmA vsA nmA onA slA moA nbA bmA skA s2A vaA spA rfA hc1 hc2 hc3 hc4 hc5 hc6 hc7 hc8 hc9 hc10 hc11 hc12 hc13 hc14 hc15 hc16 hc17 hc18 (by omega) hgw hxp hrs hTI) ?_
  rintro σ_10 ⟨flD, n0D, gvD, gsD, lmD, vsD, nmD, onD, slD, moD, nbD, bmD, skD, s2D, vaD, spD, rfD, hTI9, hTF9, hc_1, hc_2, hc_3, hc_4, hc_5, hc_6, hc_7, hc_8, hf_9⟩
  have hc_11 : σ_10 0 = o10 G (z1) (z2) (z3) := (hf_9 _ (by omega)).trans hc0
  have hc_12 : σ_10 43 = o4 G (43)  := (hf_9 _ (by omega)).trans hc1
  have hc_13 : σ_10 44 = q_rn G 4 4 (fun j => some (46 + 8 * j)) := (hf_9 _ (by omega)).trans hc2
  have hc_14 : σ_10 25 = o0 G (25) (nI (g 0)) (nI (g 3)) (nI (g 4)) (nI (g 5)) (nI (g 6)) := (hf_9 _ (by omega)).trans hc3
  have hc_15 : σ_10 26 = q_rn G 3 4 (fun j => some (25 + 10 + 2 * j)) := (hf_9 _ (by omega)).trans hc4
  have hc_16 : σ_10 27 = o6 G (27) (nI (g 1)) (nI (g 2)) := (hf_9 _ (by omega)).trans hc5
  have hc_17 : σ_10 28 = q_an G 8 kd := (hf_9 _ (by omega)).trans hc6
  have hc_18 : σ_10 29 = q_an G 8 fi := (hf_9 _ (by omega)).trans hc7
  have hc_19 : σ_10 30 = q_an G 8 se := (hf_9 _ (by omega)).trans hc8
  have hc_20 : ∀ j9 : Nat, j9 < g 0 → σ_10 (25 + 10 + 2 * j9) = o7 G (25 + 10 + 2 * j9) (lN (nm j9)) (lN (on j9)) (nI (s_rule g j9 18)) (nI (s_rule g j9 19)) (nI (s_rule g j9 20)) := fun j9 hj0 => (hf_9 _ (by omega)).trans (hc9 j9 (by omega))
  have hc_21 : ∀ j9 : Nat, j9 < g 0 → σ_10 (25 + 10 + 2 * j9 + 1) = q_an G 5 (bm j9) := fun j9 hj0 => (hf_9 _ (by omega)).trans (hc10 j9 (by omega))
  refine A_aload_n hg dX10_fittedMix_11 rfl rfl ?_
  refine A_getf (v := .ref (q_h G + 43)) hg fl_RX10_47 dX10_fittedMix_12 hc_11 (by omega) rfl ?_
  rw [hQ]
  exact A_areturn hg (by decide) (by decide) rfl dX10_fittedMix_15 ⟨rfl, ⟨flD, n0D, gvD, gsD, lmD, vsD, nmD, onD, slD, moD, nbD, bmD, skD, s2D, vaD, spD, rfD, rfl, hTI9, hTF9, hc_1, hc_2, hc_3, hc_4, hc_5, hc_6, hc_7, hc_8, (fun i hi => (hf_9 i (by omega)))⟩⟩
set_option maxRecDepth 100000 in
set_option maxHeartbeats 4000000 in
theorem c_X10_fittedTable (G : GL) (ex : Bool) (n : Nat) (σ : Nat → va_E) (z1 : Int32) (z2 : Int32) (z3 : Int32) (g : Nat → Nat) (nm : Nat → Nat) (on : Nat → Nat) (bm : Nat → Nat → Nat) (flA : Nat → Nat) (n0A : Nat → Nat) (gvA : Nat → Nat) (gsA : Nat → Nat) (lmA : Nat → Nat) (vsA : Nat → Nat) (nmA : Nat → Nat) (onA : Nat → Nat) (slA : Nat → Nat) (moA : Nat → Nat) (nbA : Nat → Nat) (bmA : Nat → Nat → Nat) (skA : Nat → Nat → Nat) (s2A : Nat → Nat → Nat) (vaA : Nat → Nat → Nat) (spA : Nat → Nat → Nat) (rfA : Nat → Nat → Nat) (r : Nat) (hc0 : σ 0 = o10 G (z1) (z2) (z3)) (hc1 : σ 43 = o4 G (43) ) (hc2 : σ 44 = q_rn G 4 4 (fun j => some (46 + 8 * j))) (hc3 : σ 25 = o0 G (25) (nI (g 0)) (nI (g 3)) (nI (g 4)) (nI (g 5)) (nI (g 6))) (hc4 : σ 26 = q_rn G 3 4 (fun j => some (25 + 10 + 2 * j))) (hc5 : ∀ j9 : Nat, j9 < g 0 → σ (25 + 10 + 2 * j9) = o7 G (25 + 10 + 2 * j9) (lN (nm j9)) (lN (on j9)) (nI (s_rule g j9 18)) (nI (s_rule g j9 19)) (nI (s_rule g j9 20))) (hc6 : ∀ j9 : Nat, j9 < g 0 → σ (25 + 10 + 2 * j9 + 1) = q_an G 5 (bm j9)) (hc7 : ∀ j9 : Nat, j9 < 4 → σ (46 + 8 * j9) = o8 G (46 + 8 * j9) (nI (flA j9)) (nI (n0A j9)) (nI (gvA j9)) (nI (gsA j9)) (nI (lmA j9)) (nI (vsA j9))) (hc8 : ∀ j9 : Nat, j9 < 4 → σ (46 + 8 * j9 + 1) = o7 G (46 + 8 * j9 + 1) (lN (nmA j9)) (lN (onA j9)) (nI (slA j9)) (nI (moA j9)) (nI (nbA j9))) (hc9 : ∀ j9 : Nat, j9 < 4 → σ (46 + 8 * j9 + 2) = q_an G 5 (bmA j9)) (hc10 : ∀ j9 : Nat, j9 < 4 → σ (46 + 8 * j9 + 3) = q_an G 1681 (skA j9)) (hc11 : ∀ j9 : Nat, j9 < 4 → σ (46 + 8 * j9 + 4) = q_an G 1681 (s2A j9)) (hc12 : ∀ j9 : Nat, j9 < 4 → σ (46 + 8 * j9 + 5) = q_an G 1681 (vaA j9)) (hc13 : ∀ j9 : Nat, j9 < 4 → σ (46 + 8 * j9 + 6) = q_an G 1681 (spA j9)) (hc14 : ∀ j9 : Nat, j9 < 4 → σ (46 + 8 * j9 + 7) = q_an G 1681 (rfA j9)) (hn9 : 279 ≤ n) (hgw : s_gwf g) (hrs : x_rs g nm on bm) (hTI : x_TI flA onA slA moA nbA n0A gvA gsA lmA vsA bmA skA s2A vaA spA) (hr : r < g 0) : Ct G yX10_fittedTable cX10_fittedTable 3 (some (.object "GoldenHeaps$Table")) ⟨4, 0, 0, 97⟩ [.ref (q_h G + 0), .int (nI (r))] ex n σ (fun v9 σ2 => ∃ (flB : Nat → Nat), ∃ (n0B : Nat → Nat), ∃ (gvB : Nat → Nat), ∃ (gsB : Nat → Nat), ∃ (lmB : Nat → Nat), ∃ (vsB : Nat → Nat), ∃ (nmB : Nat → Nat), ∃ (onB : Nat → Nat), ∃ (slB : Nat → Nat), ∃ (moB : Nat → Nat), ∃ (nbB : Nat → Nat), ∃ (bmB : Nat → Nat → Nat), ∃ (skB : Nat → Nat → Nat), ∃ (s2B : Nat → Nat → Nat), ∃ (vaB : Nat → Nat → Nat), ∃ (spB : Nat → Nat → Nat), ∃ (rfB : Nat → Nat → Nat), v9 = some (.ref (q_h G + (46 + 8 * r))) ∧ (x_TI flB onB slB moB nbB n0B gvB gsB lmB vsB bmB skB s2B vaB spB) ∧ (x_tz (s_rule g r) (onB r) (slB r) (moB r) (nbB r) (bmB r) (n0B r) (skB r) (s2B r) (vaB r) (spB r) (gvB r) (gsB r) (lmB r) (vsB r)) ∧ (∀ j9 : Nat, j9 < 4 → σ2 (46 + 8 * j9) = o8 G (46 + 8 * j9) (nI (flB j9)) (nI (n0B j9)) (nI (gvB j9)) (nI (gsB j9)) (nI (lmB j9)) (nI (vsB j9))) ∧ (∀ j9 : Nat, j9 < 4 → σ2 (46 + 8 * j9 + 1) = o7 G (46 + 8 * j9 + 1) (lN (nmB j9)) (lN (onB j9)) (nI (slB j9)) (nI (moB j9)) (nI (nbB j9))) ∧ (∀ j9 : Nat, j9 < 4 → σ2 (46 + 8 * j9 + 2) = q_an G 5 (bmB j9)) ∧ (∀ j9 : Nat, j9 < 4 → σ2 (46 + 8 * j9 + 3) = q_an G 1681 (skB j9)) ∧ (∀ j9 : Nat, j9 < 4 → σ2 (46 + 8 * j9 + 4) = q_an G 1681 (s2B j9)) ∧ (∀ j9 : Nat, j9 < 4 → σ2 (46 + 8 * j9 + 5) = q_an G 1681 (vaB j9)) ∧ (∀ j9 : Nat, j9 < 4 → σ2 (46 + 8 * j9 + 6) = q_an G 1681 (spB j9)) ∧ (∀ j9 : Nat, j9 < 4 → σ2 (46 + 8 * j9 + 7) = q_an G 1681 (rfB j9)) ∧ (∀ i : Nat, i < 46 ∨ 77 < i → σ2 i = σ i)) := by
  refine q_enter [some (.ref (q_h G + 0)), some (.int (nI (r))), none] (by decide) (Nat.le_of_ble_eq_true rfl) rfl ?_
  intro K hg
  obtain ⟨Q, hQ⟩ : ∃ Q, Q = q_Q G K ex n 0 0 (fun v9 n' σ' => n' = n ∧ (fun v9 σ2 => ∃ (flB : Nat → Nat), ∃ (n0B : Nat → Nat), ∃ (gvB : Nat → Nat), ∃ (gsB : Nat → Nat), ∃ (lmB : Nat → Nat), ∃ (vsB : Nat → Nat), ∃ (nmB : Nat → Nat), ∃ (onB : Nat → Nat), ∃ (slB : Nat → Nat), ∃ (moB : Nat → Nat), ∃ (nbB : Nat → Nat), ∃ (bmB : Nat → Nat → Nat), ∃ (skB : Nat → Nat → Nat), ∃ (s2B : Nat → Nat → Nat), ∃ (vaB : Nat → Nat → Nat), ∃ (spB : Nat → Nat → Nat), ∃ (rfB : Nat → Nat → Nat), v9 = some (.ref (q_h G + (46 + 8 * r))) ∧ (x_TI flB onB slB moB nbB n0B gvB gsB lmB vsB bmB skB s2B vaB spB) ∧ (x_tz (s_rule g r) (onB r) (slB r) (moB r) (nbB r) (bmB r) (n0B r) (skB r) (s2B r) (vaB r) (spB r) (gvB r) (gsB r) (lmB r) (vsB r)) ∧ (∀ j9 : Nat, j9 < 4 → σ2 (46 + 8 * j9) = o8 G (46 + 8 * j9) (nI (flB j9)) (nI (n0B j9)) (nI (gvB j9)) (nI (gsB j9)) (nI (lmB j9)) (nI (vsB j9))) ∧ (∀ j9 : Nat, j9 < 4 → σ2 (46 + 8 * j9 + 1) = o7 G (46 + 8 * j9 + 1) (lN (nmB j9)) (lN (onB j9)) (nI (slB j9)) (nI (moB j9)) (nI (nbB j9))) ∧ (∀ j9 : Nat, j9 < 4 → σ2 (46 + 8 * j9 + 2) = q_an G 5 (bmB j9)) ∧ (∀ j9 : Nat, j9 < 4 → σ2 (46 + 8 * j9 + 3) = q_an G 1681 (skB j9)) ∧ (∀ j9 : Nat, j9 < 4 → σ2 (46 + 8 * j9 + 4) = q_an G 1681 (s2B j9)) ∧ (∀ j9 : Nat, j9 < 4 → σ2 (46 + 8 * j9 + 5) = q_an G 1681 (vaB j9)) ∧ (∀ j9 : Nat, j9 < 4 → σ2 (46 + 8 * j9 + 6) = q_an G 1681 (spB j9)) ∧ (∀ j9 : Nat, j9 < 4 → σ2 (46 + 8 * j9 + 7) = q_an G 1681 (rfB j9)) ∧ (∀ i : Nat, i < 46 ∨ 77 < i → σ2 i = σ i)) v9 σ') q_noX := ⟨_, rfl⟩
  refine (?_ : AJ G K (q_Q G K ex n 0 0 _ _) 0 0 ex n 0 _ _ σ)
  rw [← hQ]
  have hg0 := hgw.1
  have hkr := hr
  refine A_aload_n hg dX10_fittedTable_0 rfl rfl ?_
  refine A_getf (v := .ref (q_h G + 43)) hg fl_RX10_47 dX10_fittedTable_1 hc0 (by omega) rfl ?_
  refine A_iload_n hg dX10_fittedTable_4 rfl rfl ?_
  refine A_eV (kc2 := 0) (ks2 := 0) (As := [.int (nI (r))]) (rest := []) hg lk_RX10_460 in_X4_tableAt se_X4_tableAt rfl dX10_fittedTable_5 ⟨by decide, by decide⟩ rfl rfl ⟨by decide, by decide⟩ hc1 (by omega) rfl rfl (Nat.le_of_ble_eq_true rfl) (c_X4_tableAt G ex n σ r hc1 hc2 (by omega) (by omega)) ?_
  refine A_astore_n hg dX10_fittedTable_8 rfl (by decide) (q_c1d rfl) ?_
  refine A_eq (ls2 := [some (.ref (q_h G + 0)), some (.int (nI (r))), some (.ref (q_h G + (46 + 8 * r)))]) (st2 := []) (pc2 := 0) rfl rfl ?_
  refine A_aload_n hg dX10_fittedTable_9 rfl rfl ?_
  refine A_aload_n hg dX10_fittedTable_10 rfl rfl ?_
  refine A_getf (v := .ref (q_h G + 25)) hg fl_RX10_40 dX10_fittedTable_11 hc0 (by omega) rfl ?_
  refine A_iload_n hg dX10_fittedTable_14 rfl rfl ?_
  refine A_eV (kc2 := 0) (ks2 := 0) (As := [.int (nI (r))]) (rest := [.ref (q_h G + (46 + 8 * r))]) hg lk_RX10_198 in_X0_ruleAt se_X0_ruleAt rfl dX10_fittedTable_15 ⟨by decide, by decide⟩ rfl rfl ⟨by decide, by decide⟩ hc3 (by omega) rfl rfl (Nat.le_of_ble_eq_true rfl) (c_X0_ruleAt G ex n σ 25 (g 0) (g 3) (g 4) (g 5) (g 6) r hc3 hc4 (by omega) (by omega)) ?_
  refine A_vV (kc2 := 0) (ks2 := 0) (As := [.ref (q_h G + (25 + 10 + 2 * r))]) (rest := []) hg lk_RX10_463 in_X8_fit se_X8_fit rfl dX10_fittedTable_18 ⟨by decide, by decide⟩ rfl rfl ⟨by decide, by decide⟩ (hc7 r (by omega)) (by omega) rfl rfl (Nat.le_of_ble_eq_true rfl) (c_X8_fit G ex n σ (46 + 8 * r) (flA r) (n0A r) (gvA r) (gsA r) (lmA r) (vsA r) (25 + 10 + 2 * r) (s_rule g r) (nm r) (on r) (bm r) (nmA r) (onA r) (slA r) (moA r) (nbA r) (bmA r) (skA r) (s2A r) (vaA r) (spA r) (rfA r) (hc7 r (by omega)) (hc10 r (by omega)) (hc11 r (by omega)) (hc12 r (by omega)) (hc13 r (by omega)) (hc14 r (by omega)) (hc8 r (by omega)) (hc9 r (by omega)) (hc5 r (by omega)) (hc6 r (by omega)) (by omega) (by omega) (by omega) (x_w_of (hgw.2.2.2.2.2.1 r hkr)) ((hrs r hkr).1) ((hrs r hkr).2) ((hTI r (by omega)).1) ((hTI r (by omega)).2.1) ((hTI r (by omega)).2.2)) ?_
  rintro σ_10 ⟨nm3, on3, sl3, mo3, nb3, bm3, n3, kf3, lf3, va3, sp3, rf3, gv3, gs3, lm3, vs3, htf3, hsb9, hc_1, hc_2, hc_3, hc_4, hc_5, hc_6, hc_7, hc_8, hf_9⟩
  have hc_11 : σ_10 0 = o10 G (z1) (z2) (z3) := (hf_9 _ (by omega)).trans hc0
  have hc_12 : σ_10 43 = o4 G (43)  := (hf_9 _ (by omega)).trans hc1
  have hc_13 : σ_10 44 = q_rn G 4 4 (fun j => some (46 + 8 * j)) := (hf_9 _ (by omega)).trans hc2
  have hc_14 : σ_10 25 = o0 G (25) (nI (g 0)) (nI (g 3)) (nI (g 4)) (nI (g 5)) (nI (g 6)) := (hf_9 _ (by omega)).trans hc3
  have hc_15 : σ_10 26 = q_rn G 3 4 (fun j => some (25 + 10 + 2 * j)) := (hf_9 _ (by omega)).trans hc4
  have hc_16 : ∀ j9 : Nat, j9 < g 0 → σ_10 (25 + 10 + 2 * j9) = o7 G (25 + 10 + 2 * j9) (lN (nm j9)) (lN (on j9)) (nI (s_rule g j9 18)) (nI (s_rule g j9 19)) (nI (s_rule g j9 20)) := fun j9 hj0 => (hf_9 _ (by omega)).trans (hc5 j9 (by omega))
  have hc_17 : ∀ j9 : Nat, j9 < g 0 → σ_10 (25 + 10 + 2 * j9 + 1) = q_an G 5 (bm j9) := fun j9 hj0 => (hf_9 _ (by omega)).trans (hc6 j9 (by omega))
  have hc_18 : ∀ j9 : Nat, j9 < 4 → j9 ≠ r → σ_10 (46 + 8 * j9) = o8 G (46 + 8 * j9) (nI (flA j9)) (nI (n0A j9)) (nI (gvA j9)) (nI (gsA j9)) (nI (lmA j9)) (nI (vsA j9)) := fun j9 hj0 hj1 => (hf_9 _ (by omega)).trans (hc7 j9 (by omega))
  have hc_19 : ∀ j9 : Nat, j9 < 4 → j9 ≠ r → σ_10 (46 + 8 * j9 + 1) = o7 G (46 + 8 * j9 + 1) (lN (nmA j9)) (lN (onA j9)) (nI (slA j9)) (nI (moA j9)) (nI (nbA j9)) := fun j9 hj0 hj1 => (hf_9 _ (by omega)).trans (hc8 j9 (by omega))
  have hc_20 : ∀ j9 : Nat, j9 < 4 → j9 ≠ r → σ_10 (46 + 8 * j9 + 2) = q_an G 5 (bmA j9) := fun j9 hj0 hj1 => (hf_9 _ (by omega)).trans (hc9 j9 (by omega))
  have hc_21 : ∀ j9 : Nat, j9 < 4 → j9 ≠ r → σ_10 (46 + 8 * j9 + 3) = q_an G 1681 (skA j9) := fun j9 hj0 hj1 => (hf_9 _ (by omega)).trans (hc10 j9 (by omega))
  have hc_22 : ∀ j9 : Nat, j9 < 4 → j9 ≠ r → σ_10 (46 + 8 * j9 + 4) = q_an G 1681 (s2A j9) := fun j9 hj0 hj1 => (hf_9 _ (by omega)).trans (hc11 j9 (by omega))
  have hc_23 : ∀ j9 : Nat, j9 < 4 → j9 ≠ r → σ_10 (46 + 8 * j9 + 5) = q_an G 1681 (vaA j9) := fun j9 hj0 hj1 => (hf_9 _ (by omega)).trans (hc12 j9 (by omega))
  have hc_24 : ∀ j9 : Nat, j9 < 4 → j9 ≠ r → σ_10 (46 + 8 * j9 + 6) = q_an G 1681 (spA j9) := fun j9 hj0 hj1 => (hf_9 _ (by omega)).trans (hc13 j9 (by omega))
  have hc_25 : ∀ j9 : Nat, j9 < 4 → j9 ≠ r → σ_10 (46 + 8 * j9 + 7) = q_an G 1681 (rfA j9) := fun j9 hj0 hj1 => (hf_9 _ (by omega)).trans (hc14 j9 (by omega))
  have hc_26 : ∀ j9 : Nat, j9 < 4 → σ_10 (46 + 8 * j9) = o8 G (46 + 8 * j9) (nI ((x_pt flA r 1) j9)) (nI ((x_pt n0A r n3) j9)) (nI ((x_pt gvA r gv3) j9)) (nI ((x_pt gsA r gs3) j9)) (nI ((x_pt lmA r lm3) j9)) (nI ((x_pt vsA r vs3) j9)) := by
    intro j9 hj0
    by_cases ej : j9 = r
    · rw [ej]; exact hc_1.trans (by simp only [x_pt_at])
    · exact (hc_18 j9 (by omega) ej).trans (by simp only [x_pt_ne ej])
  have hc_27 : ∀ j9 : Nat, j9 < 4 → σ_10 (46 + 8 * j9 + 1) = o7 G (46 + 8 * j9 + 1) (lN ((x_pt nmA r nm3) j9)) (lN ((x_pt onA r on3) j9)) (nI ((x_pt slA r sl3) j9)) (nI ((x_pt moA r mo3) j9)) (nI ((x_pt nbA r nb3) j9)) := by
    intro j9 hj0
    by_cases ej : j9 = r
    · rw [ej]; exact hc_7.trans (by simp only [x_pt_at])
    · exact (hc_19 j9 (by omega) ej).trans (by simp only [x_pt_ne ej])
  have hc_28 : ∀ j9 : Nat, j9 < 4 → σ_10 (46 + 8 * j9 + 2) = q_an G 5 ((x_pt bmA r bm3) j9) := by
    intro j9 hj0
    by_cases ej : j9 = r
    · rw [ej]; exact hc_8.trans (by simp only [x_pt_at])
    · exact (hc_20 j9 (by omega) ej).trans (by simp only [x_pt_ne ej])
  have hc_29 : ∀ j9 : Nat, j9 < 4 → σ_10 (46 + 8 * j9 + 3) = q_an G 1681 ((x_pt skA r kf3) j9) := by
    intro j9 hj0
    by_cases ej : j9 = r
    · rw [ej]; exact hc_2.trans (by simp only [x_pt_at])
    · exact (hc_21 j9 (by omega) ej).trans (by simp only [x_pt_ne ej])
  have hc_30 : ∀ j9 : Nat, j9 < 4 → σ_10 (46 + 8 * j9 + 4) = q_an G 1681 ((x_pt s2A r lf3) j9) := by
    intro j9 hj0
    by_cases ej : j9 = r
    · rw [ej]; exact hc_3.trans (by simp only [x_pt_at])
    · exact (hc_22 j9 (by omega) ej).trans (by simp only [x_pt_ne ej])
  have hc_31 : ∀ j9 : Nat, j9 < 4 → σ_10 (46 + 8 * j9 + 5) = q_an G 1681 ((x_pt vaA r va3) j9) := by
    intro j9 hj0
    by_cases ej : j9 = r
    · rw [ej]; exact hc_4.trans (by simp only [x_pt_at])
    · exact (hc_23 j9 (by omega) ej).trans (by simp only [x_pt_ne ej])
  have hc_32 : ∀ j9 : Nat, j9 < 4 → σ_10 (46 + 8 * j9 + 6) = q_an G 1681 ((x_pt spA r sp3) j9) := by
    intro j9 hj0
    by_cases ej : j9 = r
    · rw [ej]; exact hc_5.trans (by simp only [x_pt_at])
    · exact (hc_24 j9 (by omega) ej).trans (by simp only [x_pt_ne ej])
  have hc_33 : ∀ j9 : Nat, j9 < 4 → σ_10 (46 + 8 * j9 + 7) = q_an G 1681 ((x_pt rfA r rf3) j9) := by
    intro j9 hj0
    by_cases ej : j9 = r
    · rw [ej]; exact hc_6.trans (by simp only [x_pt_at])
    · exact (hc_25 j9 (by omega) ej).trans (by simp only [x_pt_ne ej])
  refine A_aload_n hg dX10_fittedTable_21 rfl rfl ?_
  rw [hQ]
  exact A_areturn hg (by decide) (by decide) rfl dX10_fittedTable_22 ⟨rfl, ⟨(x_pt flA r 1), (x_pt n0A r n3), (x_pt gvA r gv3), (x_pt gsA r gs3), (x_pt lmA r lm3), (x_pt vsA r vs3), (x_pt nmA r nm3), (x_pt onA r on3), (x_pt slA r sl3), (x_pt moA r mo3), (x_pt nbA r nb3), (x_pt bmA r bm3), (x_pt skA r kf3), (x_pt s2A r lf3), (x_pt vaA r va3), (x_pt spA r sp3), (x_pt rfA r rf3), rfl, (x_TI_set hTI (x_w_of (hgw.2.2.2.2.2.1 r hkr)) htf3 hsb9), (by simp only [x_pt_at]; exact htf3), hc_26, hc_27, hc_28, hc_29, hc_30, hc_31, hc_32, hc_33, (fun i hi => (hf_9 i (by omega)))⟩⟩
end
