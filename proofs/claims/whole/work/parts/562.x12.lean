section
set_option maxRecDepth 100000 in
set_option maxHeartbeats 4000000 in
theorem c_X4_tableAt (G : GL) (ex : Bool) (n : Nat) (σ : Nat → va_E) (k : Nat) (hc0 : σ 43 = o4 G (43) ) (hc1 : σ 44 = q_rn G 4 4 (fun j => some (46 + 8 * j))) (hn9 : 279 ≤ n) (hk4 : k < 4) : Ct G yX4_tableAt cX4_tableAt 2 (some (.object "GoldenHeaps$Table")) ⟨0, 0, 0, 0⟩ [.ref (q_h G + 43), .int (nI (k))] ex n σ (fun v9 σ2 => σ2 = σ ∧ v9 = some (.ref (q_h G + (46 + 8 * k)))) := by
  refine q_enter [some (.ref (q_h G + 43)), some (.int (nI (k)))] (by decide) (Nat.le_of_ble_eq_true rfl) rfl ?_
  intro K hg
  obtain ⟨Q, hQ⟩ : ∃ Q, Q = q_Q G K ex n 0 0 (fun v9 n' σ' => n' = n ∧ (fun v9 σ2 => σ2 = σ ∧ v9 = some (.ref (q_h G + (46 + 8 * k)))) v9 σ') q_noX := ⟨_, rfl⟩
  refine (?_ : AJ G K (q_Q G K ex n 0 0 _ _) 0 0 ex n 0 _ _ σ)
  rw [← hQ]
  refine A_iload_n hg dX4_tableAt_0 rfl rfl ?_
  refine A_if_ltN (tgt := 18) hg dX4_tableAt_1 (by omega) (by decide) ?_
  refine A_iload_n hg dX4_tableAt_4 rfl rfl ?_
  refine A_iconst (v := (nI (4))) hg dX4_tableAt_5 (by decide) ?_
  refine A_icmp_geN (tgt := 18) hg dX4_tableAt_6 (by omega) (by decide) (by decide) (fun c6 => absurd c6 (by omega)) (fun c6 => ?_)
  refine A_aload_n hg dX4_tableAt_9 rfl rfl ?_
  refine A_getf (v := .ref (q_h G + 44)) hg fl_RX4_11 dX4_tableAt_10 hc0 (by omega) rfl ?_
  refine A_iload_n hg dX4_tableAt_13 rfl rfl ?_
  refine A_aald (i := (46 + 8 * k)) hg dX4_tableAt_14 hc1 (by decide) rfl (by omega) (by omega) (by decide) rfl ?_
  refine A_goto (tgt := 24) hg dX4_tableAt_15 (by decide) ?_
  rw [hQ]
  exact A_areturn hg (by decide) (by decide) rfl dX4_tableAt_24 ⟨rfl, ⟨rfl, rfl⟩⟩
set_option maxRecDepth 100000 in
set_option maxHeartbeats 4000000 in
theorem c_X4_stickValue (G : GL) (ex : Bool) (n : Nat) (σ : Nat → va_E) (x : Nat) (y : Nat)  (hx : x < 2 ^ 31) (hy : y < 2 ^ 30) : Ct G yX4_stickValue cX4_stickValue 3 (some .int) ⟨0, 0, 0, 0⟩ [.int (nI (x)), .int (nI (y))] ex n σ (fun v9 σ2 => σ2 = σ ∧ v9 = some (.int (nI (x % (y + 1))))) := by
  refine q_enter [some (.int (nI (x))), some (.int (nI (y))), none] (by decide) (Nat.le_of_ble_eq_true rfl) rfl ?_
  intro K hg
  obtain ⟨Q, hQ⟩ : ∃ Q, Q = q_Q G K ex n 0 0 (fun v9 n' σ' => n' = n ∧ (fun v9 σ2 => σ2 = σ ∧ v9 = some (.int (nI (x % (y + 1))))) v9 σ') q_noX := ⟨_, rfl⟩
  refine (?_ : AJ G K (q_Q G K ex n 0 0 _ _) 0 0 ex n 0 _ _ σ)
  rw [← hQ]
  refine A_iload_n hg dX4_stickValue_0 rfl rfl ?_
  refine A_iconst (v := (nI (1))) hg dX4_stickValue_1 (by decide) ?_
  refine A_iaddN hg dX4_stickValue_2 ?_
  refine A_istore_n hg dX4_stickValue_3 rfl (by decide) (q_c1d rfl) ?_
  refine A_eq (ls2 := [some (.int (nI (x))), some (.int (nI (y))), some (.int (nI (y + 1)))]) (st2 := []) (pc2 := 0) rfl rfl ?_
  refine A_iload_n hg dX4_stickValue_4 rfl rfl ?_
  refine A_if_leN (tgt := 14) hg dX4_stickValue_5 (by omega) (by decide) (fun c5 => absurd c5 (by omega)) (fun c5 => ?_)
  refine A_iload_n hg dX4_stickValue_8 rfl rfl ?_
  refine A_iload_n hg dX4_stickValue_9 rfl rfl ?_
  refine A_iremN hg dX4_stickValue_10 (by omega) (by omega) (by omega) ?_
  refine A_goto (tgt := 15) hg dX4_stickValue_11 (by decide) ?_
  rw [hQ]
  exact A_ireturn hg (by decide) (by decide) rfl dX4_stickValue_15 ⟨rfl, ⟨rfl, rfl⟩⟩
set_option maxRecDepth 100000 in
set_option maxHeartbeats 4000000 in
theorem c_X4_fit (G : GL) (ex : Bool) (n : Nat) (σ : Nat → va_E) (g : Nat → Nat) (kd : Nat → Nat) (fi : Nat → Nat) (se : Nat → Nat) (nm : Nat → Nat) (on : Nat → Nat) (bm : Nat → Nat → Nat) (flA : Nat → Nat) (n0A : Nat → Nat) (gvA : Nat → Nat) (gsA : Nat → Nat) (lmA : Nat → Nat) (vsA : Nat → Nat) (nmA : Nat → Nat) (onA : Nat → Nat) (slA : Nat → Nat) (moA : Nat → Nat) (nbA : Nat → Nat) (bmA : Nat → Nat → Nat) (skA : Nat → Nat → Nat) (s2A : Nat → Nat → Nat) (vaA : Nat → Nat → Nat) (spA : Nat → Nat → Nat) (rfA : Nat → Nat → Nat) (hc0 : σ 43 = o4 G (43) ) (hc1 : σ 44 = q_rn G 4 4 (fun j => some (46 + 8 * j))) (hc2 : σ 25 = o0 G (25) (nI (g 0)) (nI (g 3)) (nI (g 4)) (nI (g 5)) (nI (g 6))) (hc3 : σ 26 = q_rn G 3 4 (fun j => some (25 + 10 + 2 * j))) (hc4 : σ 27 = o6 G (27) (nI (g 1)) (nI (g 2))) (hc5 : σ 28 = q_an G 8 kd) (hc6 : σ 29 = q_an G 8 fi) (hc7 : σ 30 = q_an G 8 se) (hc8 : ∀ j9 : Nat, j9 < g 0 → σ (25 + 10 + 2 * j9) = o7 G (25 + 10 + 2 * j9) (lN (nm j9)) (lN (on j9)) (nI (s_rule g j9 18)) (nI (s_rule g j9 19)) (nI (s_rule g j9 20))) (hc9 : ∀ j9 : Nat, j9 < g 0 → σ (25 + 10 + 2 * j9 + 1) = q_an G 5 (bm j9)) (hc10 : ∀ j9 : Nat, j9 < 4 → σ (46 + 8 * j9) = o8 G (46 + 8 * j9) (nI (flA j9)) (nI (n0A j9)) (nI (gvA j9)) (nI (gsA j9)) (nI (lmA j9)) (nI (vsA j9))) (hc11 : ∀ j9 : Nat, j9 < 4 → σ (46 + 8 * j9 + 1) = o7 G (46 + 8 * j9 + 1) (lN (nmA j9)) (lN (onA j9)) (nI (slA j9)) (nI (moA j9)) (nI (nbA j9))) (hc12 : ∀ j9 : Nat, j9 < 4 → σ (46 + 8 * j9 + 2) = q_an G 5 (bmA j9)) (hc13 : ∀ j9 : Nat, j9 < 4 → σ (46 + 8 * j9 + 3) = q_an G 1681 (skA j9)) (hc14 : ∀ j9 : Nat, j9 < 4 → σ (46 + 8 * j9 + 4) = q_an G 1681 (s2A j9)) (hc15 : ∀ j9 : Nat, j9 < 4 → σ (46 + 8 * j9 + 5) = q_an G 1681 (vaA j9)) (hc16 : ∀ j9 : Nat, j9 < 4 → σ (46 + 8 * j9 + 6) = q_an G 1681 (spA j9)) (hc17 : ∀ j9 : Nat, j9 < 4 → σ (46 + 8 * j9 + 7) = q_an G 1681 (rfA j9)) (hn9 : 279 ≤ n) (hgw : s_gwf g) (hxp : x_p g kd fi se) (hrs : x_rs g nm on bm) (hTI : x_TI flA onA slA moA nbA n0A gvA gsA lmA vsA bmA skA s2A vaA spA) : Ct G yX4_fit cX4_fit 4 none ⟨4, 0, 0, 97⟩ [.ref (q_h G + 43), .ref (q_h G + 25)] ex n σ (fun v9 σ2 => v9 = none ∧ ∃ (flB : Nat → Nat), ∃ (n0B : Nat → Nat), ∃ (gvB : Nat → Nat), ∃ (gsB : Nat → Nat), ∃ (lmB : Nat → Nat), ∃ (vsB : Nat → Nat), ∃ (nmB : Nat → Nat), ∃ (onB : Nat → Nat), ∃ (slB : Nat → Nat), ∃ (moB : Nat → Nat), ∃ (nbB : Nat → Nat), ∃ (bmB : Nat → Nat → Nat), ∃ (skB : Nat → Nat → Nat), ∃ (s2B : Nat → Nat → Nat), ∃ (vaB : Nat → Nat → Nat), ∃ (spB : Nat → Nat → Nat), ∃ (rfB : Nat → Nat → Nat), (x_TI flB onB slB moB nbB n0B gvB gsB lmB vsB bmB skB s2B vaB spB) ∧ (x_TF g (g 1) onB slB moB nbB n0B gvB gsB lmB vsB bmB skB s2B vaB spB) ∧ (∀ j9 : Nat, j9 < 4 → σ2 (46 + 8 * j9) = o8 G (46 + 8 * j9) (nI (flB j9)) (nI (n0B j9)) (nI (gvB j9)) (nI (gsB j9)) (nI (lmB j9)) (nI (vsB j9))) ∧ (∀ j9 : Nat, j9 < 4 → σ2 (46 + 8 * j9 + 1) = o7 G (46 + 8 * j9 + 1) (lN (nmB j9)) (lN (onB j9)) (nI (slB j9)) (nI (moB j9)) (nI (nbB j9))) ∧ (∀ j9 : Nat, j9 < 4 → σ2 (46 + 8 * j9 + 2) = q_an G 5 (bmB j9)) ∧ (∀ j9 : Nat, j9 < 4 → σ2 (46 + 8 * j9 + 3) = q_an G 1681 (skB j9)) ∧ (∀ j9 : Nat, j9 < 4 → σ2 (46 + 8 * j9 + 4) = q_an G 1681 (s2B j9)) ∧ (∀ j9 : Nat, j9 < 4 → σ2 (46 + 8 * j9 + 5) = q_an G 1681 (vaB j9)) ∧ (∀ j9 : Nat, j9 < 4 → σ2 (46 + 8 * j9 + 6) = q_an G 1681 (spB j9)) ∧ (∀ j9 : Nat, j9 < 4 → σ2 (46 + 8 * j9 + 7) = q_an G 1681 (rfB j9)) ∧ (∀ i : Nat, i < 46 ∨ 77 < i → σ2 i = σ i)) := by
  refine q_enter [some (.ref (q_h G + 43)), some (.ref (q_h G + 25)), none, none] (by decide) (Nat.le_of_ble_eq_true rfl) rfl ?_
  intro K hg
  obtain ⟨Q, hQ⟩ : ∃ Q, Q = q_Q G K ex n 0 0 (fun v9 n' σ' => n' = n ∧ (fun v9 σ2 => v9 = none ∧ ∃ (flB : Nat → Nat), ∃ (n0B : Nat → Nat), ∃ (gvB : Nat → Nat), ∃ (gsB : Nat → Nat), ∃ (lmB : Nat → Nat), ∃ (vsB : Nat → Nat), ∃ (nmB : Nat → Nat), ∃ (onB : Nat → Nat), ∃ (slB : Nat → Nat), ∃ (moB : Nat → Nat), ∃ (nbB : Nat → Nat), ∃ (bmB : Nat → Nat → Nat), ∃ (skB : Nat → Nat → Nat), ∃ (s2B : Nat → Nat → Nat), ∃ (vaB : Nat → Nat → Nat), ∃ (spB : Nat → Nat → Nat), ∃ (rfB : Nat → Nat → Nat), (x_TI flB onB slB moB nbB n0B gvB gsB lmB vsB bmB skB s2B vaB spB) ∧ (x_TF g (g 1) onB slB moB nbB n0B gvB gsB lmB vsB bmB skB s2B vaB spB) ∧ (∀ j9 : Nat, j9 < 4 → σ2 (46 + 8 * j9) = o8 G (46 + 8 * j9) (nI (flB j9)) (nI (n0B j9)) (nI (gvB j9)) (nI (gsB j9)) (nI (lmB j9)) (nI (vsB j9))) ∧ (∀ j9 : Nat, j9 < 4 → σ2 (46 + 8 * j9 + 1) = o7 G (46 + 8 * j9 + 1) (lN (nmB j9)) (lN (onB j9)) (nI (slB j9)) (nI (moB j9)) (nI (nbB j9))) ∧ (∀ j9 : Nat, j9 < 4 → σ2 (46 + 8 * j9 + 2) = q_an G 5 (bmB j9)) ∧ (∀ j9 : Nat, j9 < 4 → σ2 (46 + 8 * j9 + 3) = q_an G 1681 (skB j9)) ∧ (∀ j9 : Nat, j9 < 4 → σ2 (46 + 8 * j9 + 4) = q_an G 1681 (s2B j9)) ∧ (∀ j9 : Nat, j9 < 4 → σ2 (46 + 8 * j9 + 5) = q_an G 1681 (vaB j9)) ∧ (∀ j9 : Nat, j9 < 4 → σ2 (46 + 8 * j9 + 6) = q_an G 1681 (spB j9)) ∧ (∀ j9 : Nat, j9 < 4 → σ2 (46 + 8 * j9 + 7) = q_an G 1681 (rfB j9)) ∧ (∀ i : Nat, i < 46 ∨ 77 < i → σ2 i = σ i)) v9 σ') q_noX := ⟨_, rfl⟩
  refine (?_ : AJ G K (q_Q G K ex n 0 0 _ _) 0 0 ex n 0 _ _ σ)
  rw [← hQ]
  have hg1 := hgw.2.1
  have hg0 := hgw.1
  refine A_iconst (v := (nI (0))) hg dX4_fit_0 (by decide) ?_
  refine A_istore_n hg dX4_fit_1 rfl (by decide) (q_c1d rfl) ?_
  refine A_eq (ls2 := [some (.ref (q_h G + 43)), some (.ref (q_h G + 25)), some (.int (nI (0))), none]) (st2 := []) (pc2 := 0) rfl rfl ?_
  have hL2 : ∀ (fu : Nat) (b : Nat) (flC : Nat → Nat) (n0C : Nat → Nat) (gvC : Nat → Nat) (gsC : Nat → Nat) (lmC : Nat → Nat) (vsC : Nat → Nat) (nmC : Nat → Nat) (onC : Nat → Nat) (slC : Nat → Nat) (moC : Nat → Nat) (nbC : Nat → Nat) (bmC : Nat → Nat → Nat) (skC : Nat → Nat → Nat) (s2C : Nat → Nat → Nat) (vaC : Nat → Nat → Nat) (spC : Nat → Nat → Nat) (rfC : Nat → Nat → Nat) (σ_1 : Nat → va_E), (σ_1 43 = o4 G (43) ) → (σ_1 44 = q_rn G 4 4 (fun j => some (46 + 8 * j))) → (σ_1 25 = o0 G (25) (nI (g 0)) (nI (g 3)) (nI (g 4)) (nI (g 5)) (nI (g 6))) → (σ_1 26 = q_rn G 3 4 (fun j => some (25 + 10 + 2 * j))) → (σ_1 27 = o6 G (27) (nI (g 1)) (nI (g 2))) → (σ_1 28 = q_an G 8 kd) → (σ_1 29 = q_an G 8 fi) → (σ_1 30 = q_an G 8 se) → (∀ j9 : Nat, j9 < g 0 → σ_1 (25 + 10 + 2 * j9) = o7 G (25 + 10 + 2 * j9) (lN (nm j9)) (lN (on j9)) (nI (s_rule g j9 18)) (nI (s_rule g j9 19)) (nI (s_rule g j9 20))) → (∀ j9 : Nat, j9 < g 0 → σ_1 (25 + 10 + 2 * j9 + 1) = q_an G 5 (bm j9)) → (∀ j9 : Nat, j9 < 4 → σ_1 (46 + 8 * j9) = o8 G (46 + 8 * j9) (nI (flC j9)) (nI (n0C j9)) (nI (gvC j9)) (nI (gsC j9)) (nI (lmC j9)) (nI (vsC j9))) → (∀ j9 : Nat, j9 < 4 → σ_1 (46 + 8 * j9 + 1) = o7 G (46 + 8 * j9 + 1) (lN (nmC j9)) (lN (onC j9)) (nI (slC j9)) (nI (moC j9)) (nI (nbC j9))) → (∀ j9 : Nat, j9 < 4 → σ_1 (46 + 8 * j9 + 2) = q_an G 5 (bmC j9)) → (∀ j9 : Nat, j9 < 4 → σ_1 (46 + 8 * j9 + 3) = q_an G 1681 (skC j9)) → (∀ j9 : Nat, j9 < 4 → σ_1 (46 + 8 * j9 + 4) = q_an G 1681 (s2C j9)) → (∀ j9 : Nat, j9 < 4 → σ_1 (46 + 8 * j9 + 5) = q_an G 1681 (vaC j9)) → (∀ j9 : Nat, j9 < 4 → σ_1 (46 + 8 * j9 + 6) = q_an G 1681 (spC j9)) → (∀ j9 : Nat, j9 < 4 → σ_1 (46 + 8 * j9 + 7) = q_an G 1681 (rfC j9)) → (∀ i : Nat, i < 46 ∨ 77 < i → σ_1 i = σ i) → (b ≤ g 1) → (x_TI flC onC slC moC nbC n0C gvC gsC lmC vsC bmC skC s2C vaC spC) → (x_TF g b onC slC moC nbC n0C gvC gsC lmC vsC bmC skC s2C vaC spC) → (g 1 - b) < fu → AJ G K Q 0 0 ex n 2 [some (.ref (q_h G + 43)), some (.ref (q_h G + 25)), some (.int (nI (b))), none] [] σ_1 := by
    intro fu
    induction fu with
    | zero => intro b flC n0C gvC gsC lmC vsC nmC onC slC moC nbC bmC skC s2C vaC spC rfC σ_1 hc_2 hc_3 hc_4 hc_5 hc_6 hc_7 hc_8 hc_9 hc_10 hc_11 hc_12 hc_13 hc_14 hc_15 hc_16 hc_17 hc_18 hc_19 hf_20 hb hTI hTF hm; exact absurd hm (Nat.not_lt_zero _)
    | succ fu ih2 =>
      intro b flC n0C gvC gsC lmC vsC nmC onC slC moC nbC bmC skC s2C vaC spC rfC σ_1 hc_2 hc_3 hc_4 hc_5 hc_6 hc_7 hc_8 hc_9 hc_10 hc_11 hc_12 hc_13 hc_14 hc_15 hc_16 hc_17 hc_18 hc_19 hf_20 hb hTI hTF hm2
      refine A_iload_n hg dX4_fit_2 rfl rfl ?_
      refine A_aload_n hg dX4_fit_3 rfl rfl ?_
      refine A_getf (v := .ref (q_h G + 27)) hg fl_RX4_25 dX4_fit_4 hc_4 (by omega) rfl ?_
      refine A_getf (v := .int (nI (g 1))) hg fl_RX4_31 dX4_fit_7 hc_6 (by omega) rfl ?_
      refine A_icmp_geN (tgt := 41) hg dX4_fit_10 (by omega) (by omega) (by decide) (fun c10 => ?_) (fun c10 => ?_)
      · skip
        rw [hQ]
        exact A_return hg (by decide) (by decide) rfl dX4_fit_41 ⟨rfl, ⟨rfl, flC, n0C, gvC, gsC, lmC, vsC, nmC, onC, slC, moC, nbC, bmC, skC, s2C, vaC, spC, rfC, hTI, (by rw [show g 1 = b by omega]; exact hTF), hc_12, hc_13, hc_14, hc_15, hc_16, hc_17, hc_18, hc_19, (fun i hi => (hf_20 i (by omega)))⟩⟩
      · skip
        obtain ⟨k1, hke⟩ : ∃ k1 : Nat, k1 = g (133 + 5 * b + 0) := ⟨_, rfl⟩
        have hkr : k1 < g 0 := by rw [hke]; exact (hgw.2.2.2.2.2.2.1 b (by omega)).1
        refine A_aload_n hg dX4_fit_13 rfl rfl ?_
        refine A_getf (v := .ref (q_h G + 27)) hg fl_RX4_25 dX4_fit_14 hc_4 (by omega) rfl ?_
        refine A_iload_n hg dX4_fit_17 rfl rfl ?_
        refine A_eV (kc2 := 0) (ks2 := 0) (As := [.int (nI (b))]) (rest := []) hg lk_RX4_37 in_X6_kindOf se_X6_kindOf rfl dX4_fit_18 ⟨by decide, by decide⟩ rfl rfl ⟨by decide, by decide⟩ hc_6 (by omega) rfl rfl (Nat.le_of_ble_eq_true rfl) (c_X6_kindOf G ex n σ_1 27 (g 1) (g 2) kd b hc_6 hc_7 (by omega) (by omega) (by omega)) ?_
        refine A_top (w := .int (nI (k1))) (by rw [x_pl_b (show b < g 1 by omega), (hxp.1 b (by omega)).1, hke]) ?_
        refine A_istore_n hg dX4_fit_21 rfl (by decide) (q_c1d rfl) ?_
        refine A_eq (ls2 := [some (.ref (q_h G + 43)), some (.ref (q_h G + 25)), some (.int (nI (b))), some (.int (nI (k1)))]) (st2 := []) (pc2 := 0) rfl rfl ?_
        refine A_aload_n hg dX4_fit_22 rfl rfl ?_
        refine A_iload_n hg dX4_fit_23 rfl rfl ?_
        refine A_eV (kc2 := 0) (ks2 := 0) (As := [.int (nI (k1))]) (rest := []) hg lk_RX4_41 in_X4_tableAt se_X4_tableAt rfl dX4_fit_24 ⟨by decide, by decide⟩ rfl rfl ⟨by decide, by decide⟩ hc_2 (by omega) rfl rfl (Nat.le_of_ble_eq_true rfl) (c_X4_tableAt G ex n σ_1 k1 hc_2 hc_3 (by omega) (by omega)) ?_
        refine A_aload_n hg dX4_fit_27 rfl rfl ?_
        refine A_iload_n hg dX4_fit_28 rfl rfl ?_
        refine A_eV (kc2 := 0) (ks2 := 0) (As := [.int (nI (k1))]) (rest := [.ref (q_h G + (46 + 8 * k1))]) hg lk_RX4_45 in_X0_ruleAt se_X0_ruleAt rfl dX4_fit_29 ⟨by decide, by decide⟩ rfl rfl ⟨by decide, by decide⟩ hc_4 (by omega) rfl rfl (Nat.le_of_ble_eq_true rfl) (c_X0_ruleAt G ex n σ_1 25 (g 0) (g 3) (g 4) (g 5) (g 6) k1 hc_4 hc_5 (by omega) (by omega)) ?_
        refine A_vV (kc2 := 0) (ks2 := 0) (As := [.ref (q_h G + (25 + 10 + 2 * k1))]) (rest := []) hg lk_RX4_49 in_X8_fit se_X8_fit rfl dX4_fit_32 ⟨by decide, by decide⟩ rfl rfl ⟨by decide, by decide⟩ (hc_12 k1 (by omega)) (by omega) rfl rfl (Nat.le_of_ble_eq_true rfl) (c_X8_fit G ex n σ_1 (46 + 8 * k1) (flC k1) (n0C k1) (gvC k1) (gsC k1) (lmC k1) (vsC k1) (25 + 10 + 2 * k1) (s_rule g k1) (nm k1) (on k1) (bm k1) (nmC k1) (onC k1) (slC k1) (moC k1) (nbC k1) (bmC k1) (skC k1) (s2C k1) (vaC k1) (spC k1) (rfC k1) (hc_12 k1 (by omega)) (hc_15 k1 (by omega)) (hc_16 k1 (by omega)) (hc_17 k1 (by omega)) (hc_18 k1 (by omega)) (hc_19 k1 (by omega)) (hc_13 k1 (by omega)) (hc_14 k1 (by omega)) (hc_10 k1 (by omega)) (hc_11 k1 (by omega)) (by omega) (by omega) (by omega) (x_w_of (hgw.2.2.2.2.2.1 k1 hkr)) ((hrs k1 hkr).1) ((hrs k1 hkr).2) ((hTI k1 (by omega)).1) ((hTI k1 (by omega)).2.1) ((hTI k1 (by omega)).2.2)) ?_
        rintro σ_30 ⟨nm3, on3, sl3, mo3, nb3, bm3, n3, kf3, lf3, va3, sp3, rf3, gv3, gs3, lm3, vs3, htf3, hsb9, hc_21, hc_22, hc_23, hc_24, hc_25, hc_26, hc_27, hc_28, hf_29⟩
        have hc_31 : σ_30 43 = o4 G (43)  := (hf_29 _ (by omega)).trans hc_2
        have hc_32 : σ_30 44 = q_rn G 4 4 (fun j => some (46 + 8 * j)) := (hf_29 _ (by omega)).trans hc_3
        have hc_33 : σ_30 25 = o0 G (25) (nI (g 0)) (nI (g 3)) (nI (g 4)) (nI (g 5)) (nI (g 6)) := (hf_29 _ (by omega)).trans hc_4
        have hc_34 : σ_30 26 = q_rn G 3 4 (fun j => some (25 + 10 + 2 * j)) := (hf_29 _ (by omega)).trans hc_5
        have hc_35 : σ_30 27 = o6 G (27) (nI (g 1)) (nI (g 2)) := (hf_29 _ (by omega)).trans hc_6
        have hc_36 : σ_30 28 = q_an G 8 kd := (hf_29 _ (by omega)).trans hc_7
        have hc_37 : σ_30 29 = q_an G 8 fi := (hf_29 _ (by omega)).trans hc_8
        have hc_38 : σ_30 30 = q_an G 8 se := (hf_29 _ (by omega)).trans hc_9
        have hc_39 : ∀ j9 : Nat, j9 < g 0 → σ_30 (25 + 10 + 2 * j9) = o7 G (25 + 10 + 2 * j9) (lN (nm j9)) (lN (on j9)) (nI (s_rule g j9 18)) (nI (s_rule g j9 19)) (nI (s_rule g j9 20)) := fun j9 hj0 => (hf_29 _ (by omega)).trans (hc_10 j9 (by omega))
        have hc_40 : ∀ j9 : Nat, j9 < g 0 → σ_30 (25 + 10 + 2 * j9 + 1) = q_an G 5 (bm j9) := fun j9 hj0 => (hf_29 _ (by omega)).trans (hc_11 j9 (by omega))
        have hc_41 : ∀ j9 : Nat, j9 < 4 → j9 ≠ k1 → σ_30 (46 + 8 * j9) = o8 G (46 + 8 * j9) (nI (flC j9)) (nI (n0C j9)) (nI (gvC j9)) (nI (gsC j9)) (nI (lmC j9)) (nI (vsC j9)) := fun j9 hj0 hj1 => (hf_29 _ (by omega)).trans (hc_12 j9 (by omega))
        have hc_42 : ∀ j9 : Nat, j9 < 4 → j9 ≠ k1 → σ_30 (46 + 8 * j9 + 1) = o7 G (46 + 8 * j9 + 1) (lN (nmC j9)) (lN (onC j9)) (nI (slC j9)) (nI (moC j9)) (nI (nbC j9)) := fun j9 hj0 hj1 => (hf_29 _ (by omega)).trans (hc_13 j9 (by omega))
        have hc_43 : ∀ j9 : Nat, j9 < 4 → j9 ≠ k1 → σ_30 (46 + 8 * j9 + 2) = q_an G 5 (bmC j9) := fun j9 hj0 hj1 => (hf_29 _ (by omega)).trans (hc_14 j9 (by omega))
        have hc_44 : ∀ j9 : Nat, j9 < 4 → j9 ≠ k1 → σ_30 (46 + 8 * j9 + 3) = q_an G 1681 (skC j9) := fun j9 hj0 hj1 => (hf_29 _ (by omega)).trans (hc_15 j9 (by omega))
        have hc_45 : ∀ j9 : Nat, j9 < 4 → j9 ≠ k1 → σ_30 (46 + 8 * j9 + 4) = q_an G 1681 (s2C j9) := fun j9 hj0 hj1 => (hf_29 _ (by omega)).trans (hc_16 j9 (by omega))
        have hc_46 : ∀ j9 : Nat, j9 < 4 → j9 ≠ k1 → σ_30 (46 + 8 * j9 + 5) = q_an G 1681 (vaC j9) := fun j9 hj0 hj1 => (hf_29 _ (by omega)).trans (hc_17 j9 (by omega))
        have hc_47 : ∀ j9 : Nat, j9 < 4 → j9 ≠ k1 → σ_30 (46 + 8 * j9 + 6) = q_an G 1681 (spC j9) := fun j9 hj0 hj1 => (hf_29 _ (by omega)).trans (hc_18 j9 (by omega))
        have hc_48 : ∀ j9 : Nat, j9 < 4 → j9 ≠ k1 → σ_30 (46 + 8 * j9 + 7) = q_an G 1681 (rfC j9) := fun j9 hj0 hj1 => (hf_29 _ (by omega)).trans (hc_19 j9 (by omega))
        have hc_49 : ∀ j9 : Nat, j9 < 4 → σ_30 (46 + 8 * j9) = o8 G (46 + 8 * j9) (nI ((x_pt flC k1 1) j9)) (nI ((x_pt n0C k1 n3) j9)) (nI ((x_pt gvC k1 gv3) j9)) (nI ((x_pt gsC k1 gs3) j9)) (nI ((x_pt lmC k1 lm3) j9)) (nI ((x_pt vsC k1 vs3) j9)) := by
          intro j9 hj0
          by_cases ej : j9 = k1
          · rw [ej]; exact hc_21.trans (by simp only [x_pt_at])
          · exact (hc_41 j9 (by omega) ej).trans (by simp only [x_pt_ne ej])
        have hc_50 : ∀ j9 : Nat, j9 < 4 → σ_30 (46 + 8 * j9 + 1) = o7 G (46 + 8 * j9 + 1) (lN ((x_pt nmC k1 nm3) j9)) (lN ((x_pt onC k1 on3) j9)) (nI ((x_pt slC k1 sl3) j9)) (nI ((x_pt moC k1 mo3) j9)) (nI ((x_pt nbC k1 nb3) j9)) := by
          intro j9 hj0
          by_cases ej : j9 = k1
          · rw [ej]; exact hc_27.trans (by simp only [x_pt_at])
          · exact (hc_42 j9 (by omega) ej).trans (by simp only [x_pt_ne ej])
        have hc_51 : ∀ j9 : Nat, j9 < 4 → σ_30 (46 + 8 * j9 + 2) = q_an G 5 ((x_pt bmC k1 bm3) j9) := by
          intro j9 hj0
          by_cases ej : j9 = k1
          · rw [ej]; exact hc_28.trans (by simp only [x_pt_at])
          · exact (hc_43 j9 (by omega) ej).trans (by simp only [x_pt_ne ej])
        have hc_52 : ∀ j9 : Nat, j9 < 4 → σ_30 (46 + 8 * j9 + 3) = q_an G 1681 ((x_pt skC k1 kf3) j9) := by
          intro j9 hj0
          by_cases ej : j9 = k1
          · rw [ej]; exact hc_22.trans (by simp only [x_pt_at])
          · exact (hc_44 j9 (by omega) ej).trans (by simp only [x_pt_ne ej])
        have hc_53 : ∀ j9 : Nat, j9 < 4 → σ_30 (46 + 8 * j9 + 4) = q_an G 1681 ((x_pt s2C k1 lf3) j9) := by
          intro j9 hj0
          by_cases ej : j9 = k1
          · rw [ej]; exact hc_23.trans (by simp only [x_pt_at])
          · exact (hc_45 j9 (by omega) ej).trans (by simp only [x_pt_ne ej])
        have hc_54 : ∀ j9 : Nat, j9 < 4 → σ_30 (46 + 8 * j9 + 5) = q_an G 1681 ((x_pt vaC k1 va3) j9) := by
          intro j9 hj0
          by_cases ej : j9 = k1
          · rw [ej]; exact hc_24.trans (by simp only [x_pt_at])
          · exact (hc_46 j9 (by omega) ej).trans (by simp only [x_pt_ne ej])
        have hc_55 : ∀ j9 : Nat, j9 < 4 → σ_30 (46 + 8 * j9 + 6) = q_an G 1681 ((x_pt spC k1 sp3) j9) := by
          intro j9 hj0
          by_cases ej : j9 = k1
          · rw [ej]; exact hc_25.trans (by simp only [x_pt_at])
          · exact (hc_47 j9 (by omega) ej).trans (by simp only [x_pt_ne ej])
        have hc_56 : ∀ j9 : Nat, j9 < 4 → σ_30 (46 + 8 * j9 + 7) = q_an G 1681 ((x_pt rfC k1 rf3) j9) := by
          intro j9 hj0
          by_cases ej : j9 = k1
          · rw [ej]; exact hc_26.trans (by simp only [x_pt_at])
          · exact (hc_48 j9 (by omega) ej).trans (by simp only [x_pt_ne ej])
        refine A_iincN (k' := 1) hg dX4_fit_35 (by decide) rfl (by decide) (q_c1d rfl) ?_
        refine A_eq (ls2 := [some (.ref (q_h G + 43)), some (.ref (q_h G + 25)), some (.int (nI (b + 1))), some (.int (nI (k1)))]) (st2 := []) (pc2 := 0) rfl rfl ?_
        refine A_goto (tgt := 2) hg dX4_fit_38 (by decide) ?_
        refine A_drop 3 ?_
        exact ih2 (b + 1) (x_pt flC k1 1) (x_pt n0C k1 n3) (x_pt gvC k1 gv3) (x_pt gsC k1 gs3) (x_pt lmC k1 lm3) (x_pt vsC k1 vs3) (x_pt nmC k1 nm3) (x_pt onC k1 on3) (x_pt slC k1 sl3) (x_pt moC k1 mo3) (x_pt nbC k1 nb3) (x_pt bmC k1 bm3) (x_pt skC k1 kf3) (x_pt s2C k1 lf3) (x_pt vaC k1 va3) (x_pt spC k1 sp3) (x_pt rfC k1 rf3) σ_30 hc_31 hc_32 hc_33 hc_34 hc_35 hc_36 hc_37 hc_38 hc_39 hc_40 hc_49 hc_50 hc_51 hc_52 hc_53 hc_54 hc_55 hc_56 (fun i hi => ((hf_29 i (by omega)).trans (hf_20 i (by omega)))) (by omega) (x_TI_set hTI (x_w_of (hgw.2.2.2.2.2.1 k1 hkr)) htf3 hsb9) (x_TF_s (x_TF_set hTF htf3) (by rw [← hke]; simp only [x_pt_at]; exact htf3)) (by omega)
  exact hL2 _ 0 flA n0A gvA gsA lmA vsA nmA onA slA moA nbA bmA skA s2A vaA spA rfA σ hc0 hc1 hc2 hc3 hc4 hc5 hc6 hc7 hc8 hc9 hc10 hc11 hc12 hc13 hc14 hc15 hc16 hc17 (fun _ _ => rfl) (Nat.zero_le _) hTI x_TF_0 (Nat.lt_succ_self _)
end
