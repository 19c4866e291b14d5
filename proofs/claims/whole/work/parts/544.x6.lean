section
set_option maxRecDepth 100000 in
set_option maxHeartbeats 4000000 in
theorem c_X0_addRule (G : GL) (ex : Bool) (n : Nat) (σ : Nat → va_E) (gb : Nat) (rm : Nat) (pl : Nat) (tn : Nat) (gm : Nat) (tk : Nat) (nm : Nat → Nat) (on : Nat → Nat) (sl : Nat → Nat) (mo : Nat → Nat) (nb : Nat → Nat) (bm : Nat → Nat → Nat) (x : Nat) (hc0 : σ gb = o0 G (gb) (nI (rm)) (nI (pl)) (nI (tn)) (nI (gm)) (nI (tk))) (hc1 : σ (gb + 1) = q_rn G 3 4 (fun j => some (gb + 10 + 2 * j))) (hc2 : ∀ j9 : Nat, j9 < 4 → σ (gb + 10 + 2 * j9) = o7 G (gb + 10 + 2 * j9) (lN (nm j9)) (lN (on j9)) (nI (sl j9)) (nI (mo j9)) (nI (nb j9))) (hc3 : ∀ j9 : Nat, j9 < 4 → σ (gb + 10 + 2 * j9 + 1) = q_an G 5 (bm j9)) (hgb : gb + 17 < n) (hrm : rm < 4) : Ct G yX0_addRule cX0_addRule 4 (some (.object "GoldenHeaps$Rule")) ⟨1, 0, 0, 22⟩ [.ref (q_h G + gb), .long (lN (x))] ex n σ (fun v9 σ2 => v9 = some (.ref (q_h G + (gb + 10 + 2 * rm))) ∧ σ2 gb = o0 G (gb) (nI (rm + 1)) (nI (pl)) (nI (tn)) (nI (gm)) (nI (tk)) ∧ (∀ j9 : Nat, j9 < 4 → σ2 (gb + 10 + 2 * j9) = o7 G (gb + 10 + 2 * j9) (lN (va_up nm rm x j9)) (lN (va_up on rm 0 j9)) (nI (va_up sl rm 1 j9)) (nI (va_up mo rm 40 j9)) (nI (va_up nb rm 0 j9))) ∧ (∀ j9 : Nat, j9 < 4 → σ2 (gb + 10 + 2 * j9 + 1) = q_an G 5 (bm j9)) ∧ (∀ i : Nat, i ≠ gb ∧ (i < gb + 10 ∨ gb + 17 < i) → σ2 i = σ i)) := by
  refine q_enter [some (.ref (q_h G + gb)), some (.long (lN (x))), none, none] (by decide) (Nat.le_of_ble_eq_true rfl) rfl ?_
  intro K hg
  obtain ⟨Q, hQ⟩ : ∃ Q, Q = q_Q G K ex n 0 0 (fun v9 n' σ' => n' = n ∧ (fun v9 σ2 => v9 = some (.ref (q_h G + (gb + 10 + 2 * rm))) ∧ σ2 gb = o0 G (gb) (nI (rm + 1)) (nI (pl)) (nI (tn)) (nI (gm)) (nI (tk)) ∧ (∀ j9 : Nat, j9 < 4 → σ2 (gb + 10 + 2 * j9) = o7 G (gb + 10 + 2 * j9) (lN (va_up nm rm x j9)) (lN (va_up on rm 0 j9)) (nI (va_up sl rm 1 j9)) (nI (va_up mo rm 40 j9)) (nI (va_up nb rm 0 j9))) ∧ (∀ j9 : Nat, j9 < 4 → σ2 (gb + 10 + 2 * j9 + 1) = q_an G 5 (bm j9)) ∧ (∀ i : Nat, i ≠ gb ∧ (i < gb + 10 ∨ gb + 17 < i) → σ2 i = σ i)) v9 σ') q_noX := ⟨_, rfl⟩
  refine (?_ : AJ G K (q_Q G K ex n 0 0 _ _) 0 0 ex n 0 _ _ σ)
  rw [← hQ]
  refine A_aload_n hg dX0_addRule_0 rfl rfl ?_
  refine A_aload_n hg dX0_addRule_1 rfl rfl ?_
  refine A_getf (v := .int (nI (rm))) hg fl_RX0_17 dX0_addRule_2 hc0 (by omega) rfl ?_
  refine A_eV (kc2 := 0) (ks2 := 0) (As := [.int (nI (rm))]) (rest := []) hg lk_RX0_101 in_X0_ruleAt se_X0_ruleAt rfl dX0_addRule_5 ⟨by decide, by decide⟩ rfl rfl ⟨by decide, by decide⟩ hc0 (by omega) rfl rfl (Nat.le_of_ble_eq_true rfl) (c_X0_ruleAt G ex n σ gb rm pl tn gm tk rm hc0 hc1 (by omega) (by omega)) ?_
  refine A_astore_n hg dX0_addRule_8 rfl (by decide) (q_c1d rfl) ?_
  refine A_eq (ls2 := [some (.ref (q_h G + gb)), some (.long (lN (x))), none, some (.ref (q_h G + (gb + 10 + 2 * rm)))]) (st2 := []) (pc2 := 0) rfl rfl ?_
  refine A_aload_n hg dX0_addRule_9 rfl rfl ?_
  refine A_lload_n hg dX0_addRule_10 rfl rfl ?_
  refine A_vV (kc2 := 0) (ks2 := 0) (As := [.long (lN (x))]) (rest := []) hg lk_RX0_109 in_X7_begin se_X7_begin rfl dX0_addRule_11 ⟨by decide, by decide⟩ rfl rfl ⟨by decide, by decide⟩ (hc2 rm (by omega)) (by omega) rfl rfl (Nat.le_of_ble_eq_true rfl) (c_X7_begin G ex n σ (gb + 10 + 2 * rm) (nm rm) (on rm) (sl rm) (mo rm) (nb rm) x (hc2 rm (by omega)) (by omega)) ?_
  rintro σ_3 ⟨hc_1, hf_2⟩
  have hc_4 : σ_3 gb = o0 G (gb) (nI (rm)) (nI (pl)) (nI (tn)) (nI (gm)) (nI (tk)) := (hf_2 _ (by omega)).trans hc0
  have hc_5 : σ_3 (gb + 1) = q_rn G 3 4 (fun j => some (gb + 10 + 2 * j)) := (hf_2 _ (by omega)).trans hc1
  have hc_6 : ∀ j9 : Nat, j9 < 4 → j9 ≠ rm → σ_3 (gb + 10 + 2 * j9) = o7 G (gb + 10 + 2 * j9) (lN (nm j9)) (lN (on j9)) (nI (sl j9)) (nI (mo j9)) (nI (nb j9)) := fun j9 hj0 hj1 => (hf_2 _ (by omega)).trans (hc2 j9 (by omega))
  have hc_7 : ∀ j9 : Nat, j9 < 4 → σ_3 (gb + 10 + 2 * j9 + 1) = q_an G 5 (bm j9) := fun j9 hj0 => (hf_2 _ (by omega)).trans (hc3 j9 (by omega))
  have hc_8 : ∀ j9 : Nat, j9 < 4 → σ_3 (gb + 10 + 2 * j9) = o7 G (gb + 10 + 2 * j9) (lN (va_up nm rm x j9)) (lN (va_up on rm 0 j9)) (nI (va_up sl rm 1 j9)) (nI (va_up mo rm 40 j9)) (nI (va_up nb rm 0 j9)) := by
    intro j9 hj0
    by_cases ej : j9 = rm
    · rw [ej]; exact hc_1.trans (by simp only [va_up_at])
    · exact (hc_6 j9 (by omega) ej).trans (by simp only [va_up_off ej])
  refine A_aload_n hg dX0_addRule_14 rfl rfl ?_
  refine A_aload_n hg dX0_addRule_15 rfl rfl ?_
  refine A_getf (v := .int (nI (rm))) hg fl_RX0_17 dX0_addRule_16 hc_4 (by omega) rfl ?_
  refine A_iconst (v := (nI (1))) hg dX0_addRule_19 (by decide) ?_
  refine A_iaddN hg dX0_addRule_20 ?_
  refine A_iconst (v := (nI (4))) hg dX0_addRule_21 (by decide) ?_
  refine A_min hg ml_RX0_113 dX0_addRule_22 ⟨by decide, by decide, by decide, by decide⟩ (Nat.le_of_ble_eq_true rfl) ?_
  refine A_top (w := .int (nI (min (rm + 1) 4))) (q_min (a := rm + 1) (b := 4) (by omega) (by decide)) ?_
  refine A_putf hg fl_RX0_17 dX0_addRule_25 hc_4 (by omega) (Nat.le_of_ble_eq_true rfl) rfl rfl rfl (fun σ_9 hc_10 hf_11 => ?_)
  have hc_10 : σ_9 gb = o0 G (gb) (nI (min (rm + 1) 4)) (nI (pl)) (nI (tn)) (nI (gm)) (nI (tk)) := hc_10
  have hc_12 : σ_9 (gb + 1) = q_rn G 3 4 (fun j => some (gb + 10 + 2 * j)) := (hf_11 _ (by omega)).trans hc_5
  have hc_13 : ∀ j9 : Nat, j9 < 4 → σ_9 (gb + 10 + 2 * j9 + 1) = q_an G 5 (bm j9) := fun j9 hj0 => (hf_11 _ (by omega)).trans (hc_7 j9 (by omega))
  have hc_14 : ∀ j9 : Nat, j9 < 4 → σ_9 (gb + 10 + 2 * j9) = o7 G (gb + 10 + 2 * j9) (lN (va_up nm rm x j9)) (lN (va_up on rm 0 j9)) (nI (va_up sl rm 1 j9)) (nI (va_up mo rm 40 j9)) (nI (va_up nb rm 0 j9)) := fun j9 hj0 => (hf_11 _ (by omega)).trans (hc_8 j9 (by omega))
  refine A_aload_n hg dX0_addRule_28 rfl rfl ?_
  have hc_15 : σ_9 gb = o0 G (gb) (nI (rm + 1)) (nI (pl)) (nI (tn)) (nI (gm)) (nI (tk)) := hc_10.trans (by rw [show min (rm + 1) 4 = rm + 1 by omega])
  rw [hQ]
  exact A_areturn hg (by decide) (by decide) rfl dX0_addRule_29 ⟨rfl, ⟨rfl, hc_15, hc_14, hc_13, (fun i hi => ((hf_11 i (by omega)).trans (hf_2 i (by omega))))⟩⟩
set_option maxRecDepth 100000 in
set_option maxHeartbeats 4000000 in
theorem c_X0_clear (G : GL) (ex : Bool) (n : Nat) (σ : Nat → va_E) (gb : Nat) (rm : Nat) (pl : Nat) (tn : Nat) (gm : Nat) (tk : Nat) (b : Nat) (sk : Nat) (ac : Nat → Nat) (hc0 : σ gb = o0 G (gb) (nI (rm)) (nI (pl)) (nI (tn)) (nI (gm)) (nI (tk))) (hc1 : σ (gb + 1) = q_rn G 3 4 (fun j => some (gb + 10 + 2 * j))) (hc2 : σ (gb + 2) = o6 G (gb + 2) (nI (b)) (nI (sk))) (hc3 : σ (gb + 8) = q_an G 10 ac) (hgb : gb + 17 < n) : Ct G yX0_clear cX0_clear 1 none ⟨1, 0, 0, 23⟩ [.ref (q_h G + gb)] ex n σ (fun v9 σ2 => v9 = none ∧ σ2 gb = o0 G (gb) (nI (0)) (nI (0)) (nI (0)) (nI (1)) (nI (0)) ∧ σ2 (gb + 2) = o6 G (gb + 2) (nI (0)) (nI (0)) ∧ σ2 (gb + 8) = q_an G 10 (fun _ => 0) ∧ (∀ i : Nat, i ≠ gb ∧ i ≠ gb + 2 ∧ i ≠ gb + 8 → σ2 i = σ i)) := by
  refine q_enter [some (.ref (q_h G + gb))] (by decide) (Nat.le_of_ble_eq_true rfl) rfl ?_
  intro K hg
  obtain ⟨Q, hQ⟩ : ∃ Q, Q = q_Q G K ex n 0 0 (fun v9 n' σ' => n' = n ∧ (fun v9 σ2 => v9 = none ∧ σ2 gb = o0 G (gb) (nI (0)) (nI (0)) (nI (0)) (nI (1)) (nI (0)) ∧ σ2 (gb + 2) = o6 G (gb + 2) (nI (0)) (nI (0)) ∧ σ2 (gb + 8) = q_an G 10 (fun _ => 0) ∧ (∀ i : Nat, i ≠ gb ∧ i ≠ gb + 2 ∧ i ≠ gb + 8 → σ2 i = σ i)) v9 σ') q_noX := ⟨_, rfl⟩
  refine (?_ : AJ G K (q_Q G K ex n 0 0 _ _) 0 0 ex n 0 _ _ σ)
  rw [← hQ]
  refine A_aload_n hg dX0_clear_0 rfl rfl ?_
  refine A_iconst (v := (nI (0))) hg dX0_clear_1 (by decide) ?_
  refine A_putf hg fl_RX0_17 dX0_clear_2 hc0 (by omega) (Nat.le_of_ble_eq_true rfl) rfl rfl rfl (fun σ_1 hc_2 hf_3 => ?_)
  have hc_2 : σ_1 gb = o0 G (gb) (nI (0)) (nI (pl)) (nI (tn)) (nI (gm)) (nI (tk)) := hc_2
  have hc_4 : σ_1 (gb + 1) = q_rn G 3 4 (fun j => some (gb + 10 + 2 * j)) := (hf_3 _ (by omega)).trans hc1
  have hc_5 : σ_1 (gb + 2) = o6 G (gb + 2) (nI (b)) (nI (sk)) := (hf_3 _ (by omega)).trans hc2
  have hc_6 : σ_1 (gb + 8) = q_an G 10 ac := (hf_3 _ (by omega)).trans hc3
  refine A_aload_n hg dX0_clear_5 rfl rfl ?_
  refine A_getf (v := .ref (q_h G + (gb + 2))) hg fl_RX0_24 dX0_clear_6 hc_2 (by omega) rfl ?_
  refine A_vV (kc2 := 0) (ks2 := 0) (As := []) (rest := []) hg lk_RX0_48 in_X6_clear se_X6_clear rfl dX0_clear_9 ⟨by decide, by decide⟩ rfl rfl ⟨by decide, by decide⟩ hc_5 (by omega) rfl rfl (Nat.le_of_ble_eq_true rfl) (c_X6_clear G ex n σ_1 (gb + 2) b sk hc_5 (by omega)) ?_
  rintro σ_9 ⟨hc_7, hf_8⟩
  have hc_10 : σ_9 (gb + 1) = q_rn G 3 4 (fun j => some (gb + 10 + 2 * j)) := (hf_8 _ (by omega)).trans hc_4
  have hc_11 : σ_9 (gb + 8) = q_an G 10 ac := (hf_8 _ (by omega)).trans hc_6
  have hc_12 : σ_9 gb = o0 G (gb) (nI (0)) (nI (pl)) (nI (tn)) (nI (gm)) (nI (tk)) := (hf_8 _ (by omega)).trans hc_2
  refine A_aload_n hg dX0_clear_12 rfl rfl ?_
  refine A_iconst (v := (nI (0))) hg dX0_clear_13 (by decide) ?_
  refine A_putf hg fl_RX0_28 dX0_clear_14 hc_12 (by omega) (Nat.le_of_ble_eq_true rfl) rfl rfl rfl (fun σ_13 hc_14 hf_15 => ?_)
  have hc_14 : σ_13 gb = o0 G (gb) (nI (0)) (nI (0)) (nI (tn)) (nI (gm)) (nI (tk)) := hc_14
  have hc_16 : σ_13 (gb + 1) = q_rn G 3 4 (fun j => some (gb + 10 + 2 * j)) := (hf_15 _ (by omega)).trans hc_10
  have hc_17 : σ_13 (gb + 8) = q_an G 10 ac := (hf_15 _ (by omega)).trans hc_11
  have hc_18 : σ_13 (gb + 2) = o6 G (gb + 2) (nI (0)) (nI (0)) := (hf_15 _ (by omega)).trans hc_7
  refine A_aload_n hg dX0_clear_17 rfl rfl ?_
  refine A_iconst (v := (nI (0))) hg dX0_clear_18 (by decide) ?_
  refine A_putf hg fl_RX0_31 dX0_clear_19 hc_14 (by omega) (Nat.le_of_ble_eq_true rfl) rfl rfl rfl (fun σ_19 hc_20 hf_21 => ?_)
  have hc_20 : σ_19 gb = o0 G (gb) (nI (0)) (nI (0)) (nI (0)) (nI (gm)) (nI (tk)) := hc_20
  have hc_22 : σ_19 (gb + 1) = q_rn G 3 4 (fun j => some (gb + 10 + 2 * j)) := (hf_21 _ (by omega)).trans hc_16
  have hc_23 : σ_19 (gb + 8) = q_an G 10 ac := (hf_21 _ (by omega)).trans hc_17
  have hc_24 : σ_19 (gb + 2) = o6 G (gb + 2) (nI (0)) (nI (0)) := (hf_21 _ (by omega)).trans hc_18
  refine A_aload_n hg dX0_clear_22 rfl rfl ?_
  refine A_iconst (v := (nI (1))) hg dX0_clear_23 (by decide) ?_
  refine A_putf hg fl_RX0_34 dX0_clear_24 hc_20 (by omega) (Nat.le_of_ble_eq_true rfl) rfl rfl rfl (fun σ_25 hc_26 hf_27 => ?_)
  have hc_26 : σ_25 gb = o0 G (gb) (nI (0)) (nI (0)) (nI (0)) (nI (1)) (nI (tk)) := hc_26
  have hc_28 : σ_25 (gb + 1) = q_rn G 3 4 (fun j => some (gb + 10 + 2 * j)) := (hf_27 _ (by omega)).trans hc_22
  have hc_29 : σ_25 (gb + 8) = q_an G 10 ac := (hf_27 _ (by omega)).trans hc_23
  have hc_30 : σ_25 (gb + 2) = o6 G (gb + 2) (nI (0)) (nI (0)) := (hf_27 _ (by omega)).trans hc_24
  refine A_aload_n hg dX0_clear_27 rfl rfl ?_
  refine A_iconst (v := (nI (0))) hg dX0_clear_28 (by decide) ?_
  refine A_putf hg fl_RX0_44 dX0_clear_29 hc_26 (by omega) (Nat.le_of_ble_eq_true rfl) rfl rfl rfl (fun σ_31 hc_32 hf_33 => ?_)
  have hc_32 : σ_31 gb = o0 G (gb) (nI (0)) (nI (0)) (nI (0)) (nI (1)) (nI (0)) := hc_32
  have hc_34 : σ_31 (gb + 1) = q_rn G 3 4 (fun j => some (gb + 10 + 2 * j)) := (hf_33 _ (by omega)).trans hc_28
  have hc_35 : σ_31 (gb + 8) = q_an G 10 ac := (hf_33 _ (by omega)).trans hc_29
  have hc_36 : σ_31 (gb + 2) = o6 G (gb + 2) (nI (0)) (nI (0)) := (hf_33 _ (by omega)).trans hc_30
  refine A_aload_n hg dX0_clear_32 rfl rfl ?_
  refine A_getf (v := .ref (q_h G + (gb + 8))) hg fl_RX0_37 dX0_clear_33 hc_32 (by omega) rfl ?_
  refine A_iconst (v := (nI (0))) hg dX0_clear_36 (by decide) ?_
  refine A_vS (kc2 := 0) (ks2 := 0) (As := [.ref (q_h G + (gb + 8)), .int (nI (0))]) (rest := []) hg lk_RX0_51 st_J7_fill_53178 dX0_clear_37 ⟨by decide, by decide⟩ rfl rfl ⟨by decide, by decide⟩ rfl rfl (Nat.le_of_ble_eq_true rfl) (c_J7_fill_53178 G ex n σ_31 (gb + 8) 10 ac 0 hc_35 (by omega) (by omega)) ?_
  rintro σ_39 ⟨hc_37, hf_38⟩
  have hc_40 : σ_39 (gb + 1) = q_rn G 3 4 (fun j => some (gb + 10 + 2 * j)) := (hf_38 _ (by omega)).trans hc_34
  have hc_41 : σ_39 (gb + 2) = o6 G (gb + 2) (nI (0)) (nI (0)) := (hf_38 _ (by omega)).trans hc_36
  have hc_42 : σ_39 gb = o0 G (gb) (nI (0)) (nI (0)) (nI (0)) (nI (1)) (nI (0)) := (hf_38 _ (by omega)).trans hc_32
  rw [hQ]
  exact A_return hg (by decide) (by decide) rfl dX0_clear_40 ⟨rfl, ⟨rfl, hc_42, hc_41, hc_37, (fun i hi => ((hf_38 i (by omega)).trans ((hf_33 i (by omega)).trans ((hf_27 i (by omega)).trans ((hf_21 i (by omega)).trans ((hf_15 i (by omega)).trans ((hf_8 i (by omega)).trans (hf_3 i (by omega)))))))))⟩⟩
end
