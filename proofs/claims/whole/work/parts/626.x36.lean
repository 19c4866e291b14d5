section
set_option maxRecDepth 100000 in
set_option maxHeartbeats 4000000 in
theorem c_X2_clear (G : GL) (ex : Bool) (n : Nat) (σ : Nat → va_E) (nx : Nat) (m : Nat) (hc0 : σ 78 = o2 G (78) (nI (nx)) (nI (m))) (hn9 : 279 ≤ n) : Ct G yX2_clear cX2_clear 1 none ⟨0, 0, 0, 0⟩ [.ref (q_h G + 78)] ex n σ (fun v9 σ2 => v9 = none ∧ σ2 78 = o2 G (78) (nI (nx)) (nI (0)) ∧ (∀ i : Nat, i ≠ 78 → σ2 i = σ i)) := by
  refine q_enter [some (.ref (q_h G + 78))] (by decide) (Nat.le_of_ble_eq_true rfl) rfl ?_
  intro K hg
  obtain ⟨Q, hQ⟩ : ∃ Q, Q = q_Q G K ex n 0 0 (fun v9 n' σ' => n' = n ∧ (fun v9 σ2 => v9 = none ∧ σ2 78 = o2 G (78) (nI (nx)) (nI (0)) ∧ (∀ i : Nat, i ≠ 78 → σ2 i = σ i)) v9 σ') q_noX := ⟨_, rfl⟩
  refine (?_ : AJ G K (q_Q G K ex n 0 0 _ _) 0 0 ex n 0 _ _ σ)
  rw [← hQ]
  refine A_aload_n hg dX2_clear_0 rfl rfl ?_
  refine A_iconst (v := (nI (0))) hg dX2_clear_1 (by decide) ?_
  refine A_putf hg fl_RX2_21 dX2_clear_2 hc0 (by omega) (Nat.le_of_ble_eq_true rfl) rfl rfl rfl (fun σ_1 hc_2 hf_3 => ?_)
  have hc_2 : σ_1 78 = o2 G (78) (nI (nx)) (nI (0)) := hc_2
  rw [hQ]
  exact A_return hg (by decide) (by decide) rfl dX2_clear_5 ⟨rfl, ⟨rfl, hc_2, (fun i hi => (hf_3 i (by omega)))⟩⟩
set_option maxRecDepth 100000 in
set_option maxHeartbeats 4000000 in
theorem c_X2_push (G : GL) (ex : Bool) (n : Nat) (σ : Nat → va_E) (nx : Nat) (m : Nat) (g2 : Nat) (g : Nat → Nat) (hc0 : σ 78 = o2 G (78) (nI (nx)) (nI (m))) (hc1 : σ 79 = q_rn G 2 8 (fun j => some (80 + 18 * j))) (hn9 : 279 ≤ n) (hnx : nx < 8) (hm8 : m ≤ 8) (hg2 : g2 = 25) (hJ : x_gj G σ (80 + 18 * nx)) (hG2 : x_gm G σ g2 g) : Ct G yX2_push cX2_push 2 none ⟨3, 0, 0, 73⟩ [.ref (q_h G + 78), .ref (q_h G + g2)] ex n σ (fun v9 σ2 => v9 = none ∧ (x_gm G σ2 (80 + 18 * nx) g) ∧ σ2 78 = o2 G (78) (nI ((nx + 1) % 8)) (nI (min (m + 1) 8)) ∧ (∀ i : Nat, i ≠ 78 ∧ (i < 80 + 18 * nx ∨ 80 + 18 * nx + 17 < i) → σ2 i = σ i)) := by
  refine q_enter [some (.ref (q_h G + 78)), some (.ref (q_h G + g2))] (by decide) (Nat.le_of_ble_eq_true rfl) rfl ?_
  intro K hg
  obtain ⟨Q, hQ⟩ : ∃ Q, Q = q_Q G K ex n 0 0 (fun v9 n' σ' => n' = n ∧ (fun v9 σ2 => v9 = none ∧ (x_gm G σ2 (80 + 18 * nx) g) ∧ σ2 78 = o2 G (78) (nI ((nx + 1) % 8)) (nI (min (m + 1) 8)) ∧ (∀ i : Nat, i ≠ 78 ∧ (i < 80 + 18 * nx ∨ 80 + 18 * nx + 17 < i) → σ2 i = σ i)) v9 σ') q_noX := ⟨_, rfl⟩
  refine (?_ : AJ G K (q_Q G K ex n 0 0 _ _) 0 0 ex n 0 _ _ σ)
  rw [← hQ]
  obtain ⟨aJ, bJ, cJ, dJ, eJ, hjo_1⟩ := x_gj_o hJ
  refine A_aload_n hg dX2_push_0 rfl rfl ?_
  refine A_getf (v := .int (nI (nx))) hg fl_RX2_17 dX2_push_1 hc0 (by omega) rfl ?_
  refine A_if_ltN (tgt := 57) hg dX2_push_4 (by omega) (by decide) ?_
  refine A_aload_n hg dX2_push_7 rfl rfl ?_
  refine A_getf (v := .int (nI (nx))) hg fl_RX2_17 dX2_push_8 hc0 (by omega) rfl ?_
  refine A_bipush (v := (nI (8))) hg dX2_push_11 (by decide) ?_
  refine A_icmp_geN (tgt := 57) hg dX2_push_13 (by omega) (by decide) (by decide) (fun c13 => absurd c13 (by omega)) (fun c13 => ?_)
  refine A_aload_n hg dX2_push_16 rfl rfl ?_
  refine A_getf (v := .ref (q_h G + 79)) hg fl_RX2_11 dX2_push_17 hc0 (by omega) rfl ?_
  refine A_aload_n hg dX2_push_20 rfl rfl ?_
  refine A_getf (v := .int (nI (nx))) hg fl_RX2_17 dX2_push_21 hc0 (by omega) rfl ?_
  refine A_aald (i := (80 + 18 * nx)) hg dX2_push_24 hc1 (by decide) rfl (by omega) (by omega) (by decide) rfl ?_
  refine A_aload_n hg dX2_push_25 rfl rfl ?_
  refine A_vV (kc2 := 0) (ks2 := 0) (As := [.ref (q_h G + g2)]) (rest := []) hg lk_RX2_25 in_X0_copyFrom se_X0_copyFrom rfl dX2_push_26 ⟨by decide, by decide⟩ rfl rfl ⟨by decide, by decide⟩ hjo_1 (by omega) rfl rfl (Nat.le_of_ble_eq_true rfl) (c_X0_copyG G ex n σ (80 + 18 * nx) g2 g (by omega) (by omega) (by omega) hJ hG2) ?_
  rintro σ_4 ⟨hG9, hc_2, hf_3⟩
  have hc_5 : σ_4 78 = o2 G (78) (nI (nx)) (nI (m)) := (hf_3 _ (by omega)).trans hc0
  have hc_6 : σ_4 79 = q_rn G 2 8 (fun j => some (80 + 18 * j)) := (hf_3 _ (by omega)).trans hc1
  refine A_aload_n hg dX2_push_29 rfl rfl ?_
  refine A_aload_n hg dX2_push_30 rfl rfl ?_
  refine A_getf (v := .int (nI (nx))) hg fl_RX2_17 dX2_push_31 hc_5 (by omega) rfl ?_
  refine A_iconst (v := (nI (1))) hg dX2_push_34 (by decide) ?_
  refine A_iaddN hg dX2_push_35 ?_
  refine A_bipush (v := (nI (8))) hg dX2_push_36 (by decide) ?_
  refine A_iremN hg dX2_push_38 (by omega) (by decide) (by decide) ?_
  refine A_putf hg fl_RX2_17 dX2_push_39 hc_5 (by omega) (Nat.le_of_ble_eq_true rfl) rfl rfl rfl (fun σ_7 hc_8 hf_9 => ?_)
  have hc_8 : σ_7 78 = o2 G (78) (nI ((nx + 1) % 8)) (nI (m)) := hc_8
  have hc_10 : σ_7 79 = q_rn G 2 8 (fun j => some (80 + 18 * j)) := (hf_9 _ (by omega)).trans hc_6
  have hc_11 : σ_7 (80 + 18 * nx) = o0 G (80 + 18 * nx) (nI (g 0)) (nI (g 3)) (nI (g 4)) (nI (g 5)) (nI (g 6)) := (hf_9 _ (by omega)).trans hc_2
  refine A_aload_n hg dX2_push_42 rfl rfl ?_
  refine A_aload_n hg dX2_push_43 rfl rfl ?_
  refine A_getf (v := .int (nI (m))) hg fl_RX2_21 dX2_push_44 hc_8 (by omega) rfl ?_
  refine A_iconst (v := (nI (1))) hg dX2_push_47 (by decide) ?_
  refine A_iaddN hg dX2_push_48 ?_
  refine A_bipush (v := (nI (8))) hg dX2_push_49 (by decide) ?_
  refine A_min hg ml_RX2_29 dX2_push_51 ⟨by decide, by decide, by decide, by decide⟩ (Nat.le_of_ble_eq_true rfl) ?_
  refine A_top (w := .int (nI (min (m + 1) 8))) (q_min (a := m + 1) (b := 8) (by omega) (by decide)) ?_
  refine A_putf hg fl_RX2_21 dX2_push_54 hc_8 (by omega) (Nat.le_of_ble_eq_true rfl) rfl rfl rfl (fun σ_12 hc_13 hf_14 => ?_)
  have hc_13 : σ_12 78 = o2 G (78) (nI ((nx + 1) % 8)) (nI (min (m + 1) 8)) := hc_13
  have hc_15 : σ_12 79 = q_rn G 2 8 (fun j => some (80 + 18 * j)) := (hf_14 _ (by omega)).trans hc_10
  have hc_16 : σ_12 (80 + 18 * nx) = o0 G (80 + 18 * nx) (nI (g 0)) (nI (g 3)) (nI (g 4)) (nI (g 5)) (nI (g 6)) := (hf_14 _ (by omega)).trans hc_11
  rw [hQ]
  exact A_return hg (by decide) (by decide) rfl dX2_push_57 ⟨rfl, ⟨rfl, (x_gm_e (fun i _ _ => ((hf_14 i (by omega)).trans (hf_9 i (by omega)))) hG9), hc_13, (fun i hi => ((hf_14 i (by omega)).trans ((hf_9 i (by omega)).trans (hf_3 i (by omega)))))⟩⟩
set_option maxRecDepth 100000 in
set_option maxHeartbeats 4000000 in
theorem c_X2_pop (G : GL) (ex : Bool) (n : Nat) (σ : Nat → va_E) (nx : Nat) (m : Nat) (gb : Nat) (g : Nat → Nat) (hc0 : σ 78 = o2 G (78) (nI (nx)) (nI (m))) (hc1 : σ 79 = q_rn G 2 8 (fun j => some (80 + 18 * j))) (hn9 : 279 ≤ n) (hnx : nx < 8) (hm1 : 0 < m) (hm8 : m ≤ 8) (hgb : gb = 25) (hJ : x_gj G σ gb) (hG2 : x_gm G σ (80 + 18 * ((nx + 8 - 1) % 8)) g) : Ct G yX2_pop cX2_pop 3 none ⟨3, 0, 0, 73⟩ [.ref (q_h G + 78), .ref (q_h G + gb)] ex n σ (fun v9 σ2 => v9 = none ∧ (x_gm G σ2 gb g) ∧ σ2 78 = o2 G (78) (nI ((nx + 8 - 1) % 8)) (nI (m - 1)) ∧ (∀ i : Nat, i ≠ 78 ∧ (i < gb ∨ gb + 17 < i) → σ2 i = σ i)) := by
  refine q_enter [some (.ref (q_h G + 78)), some (.ref (q_h G + gb)), none] (by decide) (Nat.le_of_ble_eq_true rfl) rfl ?_
  intro K hg
  obtain ⟨Q, hQ⟩ : ∃ Q, Q = q_Q G K ex n 0 0 (fun v9 n' σ' => n' = n ∧ (fun v9 σ2 => v9 = none ∧ (x_gm G σ2 gb g) ∧ σ2 78 = o2 G (78) (nI ((nx + 8 - 1) % 8)) (nI (m - 1)) ∧ (∀ i : Nat, i ≠ 78 ∧ (i < gb ∨ gb + 17 < i) → σ2 i = σ i)) v9 σ') q_noX := ⟨_, rfl⟩
  refine (?_ : AJ G K (q_Q G K ex n 0 0 _ _) 0 0 ex n 0 _ _ σ)
  rw [← hQ]
  obtain ⟨aJ, bJ, cJ, dJ, eJ, hjo_1⟩ := x_gj_o hJ
  refine A_aload_n hg dX2_pop_0 rfl rfl ?_
  refine A_getf (v := .int (nI (nx))) hg fl_RX2_17 dX2_pop_1 hc0 (by omega) rfl ?_
  refine A_bipush (v := (nI (8))) hg dX2_pop_4 (by decide) ?_
  refine A_iaddN hg dX2_pop_6 ?_
  refine A_iconst (v := (nI (1))) hg dX2_pop_7 (by decide) ?_
  refine A_isubN hg dX2_pop_8 (by omega) ?_
  refine A_bipush (v := (nI (8))) hg dX2_pop_9 (by decide) ?_
  refine A_iremN hg dX2_pop_11 (by omega) (by decide) (by decide) ?_
  refine A_istore_n hg dX2_pop_12 rfl (by decide) (q_c1d rfl) ?_
  refine A_eq (ls2 := [some (.ref (q_h G + 78)), some (.ref (q_h G + gb)), some (.int (nI (((nx + 8) - 1) % 8)))]) (st2 := []) (pc2 := 0) rfl rfl ?_
  refine A_aload_n hg dX2_pop_13 rfl rfl ?_
  refine A_getf (v := .int (nI (m))) hg fl_RX2_21 dX2_pop_14 hc0 (by omega) rfl ?_
  refine A_if_leN (tgt := 49) hg dX2_pop_17 (by omega) (by decide) (fun c17 => absurd c17 (by omega)) (fun c17 => ?_)
  refine A_iload_n hg dX2_pop_20 rfl rfl ?_
  refine A_if_ltN (tgt := 49) hg dX2_pop_21 (by omega) (by decide) ?_
  refine A_aload_n hg dX2_pop_24 rfl rfl ?_
  refine A_aload_n hg dX2_pop_25 rfl rfl ?_
  refine A_getf (v := .ref (q_h G + 79)) hg fl_RX2_11 dX2_pop_26 hc0 (by omega) rfl ?_
  refine A_iload_n hg dX2_pop_29 rfl rfl ?_
  refine A_aald (i := (80 + 18 * (((nx + 8) - 1) % 8))) hg dX2_pop_30 hc1 (by decide) rfl (by omega) (by omega) (by decide) rfl ?_
  refine A_vV (kc2 := 0) (ks2 := 0) (As := [.ref (q_h G + (80 + 18 * (((nx + 8) - 1) % 8)))]) (rest := []) hg lk_RX2_25 in_X0_copyFrom se_X0_copyFrom rfl dX2_pop_31 ⟨by decide, by decide⟩ rfl rfl ⟨by decide, by decide⟩ hjo_1 (by omega) rfl rfl (Nat.le_of_ble_eq_true rfl) (c_X0_copyG G ex n σ gb (80 + 18 * (((nx + 8) - 1) % 8)) g (by omega) (by omega) (by omega) hJ hG2) ?_
  rintro σ_4 ⟨hG9, hc_2, hf_3⟩
  have hc_5 : σ_4 78 = o2 G (78) (nI (nx)) (nI (m)) := (hf_3 _ (by omega)).trans hc0
  have hc_6 : σ_4 79 = q_rn G 2 8 (fun j => some (80 + 18 * j)) := (hf_3 _ (by omega)).trans hc1
  refine A_aload_n hg dX2_pop_34 rfl rfl ?_
  refine A_iload_n hg dX2_pop_35 rfl rfl ?_
  refine A_putf hg fl_RX2_17 dX2_pop_36 hc_5 (by omega) (Nat.le_of_ble_eq_true rfl) rfl rfl rfl (fun σ_7 hc_8 hf_9 => ?_)
  have hc_8 : σ_7 78 = o2 G (78) (nI (((nx + 8) - 1) % 8)) (nI (m)) := hc_8
  have hc_10 : σ_7 79 = q_rn G 2 8 (fun j => some (80 + 18 * j)) := (hf_9 _ (by omega)).trans hc_6
  have hc_11 : σ_7 gb = o0 G (gb) (nI (g 0)) (nI (g 3)) (nI (g 4)) (nI (g 5)) (nI (g 6)) := (hf_9 _ (by omega)).trans hc_2
  refine A_aload_n hg dX2_pop_39 rfl rfl ?_
  refine A_dup hg dX2_pop_40 rfl ?_
  refine A_getf (v := .int (nI (m))) hg fl_RX2_21 dX2_pop_41 hc_8 (by omega) rfl ?_
  refine A_iconst (v := (nI (1))) hg dX2_pop_44 (by decide) ?_
  refine A_isubN hg dX2_pop_45 (by omega) ?_
  refine A_putf hg fl_RX2_21 dX2_pop_46 hc_8 (by omega) (Nat.le_of_ble_eq_true rfl) rfl rfl rfl (fun σ_12 hc_13 hf_14 => ?_)
  have hc_13 : σ_12 78 = o2 G (78) (nI (((nx + 8) - 1) % 8)) (nI (m - 1)) := hc_13
  have hc_15 : σ_12 79 = q_rn G 2 8 (fun j => some (80 + 18 * j)) := (hf_14 _ (by omega)).trans hc_10
  have hc_16 : σ_12 gb = o0 G (gb) (nI (g 0)) (nI (g 3)) (nI (g 4)) (nI (g 5)) (nI (g 6)) := (hf_14 _ (by omega)).trans hc_11
  rw [hQ]
  exact A_return hg (by decide) (by decide) rfl dX2_pop_49 ⟨rfl, ⟨rfl, (x_gm_e (fun i _ _ => ((hf_14 i (by omega)).trans (hf_9 i (by omega)))) hG9), hc_13, (fun i hi => ((hf_14 i (by omega)).trans ((hf_9 i (by omega)).trans (hf_3 i (by omega)))))⟩⟩
end
