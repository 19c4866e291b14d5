section
set_option maxRecDepth 100000 in
set_option maxHeartbeats 4000000 in
theorem c_X11_addsBar (G : GL) (ex : Bool) (n : Nat) (σ : Nat → va_E) (F : Nat → Int32) (g : Nat → Nat) (r : Nat) (k : Nat) (l : Nat) (hc0 : σ 279 = o11 G F) (hc1 : σ 280 = q_an G 265 g) (hn : 294 ≤ n) (hr : r < 4) (hw : s_rwf (s_rule g r)) (h3 : s_rule g r 20 < 4) : Ct G yX11_addsBar cX11_addsBar 5 none ⟨1, 0, 0, 23⟩ [.ref (q_h G + 279), .int (nI (r)), .int (nI (k)), .int (nI (l))] ex n σ (fun v9 σ2 => v9 = none ∧ σ2 280 = q_an G 265 (s_rset (s_rset (s_rset g r (21 + 2 * s_rule g r 20) k) r (21 + 2 * s_rule g r 20 + 1) l) r 20 (s_rule g r 20 + 1)) ∧ (∀ i : Nat, i ≠ 280 → σ2 i = σ i)) := by
  refine q_enter [some (.ref (q_h G + 279)), some (.int (nI (r))), some (.int (nI (k))), some (.int (nI (l))), none] (by decide) (Nat.le_of_ble_eq_true rfl) rfl ?_
  intro K hg
  obtain ⟨Q, hQ⟩ : ∃ Q, Q = q_Q G K ex n 0 0 (fun v9 n' σ' => n' = n ∧ (fun v9 σ2 => v9 = none ∧ σ2 280 = q_an G 265 (s_rset (s_rset (s_rset g r (21 + 2 * s_rule g r 20) k) r (21 + 2 * s_rule g r 20 + 1) l) r 20 (s_rule g r 20 + 1)) ∧ (∀ i : Nat, i ≠ 280 → σ2 i = σ i)) v9 σ') q_noX := ⟨_, rfl⟩
  refine (?_ : AJ G K (q_Q G K ex n 0 0 _ _) 0 0 ex n 0 _ _ σ)
  rw [← hQ]
  refine A_aload_n hg dX11_addsBar_0 rfl rfl ?_
  refine A_iload_n hg dX11_addsBar_1 rfl rfl ?_
  refine A_bipush (v := (nI (20))) hg dX11_addsBar_2 (by decide) ?_
  refine A_eV (kc2 := 0) (ks2 := 0) (As := [.int (nI (r)), .int (nI (20))]) (rest := []) hg lk_RX11_85 in_X11_of se_X11_of rfl dX11_addsBar_4 ⟨by decide, by decide⟩ rfl rfl ⟨by decide, by decide⟩ hc0 (by omega) rfl rfl (Nat.le_of_ble_eq_true rfl) (c_X11_of G ex n σ F g r 20 hc0 hc1 (by omega) (by omega)) ?_
  refine A_istore hg dX11_addsBar_7 (by decide) (q_c1d rfl) ?_
  refine A_eq (ls2 := [some (.ref (q_h G + 279)), some (.int (nI (r))), some (.int (nI (k))), some (.int (nI (l))), some (.int (nI (s_rule g r 20)))]) (st2 := []) (pc2 := 0) rfl rfl ?_
  refine A_aload_n hg dX11_addsBar_9 rfl rfl ?_
  refine A_iload_n hg dX11_addsBar_10 rfl rfl ?_
  refine A_bipush (v := (nI (21))) hg dX11_addsBar_11 (by decide) ?_
  refine A_iconst (v := (nI (2))) hg dX11_addsBar_13 (by decide) ?_
  refine A_iload hg dX11_addsBar_14 rfl ?_
  refine A_imulN hg dX11_addsBar_16 ?_
  refine A_iaddN hg dX11_addsBar_17 ?_
  refine A_iload_n hg dX11_addsBar_18 rfl rfl ?_
  refine A_vV (kc2 := 0) (ks2 := 0) (As := [.int (nI (r)), .int (nI (21 + (2 * (s_rule g r 20)))), .int (nI (k))]) (rest := []) hg lk_RX11_60 in_X11_putsRule se_X11_putsRule rfl dX11_addsBar_19 ⟨by decide, by decide⟩ rfl rfl ⟨by decide, by decide⟩ hc0 (by omega) rfl rfl (Nat.le_of_ble_eq_true rfl) (c_X11_putsRule G ex n σ F g r (21 + (2 * (s_rule g r 20))) k hc0 hc1 (by omega) (by omega)) ?_
  rintro σ_3 ⟨hc_1, hf_2⟩
  have hc_4 : σ_3 279 = o11 G F := (hf_2 _ (by omega)).trans hc0
  refine A_aload_n hg dX11_addsBar_22 rfl rfl ?_
  refine A_iload_n hg dX11_addsBar_23 rfl rfl ?_
  refine A_bipush (v := (nI (21))) hg dX11_addsBar_24 (by decide) ?_
  refine A_iconst (v := (nI (2))) hg dX11_addsBar_26 (by decide) ?_
  refine A_iload hg dX11_addsBar_27 rfl ?_
  refine A_imulN hg dX11_addsBar_29 ?_
  refine A_iaddN hg dX11_addsBar_30 ?_
  refine A_iconst (v := (nI (1))) hg dX11_addsBar_31 (by decide) ?_
  refine A_iaddN hg dX11_addsBar_32 ?_
  refine A_iload_n hg dX11_addsBar_33 rfl rfl ?_
  refine A_vV (kc2 := 0) (ks2 := 0) (As := [.int (nI (r)), .int (nI ((21 + (2 * (s_rule g r 20))) + 1)), .int (nI (l))]) (rest := []) hg lk_RX11_60 in_X11_putsRule se_X11_putsRule rfl dX11_addsBar_34 ⟨by decide, by decide⟩ rfl rfl ⟨by decide, by decide⟩ hc_4 (by omega) rfl rfl (Nat.le_of_ble_eq_true rfl) (c_X11_putsRule G ex n σ_3 F (va_up g (17 + 29 * r + (21 + (2 * (s_rule g r 20)))) k) r ((21 + (2 * (s_rule g r 20))) + 1) l hc_4 hc_1 (by omega) (by omega)) ?_
  rintro σ_7 ⟨hc_5, hf_6⟩
  have hc_8 : σ_7 279 = o11 G F := (hf_6 _ (by omega)).trans hc_4
  refine A_aload_n hg dX11_addsBar_37 rfl rfl ?_
  refine A_iload_n hg dX11_addsBar_38 rfl rfl ?_
  refine A_bipush (v := (nI (20))) hg dX11_addsBar_39 (by decide) ?_
  refine A_iload hg dX11_addsBar_41 rfl ?_
  refine A_iconst (v := (nI (1))) hg dX11_addsBar_43 (by decide) ?_
  refine A_iaddN hg dX11_addsBar_44 ?_
  refine A_vV (kc2 := 0) (ks2 := 0) (As := [.int (nI (r)), .int (nI (20)), .int (nI ((s_rule g r 20) + 1))]) (rest := []) hg lk_RX11_60 in_X11_putsRule se_X11_putsRule rfl dX11_addsBar_45 ⟨by decide, by decide⟩ rfl rfl ⟨by decide, by decide⟩ hc_8 (by omega) rfl rfl (Nat.le_of_ble_eq_true rfl) (c_X11_putsRule G ex n σ_7 F (va_up (va_up g (17 + 29 * r + (21 + (2 * (s_rule g r 20)))) k) (17 + 29 * r + ((21 + (2 * (s_rule g r 20))) + 1)) l) r 20 ((s_rule g r 20) + 1) hc_8 hc_5 (by omega) (by omega)) ?_
  rintro σ_11 ⟨hc_9, hf_10⟩
  have hc_12 : σ_11 279 = o11 G F := (hf_10 _ (by omega)).trans hc_8
  rw [hQ]
  exact A_return hg (by decide) (by decide) rfl dX11_addsBar_48 ⟨rfl, ⟨rfl, hc_9, (fun i hi => ((hf_10 i (by omega)).trans ((hf_6 i (by omega)).trans (hf_2 i (by omega)))))⟩⟩
set_option maxRecDepth 100000 in
set_option maxHeartbeats 4000000 in
theorem c_X11_setsRule (G : GL) (ex : Bool) (n : Nat) (σ : Nat → va_E) (F : Nat → Int32) (g : Nat → Nat) (a : Nat → Nat) (m : Nat) (r : Nat) (j : Nat) (v : Nat) (hc0 : σ 279 = o11 G F) (hc1 : σ 280 = q_an G 265 g) (hc2 : σ 284 = q_an G 2120 a) (hn : 294 ≤ n) (hr : r < 4) (hj : j < 29) (hF5 : F 5 = nI m) (hm8 : m ≤ 8) : Ct G yX11_setsRule cX11_setsRule 5 (some .int) ⟨2, 0, 0, 45⟩ [.ref (q_h G + 279), .int (nI (r)), .int (nI (j)), .int (nI (v))] ex n σ (fun v9 σ2 => ∃ (a' : Nat → Nat), v9 = some (.int (nI (s_rule g r j))) ∧ (∀ j : Nat, j < 265 → a' (265 * s_pmany m + j) = g j) ∧ (∀ j : Nat, j < 265 * s_pmany m → a' j = s_pshift a m j) ∧ σ2 279 = o11 G (upd F 5 (nI (s_pmany m + 1))) ∧ σ2 280 = q_an G 265 (s_rset g r j v) ∧ σ2 284 = q_an G 2120 a' ∧ (∀ i : Nat, i ≠ 279 ∧ i ≠ 280 ∧ i ≠ 284 → σ2 i = σ i)) := by
  refine q_enter [some (.ref (q_h G + 279)), some (.int (nI (r))), some (.int (nI (j))), some (.int (nI (v))), none] (by decide) (Nat.le_of_ble_eq_true rfl) rfl ?_
  intro K hg
  obtain ⟨Q, hQ⟩ : ∃ Q, Q = q_Q G K ex n 0 0 (fun v9 n' σ' => n' = n ∧ (fun v9 σ2 => ∃ (a' : Nat → Nat), v9 = some (.int (nI (s_rule g r j))) ∧ (∀ j : Nat, j < 265 → a' (265 * s_pmany m + j) = g j) ∧ (∀ j : Nat, j < 265 * s_pmany m → a' j = s_pshift a m j) ∧ σ2 279 = o11 G (upd F 5 (nI (s_pmany m + 1))) ∧ σ2 280 = q_an G 265 (s_rset g r j v) ∧ σ2 284 = q_an G 2120 a' ∧ (∀ i : Nat, i ≠ 279 ∧ i ≠ 280 ∧ i ≠ 284 → σ2 i = σ i)) v9 σ') q_noX := ⟨_, rfl⟩
  refine (?_ : AJ G K (q_Q G K ex n 0 0 _ _) 0 0 ex n 0 _ _ σ)
  rw [← hQ]
  refine A_aload_n hg dX11_setsRule_0 rfl rfl ?_
  refine A_vV (kc2 := 0) (ks2 := 0) (As := []) (rest := []) hg lk_RX11_463 in_X11_remembers se_X11_remembers rfl dX11_setsRule_1 ⟨by decide, by decide⟩ rfl rfl ⟨by decide, by decide⟩ hc0 (by omega) rfl rfl (Nat.le_of_ble_eq_true rfl) (c_X11_remembers G ex n σ F g a m hc0 hc1 hc2 (by omega) hF5 (by omega)) ?_
  rintro σ_4 ⟨a', hnew, hold, hc_1, hc_2, hf_3⟩
  have hc_1 : σ_4 279 = o11 G (upd F 5 (nI (s_pmany m + 1))) := hc_1
  have hc_5 : σ_4 280 = q_an G 265 g := (hf_3 _ (by omega)).trans hc1
  refine A_aload_n hg dX11_setsRule_4 rfl rfl ?_
  refine A_iload_n hg dX11_setsRule_5 rfl rfl ?_
  refine A_iload_n hg dX11_setsRule_6 rfl rfl ?_
  refine A_eV (kc2 := 0) (ks2 := 0) (As := [.int (nI (r)), .int (nI (j))]) (rest := []) hg lk_RX11_85 in_X11_of se_X11_of rfl dX11_setsRule_7 ⟨by decide, by decide⟩ rfl rfl ⟨by decide, by decide⟩ hc_1 (by omega) rfl rfl (Nat.le_of_ble_eq_true rfl) (c_X11_of G ex n σ_4 (upd F 5 (nI (s_pmany m + 1))) g r j hc_1 hc_5 (by omega) (by omega)) ?_
  refine A_istore hg dX11_setsRule_10 (by decide) (q_c1d rfl) ?_
  refine A_eq (ls2 := [some (.ref (q_h G + 279)), some (.int (nI (r))), some (.int (nI (j))), some (.int (nI (v))), some (.int (nI (s_rule g r j)))]) (st2 := []) (pc2 := 0) rfl rfl ?_
  refine A_aload_n hg dX11_setsRule_12 rfl rfl ?_
  refine A_iload_n hg dX11_setsRule_13 rfl rfl ?_
  refine A_iload_n hg dX11_setsRule_14 rfl rfl ?_
  refine A_iload_n hg dX11_setsRule_15 rfl rfl ?_
  refine A_vV (kc2 := 0) (ks2 := 0) (As := [.int (nI (r)), .int (nI (j)), .int (nI (v))]) (rest := []) hg lk_RX11_60 in_X11_putsRule se_X11_putsRule rfl dX11_setsRule_16 ⟨by decide, by decide⟩ rfl rfl ⟨by decide, by decide⟩ hc_1 (by omega) rfl rfl (Nat.le_of_ble_eq_true rfl) (c_X11_putsRule G ex n σ_4 (upd F 5 (nI (s_pmany m + 1))) g r j v hc_1 hc_5 (by omega) (by omega)) ?_
  rintro σ_8 ⟨hc_6, hf_7⟩
  have hc_9 : σ_8 279 = o11 G (upd F 5 (nI (s_pmany m + 1))) := (hf_7 _ (by omega)).trans hc_1
  have hc_10 : σ_8 284 = q_an G 2120 a' := (hf_7 _ (by omega)).trans hc_2
  refine A_iload hg dX11_setsRule_19 rfl ?_
  rw [hQ]
  exact A_ireturn hg (by decide) (by decide) rfl dX11_setsRule_21 ⟨rfl, ⟨a', rfl, hnew, hold, hc_9, hc_6, hc_10, (fun i hi => ((hf_7 i (by omega)).trans (hf_3 i (by omega))))⟩⟩
end
