section
set_option maxRecDepth 100000 in
set_option maxHeartbeats 4000000 in
theorem c_X11_write (G : GL) (ex : Bool) (n : Nat) (σ : Nat → va_E) (F : Nat → Int32) (L : List Nat) (o : Nat → Nat) (x : Nat) (hc0 : σ 279 = o11 G F) (hc1 : σ 293 = q_an G 300 o) (hn : 294 ≤ n) (hF33 : F 33 = nI L.length) (hO : ∀ j : Nat, j < L.length → o j = L.getD j 0) (hl : L.length < 300) : Ct G yX11_write cX11_write 2 none ⟨0, 0, 0, 0⟩ [.ref (q_h G + 279), .int (nI (x))] ex n σ (fun v9 σ2 => v9 = none ∧ ∃ (L' : List Nat), ∃ (o' : Nat → Nat), (L' = L ++ [x]) ∧ (L'.length ≤ L.length + 1) ∧ (∀ j : Nat, j < L'.length → o' j = L'.getD j 0) ∧ σ2 279 = o11 G (upd F 33 (nI (L'.length))) ∧ σ2 293 = q_an G 300 o' ∧ (∀ i : Nat, i ≠ 279 ∧ i ≠ 293 → σ2 i = σ i)) := by
  refine q_enter [some (.ref (q_h G + 279)), some (.int (nI (x)))] (by decide) (Nat.le_of_ble_eq_true rfl) rfl ?_
  intro K hg
  obtain ⟨Q, hQ⟩ : ∃ Q, Q = q_Q G K ex n 0 0 (fun v9 n' σ' => n' = n ∧ (fun v9 σ2 => v9 = none ∧ ∃ (L' : List Nat), ∃ (o' : Nat → Nat), (L' = L ++ [x]) ∧ (L'.length ≤ L.length + 1) ∧ (∀ j : Nat, j < L'.length → o' j = L'.getD j 0) ∧ σ2 279 = o11 G (upd F 33 (nI (L'.length))) ∧ σ2 293 = q_an G 300 o' ∧ (∀ i : Nat, i ≠ 279 ∧ i ≠ 293 → σ2 i = σ i)) v9 σ') q_noX := ⟨_, rfl⟩
  refine (?_ : AJ G K (q_Q G K ex n 0 0 _ _) 0 0 ex n 0 _ _ σ)
  rw [← hQ]
  refine A_aload_n hg dX11_write_0 rfl rfl ?_
  refine A_getf (v := .ref (q_h G + 293)) hg fl_RX11_54 dX11_write_1 hc0 (by omega) rfl ?_
  refine A_aload_n hg dX11_write_4 rfl rfl ?_
  refine A_getf (v := .int (nI (L.length))) hg fl_RX11_472 dX11_write_5 hc0 (by omega) (congrArg (fun z => some (Value.int z)) hF33) ?_
  refine A_iload_n hg dX11_write_8 rfl rfl ?_
  refine A_iast (j := L.length) (x := x) hg dX11_write_9 hc1 (by omega) (by omega) (by decide) (fun σ_1 hc_2 hf_3 => ?_)
  have hc_4 : σ_1 279 = o11 G F := (hf_3 _ (by omega)).trans hc0
  refine A_aload_n hg dX11_write_10 rfl rfl ?_
  refine A_dup hg dX11_write_11 rfl ?_
  refine A_getf (v := .int (nI (L.length))) hg fl_RX11_472 dX11_write_12 hc_4 (by omega) (congrArg (fun z => some (Value.int z)) hF33) ?_
  refine A_iconst (v := (nI (1))) hg dX11_write_15 (by decide) ?_
  refine A_iaddN hg dX11_write_16 ?_
  refine A_putf hg fl_RX11_472 dX11_write_17 hc_4 (by omega) (Nat.le_of_ble_eq_true rfl) rfl rfl rfl (fun σ_5 hc_6 hf_7 => ?_)
  have hc_6 : σ_5 279 = o11 G (upd F 33 (nI (L.length + 1))) := hc_6
  have hc_8 : σ_5 293 = q_an G 300 (va_up o L.length x) := (hf_7 _ (by omega)).trans hc_2
  have hz : σ_5 279 = o11 G (upd F 33 (nI (L ++ [x]).length)) := by rw [List.length_append]; exact hc_6
  rw [hQ]
  exact A_return hg (by decide) (by decide) rfl dX11_write_20 ⟨rfl, ⟨rfl, (L ++ [x]), (va_up o L.length x), rfl, (by rw [List.length_append]; exact Nat.le_refl _), (q_snoc hO), hz, hc_8, (fun i hi => ((hf_7 i (by omega)).trans (hf_3 i (by omega))))⟩⟩
set_option maxRecDepth 100000 in
set_option maxHeartbeats 4000000 in
theorem c_X11_writeWord (G : GL) (ex : Bool) (n : Nat) (σ : Nat → va_E) (F : Nat → Int32) (L : List Nat) (o : Nat → Nat) (a : Nat) (bs : List Nat) (hc0 : σ 279 = o11 G F) (hc1 : σ 293 = q_an G 300 o) (hn : 294 ≤ n) (hF33 : F 33 = nI L.length) (hO : ∀ j : Nat, j < L.length → o j = L.getD j 0) (hs : q_st G a bs) (hl : L.length + bs.length ≤ 300) : Ct G yX11_writeWord cX11_writeWord 3 none ⟨4, 0, 0, 85⟩ [.ref (q_h G + 279), .ref (a)] ex n σ (fun v9 σ2 => v9 = none ∧ ∃ (L' : List Nat), ∃ (o' : Nat → Nat), (L' = L ++ bs) ∧ (L'.length ≤ L.length + bs.length) ∧ (∀ j : Nat, j < L'.length → o' j = L'.getD j 0) ∧ σ2 279 = o11 G (upd F 33 (nI (L'.length))) ∧ σ2 293 = q_an G 300 o' ∧ (∀ i : Nat, i ≠ 279 ∧ i ≠ 293 → σ2 i = σ i)) := by
  refine q_enter [some (.ref (q_h G + 279)), some (.ref (a)), none] (by decide) (Nat.le_of_ble_eq_true rfl) rfl ?_
  intro K hg
  obtain ⟨Q, hQ⟩ : ∃ Q, Q = q_Q G K ex n 0 0 (fun v9 n' σ' => n' = n ∧ (fun v9 σ2 => v9 = none ∧ ∃ (L' : List Nat), ∃ (o' : Nat → Nat), (L' = L ++ bs) ∧ (L'.length ≤ L.length + bs.length) ∧ (∀ j : Nat, j < L'.length → o' j = L'.getD j 0) ∧ σ2 279 = o11 G (upd F 33 (nI (L'.length))) ∧ σ2 293 = q_an G 300 o' ∧ (∀ i : Nat, i ≠ 279 ∧ i ≠ 293 → σ2 i = σ i)) v9 σ') q_noX := ⟨_, rfl⟩
  refine (?_ : AJ G K (q_Q G K ex n 0 0 _ _) 0 0 ex n 0 _ _ σ)
  rw [← hQ]
  have hbs := hs.2.1
  refine A_iconst (v := (nI (0))) hg dX11_writeWord_0 (by decide) ?_
  refine A_istore_n hg dX11_writeWord_1 rfl (by decide) (q_c1d rfl) ?_
  refine A_eq (ls2 := [some (.ref (q_h G + 279)), some (.ref (a)), some (.int (nI (0)))]) (st2 := []) (pc2 := 0) rfl rfl ?_
  have hL2 : ∀ (fu : Nat) (k : Nat) (L1 : List Nat) (o1 : Nat → Nat) (F1 : Nat → Int32) (σ_1 : Nat → va_E), (σ_1 279 = o11 G F1) → (σ_1 293 = q_an G 300 o1) → (∀ i : Nat, i ≠ 279 ∧ i ≠ 293 → σ_1 i = σ i) → (F1 33 = nI L1.length) → (∀ j : Nat, j ≠ 33 → F1 j = F j) → (k ≤ bs.length) → (L1 = L ++ s_wdk bs k) → (∀ j : Nat, j < L1.length → o1 j = L1.getD j 0) → (bs.length - k) < fu → AJ G K Q 0 0 ex n 2 [some (.ref (q_h G + 279)), some (.ref (a)), some (.int (nI (k)))] [] σ_1 := by
    intro fu
    induction fu with
    | zero => intro k L1 o1 F1 σ_1 hc_2 hc_3 hf_4 h1_33 hfr1 hk hL1 hO1 hm; exact absurd hm (Nat.not_lt_zero _)
    | succ fu ih2 =>
      intro k L1 o1 F1 σ_1 hc_2 hc_3 hf_4 h1_33 hfr1 hk hL1 hO1 hm2
      have hln : L1.length = L.length + k := by rw [hL1, List.length_append, s_wdk_len]
      refine A_iload_n hg dX11_writeWord_2 rfl rfl ?_
      refine A_aload_n hg dX11_writeWord_3 rfl rfl ?_
      refine A_eVO (kc2 := 0) (ks2 := 0) (As := []) (rest := [.int (nI (k))]) hg lk_RX11_283 in_J0_length_8abf5 se_J0_length_8abf5 dX11_writeWord_4 ⟨by decide, by decide⟩ rfl rfl ⟨by decide, by decide⟩ (q_st_O hs) rfl rfl (Nat.le_of_ble_eq_true rfl) (c_J0_length G ex n σ_1 a bs hs) ?_
      refine A_icmp_geN (tgt := 25) hg dX11_writeWord_7 (by omega) (by omega) (by decide) (fun c7 => ?_) (fun c7 => ?_)
      · skip
        have hk1 : k = bs.length := by omega
        have hz : σ_1 279 = o11 G (upd F 33 (nI L1.length)) := by rw [← q_fr1 hfr1 h1_33]; exact hc_2
        rw [hQ]
        exact A_return hg (by decide) (by decide) rfl dX11_writeWord_25 ⟨rfl, ⟨rfl, L1, o1, (by rw [hL1, hk1, s_wdk_all]), (by omega), hO1, hz, hc_3, (fun i hi => (hf_4 i (by omega)))⟩⟩
      · skip
        refine A_aload_n hg dX11_writeWord_10 rfl rfl ?_
        refine A_aload_n hg dX11_writeWord_11 rfl rfl ?_
        refine A_iload_n hg dX11_writeWord_12 rfl rfl ?_
        refine A_eVO (kc2 := 0) (ks2 := 0) (As := [.int (nI (k))]) (rest := [.ref (q_h G + 279)]) hg lk_RX11_288 in_J0_charAt_5068e se_J0_charAt_5068e dX11_writeWord_13 ⟨by decide, by decide⟩ rfl rfl ⟨by decide, by decide⟩ (q_st_O hs) rfl rfl (Nat.le_of_ble_eq_true rfl) (c_J0_charAt G ex n σ_1 a bs k hs (by omega)) ?_
        refine A_vV (kc2 := 0) (ks2 := 0) (As := [.int (nI (bs.getD k 0))]) (rest := []) hg lk_RX11_475 in_X11_write se_X11_write rfl dX11_writeWord_16 ⟨by decide, by decide⟩ rfl rfl ⟨by decide, by decide⟩ hc_2 (by omega) rfl rfl (Nat.le_of_ble_eq_true rfl) (c_X11_write G ex n σ_1 F1 L1 o1 (bs.getD k 0) hc_2 hc_3 (by omega) h1_33 (by assumption) (by omega)) ?_
        rintro σ_8 ⟨L16, o16, hL16, hlen16, hO16, hc_5, hc_6, hf_7⟩
        have hc_5 : σ_8 279 = o11 G (upd F1 33 (nI (L16.length))) := hc_5
        refine A_iincN (k' := 1) hg dX11_writeWord_19 (by decide) rfl (by decide) (q_c1d rfl) ?_
        refine A_eq (ls2 := [some (.ref (q_h G + 279)), some (.ref (a)), some (.int (nI (k + 1)))]) (st2 := []) (pc2 := 0) rfl rfl ?_
        refine A_goto (tgt := 2) hg dX11_writeWord_22 (by decide) ?_
        exact ih2 (k + 1) L16 o16 (upd F1 33 (nI (L16.length))) σ_8 hc_5 hc_6 (fun i hi => ((hf_7 i (by omega)).trans (hf_4 i (by omega)))) rfl (fun j hj => (q_upn (by omega)).trans ((hfr1 j hj))) (by omega) (by rw [hL16, hL1, List.append_assoc]; rfl) hO16 (by omega)
  exact hL2 _ 0 L o F σ hc0 hc1 (fun _ _ => rfl) hF33 (fun _ _ => rfl) (Nat.zero_le _) ((List.append_nil L).symm) hO (Nat.lt_succ_self _)
set_option maxRecDepth 100000 in
set_option maxHeartbeats 4000000 in
theorem c_X11_writeName (G : GL) (ex : Bool) (n : Nat) (σ : Nat → va_E) (F : Nat → Int32) (L : List Nat) (o : Nat → Nat) (g : Nat → Nat) (r : Nat) (hc0 : σ 279 = o11 G F) (hc1 : σ 293 = q_an G 300 o) (hc2 : σ 280 = q_an G 265 g) (hn : 294 ≤ n) (hF33 : F 33 = nI L.length) (hO : ∀ j : Nat, j < L.length → o j = L.getD j 0) (hr : r < 4) (h8 : s_rule g r 0 ≤ 8) (hl : L.length + 8 ≤ 300) : Ct G yX11_writeName cX11_writeName 3 none ⟨1, 0, 0, 22⟩ [.ref (q_h G + 279), .int (nI (r))] ex n σ (fun v9 σ2 => v9 = none ∧ ∃ (L' : List Nat), ∃ (o' : Nat → Nat), (L' = L ++ s_nml (s_rule g r)) ∧ (L'.length ≤ L.length + s_rule g r 0) ∧ (∀ j : Nat, j < L'.length → o' j = L'.getD j 0) ∧ σ2 279 = o11 G (upd F 33 (nI (L'.length))) ∧ σ2 293 = q_an G 300 o' ∧ (∀ i : Nat, i ≠ 279 ∧ i ≠ 293 → σ2 i = σ i)) := by
  refine q_enter [some (.ref (q_h G + 279)), some (.int (nI (r))), none] (by decide) (Nat.le_of_ble_eq_true rfl) rfl ?_
  intro K hg
  obtain ⟨Q, hQ⟩ : ∃ Q, Q = q_Q G K ex n 0 0 (fun v9 n' σ' => n' = n ∧ (fun v9 σ2 => v9 = none ∧ ∃ (L' : List Nat), ∃ (o' : Nat → Nat), (L' = L ++ s_nml (s_rule g r)) ∧ (L'.length ≤ L.length + s_rule g r 0) ∧ (∀ j : Nat, j < L'.length → o' j = L'.getD j 0) ∧ σ2 279 = o11 G (upd F 33 (nI (L'.length))) ∧ σ2 293 = q_an G 300 o' ∧ (∀ i : Nat, i ≠ 279 ∧ i ≠ 293 → σ2 i = σ i)) v9 σ') q_noX := ⟨_, rfl⟩
  refine (?_ : AJ G K (q_Q G K ex n 0 0 _ _) 0 0 ex n 0 _ _ σ)
  rw [← hQ]
  refine A_iconst (v := (nI (0))) hg dX11_writeName_0 (by decide) ?_
  refine A_istore_n hg dX11_writeName_1 rfl (by decide) (q_c1d rfl) ?_
  refine A_eq (ls2 := [some (.ref (q_h G + 279)), some (.int (nI (r))), some (.int (nI (0)))]) (st2 := []) (pc2 := 0) rfl rfl ?_
  have hL2 : ∀ (fu : Nat) (k : Nat) (L1 : List Nat) (o1 : Nat → Nat) (F1 : Nat → Int32) (σ_1 : Nat → va_E), (σ_1 279 = o11 G F1) → (σ_1 293 = q_an G 300 o1) → (σ_1 280 = q_an G 265 g) → (∀ i : Nat, i ≠ 279 ∧ i ≠ 293 → σ_1 i = σ i) → (F1 33 = nI L1.length) → (∀ j : Nat, j ≠ 33 → F1 j = F j) → (k ≤ s_rule g r 0) → (L1 = L ++ s_nmk (s_rule g r) k) → (∀ j : Nat, j < L1.length → o1 j = L1.getD j 0) → (s_rule g r 0 - k) < fu → AJ G K Q 0 0 ex n 2 [some (.ref (q_h G + 279)), some (.int (nI (r))), some (.int (nI (k)))] [] σ_1 := by
    intro fu
    induction fu with
    | zero => intro k L1 o1 F1 σ_1 hc_2 hc_3 hc_4 hf_5 h1_33 hfr1 hk hL1 hO1 hm; exact absurd hm (Nat.not_lt_zero _)
    | succ fu ih2 =>
      intro k L1 o1 F1 σ_1 hc_2 hc_3 hc_4 hf_5 h1_33 hfr1 hk hL1 hO1 hm2
      have hln : L1.length = L.length + k := by rw [hL1, List.length_append, s_nmk_len]
      refine A_iload_n hg dX11_writeName_2 rfl rfl ?_
      refine A_aload_n hg dX11_writeName_3 rfl rfl ?_
      refine A_iload_n hg dX11_writeName_4 rfl rfl ?_
      refine A_iconst (v := (nI (0))) hg dX11_writeName_5 (by decide) ?_
      refine A_eV (kc2 := 0) (ks2 := 0) (As := [.int (nI (r)), .int (nI (0))]) (rest := [.int (nI (k))]) hg lk_RX11_85 in_X11_of se_X11_of rfl dX11_writeName_6 ⟨by decide, by decide⟩ rfl rfl ⟨by decide, by decide⟩ hc_2 (by omega) rfl rfl (Nat.le_of_ble_eq_true rfl) (c_X11_of G ex n σ_1 F1 g r 0 hc_2 hc_4 (by omega) (by omega)) ?_
      refine A_icmp_geN (tgt := 35) hg dX11_writeName_9 (by omega) (by omega) (by decide) (fun c9 => ?_) (fun c9 => ?_)
      · skip
        have hk1 : k = s_rule g r 0 := by omega
        have hz : σ_1 279 = o11 G (upd F 33 (nI L1.length)) := by rw [← q_fr1 hfr1 h1_33]; exact hc_2
        rw [hQ]
        exact A_return hg (by decide) (by decide) rfl dX11_writeName_35 ⟨rfl, ⟨rfl, L1, o1, (by rw [hL1, hk1]; rfl), (by omega), hO1, hz, hc_3, (fun i hi => (hf_5 i (by omega)))⟩⟩
      · skip
        refine A_aload_n hg dX11_writeName_12 rfl rfl ?_
        refine A_bipush (v := (nI (97))) hg dX11_writeName_13 (by decide) ?_
        refine A_aload_n hg dX11_writeName_15 rfl rfl ?_
        refine A_iload_n hg dX11_writeName_16 rfl rfl ?_
        refine A_iconst (v := (nI (1))) hg dX11_writeName_17 (by decide) ?_
        refine A_iload_n hg dX11_writeName_18 rfl rfl ?_
        refine A_iaddN hg dX11_writeName_19 ?_
        refine A_eV (kc2 := 0) (ks2 := 0) (As := [.int (nI (r)), .int (nI (1 + k))]) (rest := [.int (nI (97)), .ref (q_h G + 279)]) hg lk_RX11_85 in_X11_of se_X11_of rfl dX11_writeName_20 ⟨by decide, by decide⟩ rfl rfl ⟨by decide, by decide⟩ hc_2 (by omega) rfl rfl (Nat.le_of_ble_eq_true rfl) (c_X11_of G ex n σ_1 F1 g r (1 + k) hc_2 hc_4 (by omega) (by omega)) ?_
        refine A_iaddN hg dX11_writeName_23 ?_
        refine A_iconst (v := (nI (1))) hg dX11_writeName_24 (by decide) ?_
        refine A_isubN hg dX11_writeName_25 (by omega) ?_
        refine A_vV (kc2 := 0) (ks2 := 0) (As := [.int (nI ((97 + (s_rule g r (1 + k))) - 1))]) (rest := []) hg lk_RX11_475 in_X11_write se_X11_write rfl dX11_writeName_26 ⟨by decide, by decide⟩ rfl rfl ⟨by decide, by decide⟩ hc_2 (by omega) rfl rfl (Nat.le_of_ble_eq_true rfl) (c_X11_write G ex n σ_1 F1 L1 o1 ((97 + (s_rule g r (1 + k))) - 1) hc_2 hc_3 (by omega) h1_33 (by assumption) (by omega)) ?_
        rintro σ_9 ⟨L26, o26, hL26, hlen26, hO26, hc_6, hc_7, hf_8⟩
        have hc_6 : σ_9 279 = o11 G (upd F1 33 (nI (L26.length))) := hc_6
        have hc_10 : σ_9 280 = q_an G 265 g := (hf_8 _ (by omega)).trans hc_4
        refine A_iincN (k' := 1) hg dX11_writeName_29 (by decide) rfl (by decide) (q_c1d rfl) ?_
        refine A_eq (ls2 := [some (.ref (q_h G + 279)), some (.int (nI (r))), some (.int (nI (k + 1)))]) (st2 := []) (pc2 := 0) rfl rfl ?_
        refine A_goto (tgt := 2) hg dX11_writeName_32 (by decide) ?_
        exact ih2 (k + 1) L26 o26 (upd F1 33 (nI (L26.length))) σ_9 hc_6 hc_7 hc_10 (fun i hi => ((hf_8 i (by omega)).trans (hf_5 i (by omega)))) rfl (fun j hj => (q_upn (by omega)).trans ((hfr1 j hj))) (by omega) (by rw [hL26, hL1, List.append_assoc]; rfl) hO26 (by omega)
  exact hL2 _ 0 L o F σ hc0 hc1 hc2 (fun _ _ => rfl) hF33 (fun _ _ => rfl) (Nat.zero_le _) ((List.append_nil L).symm) hO (Nat.lt_succ_self _)
set_option maxRecDepth 100000 in
set_option maxHeartbeats 4000000 in
theorem c_X11_writeNumber (G : GL) (ex : Bool) (n : Nat) (σ : Nat → va_E) (F : Nat → Int32) (L : List Nat) (o : Nat → Nat) (x : Nat) (hc0 : σ 279 = o11 G F) (hc1 : σ 293 = q_an G 300 o) (hn : 294 ≤ n) (hF33 : F 33 = nI L.length) (hO : ∀ j : Nat, j < L.length → o j = L.getD j 0) (hx : x < 100) (hl : L.length + 2 ≤ 300) : Ct G yX11_writeNumber cX11_writeNumber 2 none ⟨1, 0, 0, 21⟩ [.ref (q_h G + 279), .int (nI (x))] ex n σ (fun v9 σ2 => v9 = none ∧ ∃ (L' : List Nat), ∃ (o' : Nat → Nat), (L' = L ++ s_dg x) ∧ (L'.length ≤ L.length + 2) ∧ (∀ j : Nat, j < L'.length → o' j = L'.getD j 0) ∧ σ2 279 = o11 G (upd F 33 (nI (L'.length))) ∧ σ2 293 = q_an G 300 o' ∧ (∀ i : Nat, i ≠ 279 ∧ i ≠ 293 → σ2 i = σ i)) := by
  refine q_enter [some (.ref (q_h G + 279)), some (.int (nI (x)))] (by decide) (Nat.le_of_ble_eq_true rfl) rfl ?_
  intro K hg
  obtain ⟨Q, hQ⟩ : ∃ Q, Q = q_Q G K ex n 0 0 (fun v9 n' σ' => n' = n ∧ (fun v9 σ2 => v9 = none ∧ ∃ (L' : List Nat), ∃ (o' : Nat → Nat), (L' = L ++ s_dg x) ∧ (L'.length ≤ L.length + 2) ∧ (∀ j : Nat, j < L'.length → o' j = L'.getD j 0) ∧ σ2 279 = o11 G (upd F 33 (nI (L'.length))) ∧ σ2 293 = q_an G 300 o' ∧ (∀ i : Nat, i ≠ 279 ∧ i ≠ 293 → σ2 i = σ i)) v9 σ') q_noX := ⟨_, rfl⟩
  refine (?_ : AJ G K (q_Q G K ex n 0 0 _ _) 0 0 ex n 0 _ _ σ)
  rw [← hQ]
  refine A_iload_n hg dX11_writeNumber_0 rfl rfl ?_
  refine A_bipush (v := (nI (9))) hg dX11_writeNumber_1 (by decide) ?_
  refine A_icmp_leN (tgt := 17) hg dX11_writeNumber_3 (by omega) (by decide) (by decide) (fun c3 => ?_) (fun c3 => ?_)
  · skip
    refine A_aload_n hg dX11_writeNumber_17 rfl rfl ?_
    refine A_bipush (v := (nI (48))) hg dX11_writeNumber_18 (by decide) ?_
    refine A_iload_n hg dX11_writeNumber_20 rfl rfl ?_
    refine A_bipush (v := (nI (10))) hg dX11_writeNumber_21 (by decide) ?_
    refine A_iremN hg dX11_writeNumber_23 (by omega) (by decide) (by decide) ?_
    refine A_iaddN hg dX11_writeNumber_24 ?_
    refine A_vV (kc2 := 0) (ks2 := 0) (As := [.int (nI (48 + (x % 10)))]) (rest := []) hg lk_RX11_475 in_X11_write se_X11_write rfl dX11_writeNumber_25 ⟨by decide, by decide⟩ rfl rfl ⟨by decide, by decide⟩ hc0 (by omega) rfl rfl (Nat.le_of_ble_eq_true rfl) (c_X11_write G ex n σ F L o (48 + (x % 10)) hc0 hc1 (by omega) hF33 (by assumption) (by omega)) ?_
    rintro σ_4 ⟨L25, o25, hL25, hlen25, hO25, hc_1, hc_2, hf_3⟩
    have hc_1 : σ_4 279 = o11 G (upd F 33 (nI (L25.length))) := hc_1
    rw [hQ]
    exact A_return hg (by decide) (by decide) rfl dX11_writeNumber_28 ⟨rfl, ⟨rfl, L25, o25, (by rw [hL25]; unfold s_dg; first | (rw [if_pos (by omega), List.append_assoc]; rfl) | rw [if_neg (by omega)]), (by omega), (by assumption), hc_1, hc_2, (fun i hi => (hf_3 i (by omega)))⟩⟩
  · skip
    refine A_aload_n hg dX11_writeNumber_6 rfl rfl ?_
    refine A_bipush (v := (nI (48))) hg dX11_writeNumber_7 (by decide) ?_
    refine A_iload_n hg dX11_writeNumber_9 rfl rfl ?_
    refine A_bipush (v := (nI (10))) hg dX11_writeNumber_10 (by decide) ?_
    refine A_idivN hg dX11_writeNumber_12 (by omega) (by decide) (by decide) ?_
    refine A_iaddN hg dX11_writeNumber_13 ?_
    refine A_vV (kc2 := 0) (ks2 := 0) (As := [.int (nI (48 + (x / 10)))]) (rest := []) hg lk_RX11_475 in_X11_write se_X11_write rfl dX11_writeNumber_14 ⟨by decide, by decide⟩ rfl rfl ⟨by decide, by decide⟩ hc0 (by omega) rfl rfl (Nat.le_of_ble_eq_true rfl) (c_X11_write G ex n σ F L o (48 + (x / 10)) hc0 hc1 (by omega) hF33 (by assumption) (by omega)) ?_
    rintro σ_8 ⟨L14, o14, hL14, hlen14, hO14, hc_5, hc_6, hf_7⟩
    have hc_5 : σ_8 279 = o11 G (upd F 33 (nI (L14.length))) := hc_5
    refine A_aload_n hg dX11_writeNumber_17 rfl rfl ?_
    refine A_bipush (v := (nI (48))) hg dX11_writeNumber_18 (by decide) ?_
    refine A_iload_n hg dX11_writeNumber_20 rfl rfl ?_
    refine A_bipush (v := (nI (10))) hg dX11_writeNumber_21 (by decide) ?_
    refine A_iremN hg dX11_writeNumber_23 (by omega) (by decide) (by decide) ?_
    refine A_iaddN hg dX11_writeNumber_24 ?_
    refine A_vV (kc2 := 0) (ks2 := 0) (As := [.int (nI (48 + (x % 10)))]) (rest := []) hg lk_RX11_475 in_X11_write se_X11_write rfl dX11_writeNumber_25 ⟨by decide, by decide⟩ rfl rfl ⟨by decide, by decide⟩ hc_5 (by omega) rfl rfl (Nat.le_of_ble_eq_true rfl) (c_X11_write G ex n σ_8 (upd F 33 (nI (L14.length))) L14 o14 (48 + (x % 10)) hc_5 hc_6 (by omega) rfl (by assumption) (by omega)) ?_
    rintro σ_12 ⟨L25, o25, hL25, hlen25, hO25, hc_9, hc_10, hf_11⟩
    have hc_9 : σ_12 279 = o11 G (upd F 33 (nI (L25.length))) := hc_9
    rw [hQ]
    exact A_return hg (by decide) (by decide) rfl dX11_writeNumber_28 ⟨rfl, ⟨rfl, L25, o25, (by rw [hL25, hL14]; unfold s_dg; first | (rw [if_pos (by omega), List.append_assoc]; rfl) | rw [if_neg (by omega)]), (by omega), (by assumption), hc_9, hc_10, (fun i hi => ((hf_11 i (by omega)).trans (hf_7 i (by omega))))⟩⟩
set_option maxRecDepth 100000 in
set_option maxHeartbeats 4000000 in
theorem c_X11_writeSpaced (G : GL) (ex : Bool) (n : Nat) (σ : Nat → va_E) (F : Nat → Int32) (L : List Nat) (o : Nat → Nat) (x : Nat) (hc0 : σ 279 = o11 G F) (hc1 : σ 293 = q_an G 300 o) (hn : 294 ≤ n) (hF33 : F 33 = nI L.length) (hO : ∀ j : Nat, j < L.length → o j = L.getD j 0) (hx : x < 100) (hl : L.length + 3 ≤ 300) : Ct G yX11_writeSpaced cX11_writeSpaced 2 none ⟨2, 0, 0, 42⟩ [.ref (q_h G + 279), .int (nI (x))] ex n σ (fun v9 σ2 => v9 = none ∧ ∃ (L' : List Nat), ∃ (o' : Nat → Nat), (L' = L ++ ([32] ++ s_dg x)) ∧ (L'.length ≤ L.length + 3) ∧ (∀ j : Nat, j < L'.length → o' j = L'.getD j 0) ∧ σ2 279 = o11 G (upd F 33 (nI (L'.length))) ∧ σ2 293 = q_an G 300 o' ∧ (∀ i : Nat, i ≠ 279 ∧ i ≠ 293 → σ2 i = σ i)) := by
  refine q_enter [some (.ref (q_h G + 279)), some (.int (nI (x)))] (by decide) (Nat.le_of_ble_eq_true rfl) rfl ?_
  intro K hg
  obtain ⟨Q, hQ⟩ : ∃ Q, Q = q_Q G K ex n 0 0 (fun v9 n' σ' => n' = n ∧ (fun v9 σ2 => v9 = none ∧ ∃ (L' : List Nat), ∃ (o' : Nat → Nat), (L' = L ++ ([32] ++ s_dg x)) ∧ (L'.length ≤ L.length + 3) ∧ (∀ j : Nat, j < L'.length → o' j = L'.getD j 0) ∧ σ2 279 = o11 G (upd F 33 (nI (L'.length))) ∧ σ2 293 = q_an G 300 o' ∧ (∀ i : Nat, i ≠ 279 ∧ i ≠ 293 → σ2 i = σ i)) v9 σ') q_noX := ⟨_, rfl⟩
  refine (?_ : AJ G K (q_Q G K ex n 0 0 _ _) 0 0 ex n 0 _ _ σ)
  rw [← hQ]
  refine A_aload_n hg dX11_writeSpaced_0 rfl rfl ?_
  refine A_bipush (v := (nI (32))) hg dX11_writeSpaced_1 (by decide) ?_
  refine A_vV (kc2 := 0) (ks2 := 0) (As := [.int (nI (32))]) (rest := []) hg lk_RX11_475 in_X11_write se_X11_write rfl dX11_writeSpaced_3 ⟨by decide, by decide⟩ rfl rfl ⟨by decide, by decide⟩ hc0 (by omega) rfl rfl (Nat.le_of_ble_eq_true rfl) (c_X11_write G ex n σ F L o 32 hc0 hc1 (by omega) hF33 (by assumption) (by omega)) ?_
  rintro σ_4 ⟨L3, o3, hL3, hlen3, hO3, hc_1, hc_2, hf_3⟩
  have hc_1 : σ_4 279 = o11 G (upd F 33 (nI (L3.length))) := hc_1
  refine A_aload_n hg dX11_writeSpaced_6 rfl rfl ?_
  refine A_iload_n hg dX11_writeSpaced_7 rfl rfl ?_
  refine A_vV (kc2 := 0) (ks2 := 0) (As := [.int (nI (x))]) (rest := []) hg lk_RX11_478 in_X11_writeNumber se_X11_writeNumber rfl dX11_writeSpaced_8 ⟨by decide, by decide⟩ rfl rfl ⟨by decide, by decide⟩ hc_1 (by omega) rfl rfl (Nat.le_of_ble_eq_true rfl) (c_X11_writeNumber G ex n σ_4 (upd F 33 (nI (L3.length))) L3 o3 x hc_1 hc_2 (by omega) rfl (by assumption) (by omega) (by omega)) ?_
  rintro σ_8 ⟨L8, o8, hL8, hlen8, hO8, hc_5, hc_6, hf_7⟩
  have hc_5 : σ_8 279 = o11 G (upd F 33 (nI (L8.length))) := hc_5
  rw [hQ]
  exact A_return hg (by decide) (by decide) rfl dX11_writeSpaced_11 ⟨rfl, ⟨rfl, L8, o8, (by rw [hL8, hL3]; exact List.append_assoc _ _ _), (by omega), (by assumption), hc_5, hc_6, (fun i hi => ((hf_7 i (by omega)).trans (hf_3 i (by omega))))⟩⟩
end
