section
set_option maxRecDepth 100000 in
set_option maxHeartbeats 4000000 in
theorem c_X11_noRule (G : GL) (ex : Bool) (n : Nat) (σ : Nat → va_E) (F : Nat → Int32) (g : Nat → Nat) (v : Int32) (hc0 : σ 279 = o11 G F) (hc1 : σ 280 = q_an G 265 g) (hn : 294 ≤ n) (hnr : g 0 ≤ 4) : Ct G yX11_noRule cX11_noRule 2 (some .boolean) ⟨1, 0, 0, 22⟩ [.ref (q_h G + 279), .int (v)] ex n σ (fun v9 σ2 => (v9 = some (.int (nI (1))) ∧ (∀ j : Nat, j < g 0 → v = nI j → False) ∧ σ2 279 = o11 G (upd F 7 (nI (1))) ∧ (∀ i : Nat, i ≠ 279 → σ2 i = σ i)) ∨ (∃ (v1 : Nat), v9 = some (.int (nI (0))) ∧ (v = nI v1) ∧ (v1 < g 0) ∧ σ2 = σ)) := by
  refine q_enter [some (.ref (q_h G + 279)), some (.int (v))] (by decide) (Nat.le_of_ble_eq_true rfl) rfl ?_
  intro K hg
  obtain ⟨Q, hQ⟩ : ∃ Q, Q = q_Q G K ex n 0 0 (fun v9 n' σ' => n' = n ∧ (fun v9 σ2 => (v9 = some (.int (nI (1))) ∧ (∀ j : Nat, j < g 0 → v = nI j → False) ∧ σ2 279 = o11 G (upd F 7 (nI (1))) ∧ (∀ i : Nat, i ≠ 279 → σ2 i = σ i)) ∨ (∃ (v1 : Nat), v9 = some (.int (nI (0))) ∧ (v = nI v1) ∧ (v1 < g 0) ∧ σ2 = σ)) v9 σ') q_noX := ⟨_, rfl⟩
  refine (?_ : AJ G K (q_Q G K ex n 0 0 _ _) 0 0 ex n 0 _ _ σ)
  rw [← hQ]
  refine A_aload_n hg dX11_noRule_0 rfl rfl ?_
  refine A_iload_n hg dX11_noRule_1 rfl rfl ?_
  refine A_iconst (v := (nI (0))) hg dX11_noRule_2 (by decide) ?_
  refine A_aload_n hg dX11_noRule_3 rfl rfl ?_
  refine A_getf (v := .ref (q_h G + 280)) hg fl_RX11_7 dX11_noRule_4 hc0 (by omega) rfl ?_
  refine A_iconst (v := (nI (0))) hg dX11_noRule_7 (by decide) ?_
  refine A_iald (j := 0) hg dX11_noRule_8 hc1 (by omega) (by omega) (by decide) ?_
  refine A_iconst (v := (nI (1))) hg dX11_noRule_9 (by decide) ?_
  refine A_isub hg dX11_noRule_10 ?_
  refine A_eS (kc2 := 0) (ks2 := 0) (As := [.int (v), .int (nI (0)), .int ((nI (g 0)) - (nI (1)))]) (rest := [.ref (q_h G + 279)]) hg lk_RX11_77 st_X11_inRange dX11_noRule_11 ⟨by decide, by decide⟩ rfl rfl ⟨by decide, by decide⟩ rfl rfl (Nat.le_of_ble_eq_true rfl) (c_X11_inRange G ex n σ v (nI (0)) ((nI (g 0)) - (nI (1)))) ?_
  refine A_if_neB (tgt := 21) hg dX11_noRule_14 (by decide) (fun c14 => ?_) (fun c14 => ?_)
  · skip
    refine A_iconst (v := (nI (0))) hg dX11_noRule_21 (by decide) ?_
    refine A_iconst (v := (nI (1))) hg dX11_noRule_22 (by decide) ?_
    refine A_eV (kc2 := 0) (ks2 := 0) (As := [.int (nI (0)), .int (nI (1))]) (rest := []) hg lk_RX11_81 in_X11_fails se_X11_fails rfl dX11_noRule_23 ⟨by decide, by decide⟩ rfl rfl ⟨by decide, by decide⟩ hc0 (by omega) rfl rfl (Nat.le_of_ble_eq_true rfl) (c_X11_fails0 G ex n σ F (nI (1)) hc0 (by omega)) ?_
    obtain ⟨v1, hr1, hr2⟩ := q_below_t (by omega) c14
    rw [hQ]
    exact A_zreturn hg (by decide) (by decide) rfl rfl dX11_noRule_26 ⟨rfl, Or.inr ((⟨v1, rfl, (by first | rfl | assumption | omega), (by first | rfl | assumption | omega), rfl⟩))⟩
  · skip
    refine A_iconst (v := (nI (1))) hg dX11_noRule_17 (by decide) ?_
    refine A_goto (tgt := 22) hg dX11_noRule_18 (by decide) ?_
    refine A_iconst (v := (nI (1))) hg dX11_noRule_22 (by decide) ?_
    refine A_hV (kc2 := 0) (ks2 := 0) (As := [.int (nI (1)), .int (nI (1))]) (rest := []) hg lk_RX11_81 in_X11_fails se_X11_fails rfl dX11_noRule_23 ⟨by decide, by decide⟩ rfl rfl ⟨by decide, by decide⟩ hc0 (by omega) rfl rfl (Nat.le_of_ble_eq_true rfl) (c_X11_fails1 G ex n σ F 1 hc0 (by omega)) ?_
    rintro _ σ_3 ⟨rfl, hc_1, hf_2⟩
    refine (?_ : AJ G K Q 0 0 ex n 26 [some (.ref (q_h G + 279)), some (.int (v))] [.int (nI (1))] σ_3)
    have hc_1 : σ_3 279 = o11 G (upd F 7 (nI (1))) := hc_1
    have hc_4 : σ_3 280 = q_an G 265 g := (hf_2 _ (by omega)).trans hc1
    rw [hQ]
    exact A_zreturn hg (by decide) (by decide) rfl rfl dX11_noRule_26 ⟨rfl, Or.inl (⟨rfl, (q_below_f (by omega) c14), hc_1, (fun i hi => (hf_2 i (by omega)))⟩)⟩
set_option maxRecDepth 100000 in
set_option maxHeartbeats 4000000 in
theorem c_X11_noPart (G : GL) (ex : Bool) (n : Nat) (σ : Nat → va_E) (F : Nat → Int32) (g : Nat → Nat) (v : Int32) (hc0 : σ 279 = o11 G F) (hc1 : σ 280 = q_an G 265 g) (hn : 294 ≤ n) (hnp8 : s_np g ≤ 8) : Ct G yX11_noPart cX11_noPart 2 (some .boolean) ⟨1, 0, 0, 22⟩ [.ref (q_h G + 279), .int (v)] ex n σ (fun v9 σ2 => (v9 = some (.int (nI (1))) ∧ (∀ j : Nat, j < s_np g → v = nI j → False) ∧ σ2 279 = o11 G (upd F 7 (nI (1))) ∧ (∀ i : Nat, i ≠ 279 → σ2 i = σ i)) ∨ (∃ (v1 : Nat), v9 = some (.int (nI (0))) ∧ (v = nI v1) ∧ (v1 < s_np g) ∧ σ2 = σ)) := by
  refine q_enter [some (.ref (q_h G + 279)), some (.int (v))] (by decide) (Nat.le_of_ble_eq_true rfl) rfl ?_
  intro K hg
  obtain ⟨Q, hQ⟩ : ∃ Q, Q = q_Q G K ex n 0 0 (fun v9 n' σ' => n' = n ∧ (fun v9 σ2 => (v9 = some (.int (nI (1))) ∧ (∀ j : Nat, j < s_np g → v = nI j → False) ∧ σ2 279 = o11 G (upd F 7 (nI (1))) ∧ (∀ i : Nat, i ≠ 279 → σ2 i = σ i)) ∨ (∃ (v1 : Nat), v9 = some (.int (nI (0))) ∧ (v = nI v1) ∧ (v1 < s_np g) ∧ σ2 = σ)) v9 σ') q_noX := ⟨_, rfl⟩
  refine (?_ : AJ G K (q_Q G K ex n 0 0 _ _) 0 0 ex n 0 _ _ σ)
  rw [← hQ]
  refine A_aload_n hg dX11_noPart_0 rfl rfl ?_
  refine A_iload_n hg dX11_noPart_1 rfl rfl ?_
  refine A_iconst (v := (nI (0))) hg dX11_noPart_2 (by decide) ?_
  refine A_aload_n hg dX11_noPart_3 rfl rfl ?_
  refine A_eV (kc2 := 0) (ks2 := 0) (As := []) (rest := [.int (nI (0)), .int (v), .ref (q_h G + 279)]) hg lk_RX11_179 in_X11_parts se_X11_parts rfl dX11_noPart_4 ⟨by decide, by decide⟩ rfl rfl ⟨by decide, by decide⟩ hc0 (by omega) rfl rfl (Nat.le_of_ble_eq_true rfl) (c_X11_parts G ex n σ F g hc0 hc1 (by omega)) ?_
  refine A_iconst (v := (nI (1))) hg dX11_noPart_7 (by decide) ?_
  refine A_isub hg dX11_noPart_8 ?_
  refine A_eS (kc2 := 0) (ks2 := 0) (As := [.int (v), .int (nI (0)), .int ((nI (s_np g)) - (nI (1)))]) (rest := [.ref (q_h G + 279)]) hg lk_RX11_77 st_X11_inRange dX11_noPart_9 ⟨by decide, by decide⟩ rfl rfl ⟨by decide, by decide⟩ rfl rfl (Nat.le_of_ble_eq_true rfl) (c_X11_inRange G ex n σ v (nI (0)) ((nI (s_np g)) - (nI (1)))) ?_
  refine A_if_neB (tgt := 19) hg dX11_noPart_12 (by decide) (fun c12 => ?_) (fun c12 => ?_)
  · skip
    refine A_iconst (v := (nI (0))) hg dX11_noPart_19 (by decide) ?_
    refine A_iconst (v := (nI (1))) hg dX11_noPart_20 (by decide) ?_
    refine A_eV (kc2 := 0) (ks2 := 0) (As := [.int (nI (0)), .int (nI (1))]) (rest := []) hg lk_RX11_81 in_X11_fails se_X11_fails rfl dX11_noPart_21 ⟨by decide, by decide⟩ rfl rfl ⟨by decide, by decide⟩ hc0 (by omega) rfl rfl (Nat.le_of_ble_eq_true rfl) (c_X11_fails0 G ex n σ F (nI (1)) hc0 (by omega)) ?_
    obtain ⟨v1, hr1, hr2⟩ := q_below_t (by omega) c12
    rw [hQ]
    exact A_zreturn hg (by decide) (by decide) rfl rfl dX11_noPart_24 ⟨rfl, Or.inr ((⟨v1, rfl, (by first | rfl | assumption | omega), (by first | rfl | assumption | omega), rfl⟩))⟩
  · skip
    refine A_iconst (v := (nI (1))) hg dX11_noPart_15 (by decide) ?_
    refine A_goto (tgt := 20) hg dX11_noPart_16 (by decide) ?_
    refine A_iconst (v := (nI (1))) hg dX11_noPart_20 (by decide) ?_
    refine A_hV (kc2 := 0) (ks2 := 0) (As := [.int (nI (1)), .int (nI (1))]) (rest := []) hg lk_RX11_81 in_X11_fails se_X11_fails rfl dX11_noPart_21 ⟨by decide, by decide⟩ rfl rfl ⟨by decide, by decide⟩ hc0 (by omega) rfl rfl (Nat.le_of_ble_eq_true rfl) (c_X11_fails1 G ex n σ F 1 hc0 (by omega)) ?_
    rintro _ σ_3 ⟨rfl, hc_1, hf_2⟩
    refine (?_ : AJ G K Q 0 0 ex n 24 [some (.ref (q_h G + 279)), some (.int (v))] [.int (nI (1))] σ_3)
    have hc_1 : σ_3 279 = o11 G (upd F 7 (nI (1))) := hc_1
    have hc_4 : σ_3 280 = q_an G 265 g := (hf_2 _ (by omega)).trans hc1
    rw [hQ]
    exact A_zreturn hg (by decide) (by decide) rfl rfl dX11_noPart_24 ⟨rfl, Or.inl (⟨rfl, (q_below_f (by omega) c12), hc_1, (fun i hi => (hf_2 i (by omega)))⟩)⟩
set_option maxRecDepth 100000 in
set_option maxHeartbeats 4000000 in
theorem c_X11_noSlack (G : GL) (ex : Bool) (n : Nat) (σ : Nat → va_E) (F : Nat → Int32) (v : Int32) (hc0 : σ 279 = o11 G F) (hn : 294 ≤ n) : Ct G yX11_noSlack cX11_noSlack 2 (some .boolean) ⟨1, 0, 0, 22⟩ [.ref (q_h G + 279), .int (v)] ex n σ (fun v9 σ2 => (v9 = some (.int (nI (1))) ∧ (∀ j : Nat, 1 ≤ j → j ≤ 5 → v = nI j → False) ∧ σ2 279 = o11 G (upd F 7 (nI (1))) ∧ (∀ i : Nat, i ≠ 279 → σ2 i = σ i)) ∨ (∃ (v1 : Nat), v9 = some (.int (nI (0))) ∧ (v = nI v1) ∧ (1 ≤ v1) ∧ (v1 ≤ 5) ∧ σ2 = σ)) := by
  refine q_enter [some (.ref (q_h G + 279)), some (.int (v))] (by decide) (Nat.le_of_ble_eq_true rfl) rfl ?_
  intro K hg
  obtain ⟨Q, hQ⟩ : ∃ Q, Q = q_Q G K ex n 0 0 (fun v9 n' σ' => n' = n ∧ (fun v9 σ2 => (v9 = some (.int (nI (1))) ∧ (∀ j : Nat, 1 ≤ j → j ≤ 5 → v = nI j → False) ∧ σ2 279 = o11 G (upd F 7 (nI (1))) ∧ (∀ i : Nat, i ≠ 279 → σ2 i = σ i)) ∨ (∃ (v1 : Nat), v9 = some (.int (nI (0))) ∧ (v = nI v1) ∧ (1 ≤ v1) ∧ (v1 ≤ 5) ∧ σ2 = σ)) v9 σ') q_noX := ⟨_, rfl⟩
  refine (?_ : AJ G K (q_Q G K ex n 0 0 _ _) 0 0 ex n 0 _ _ σ)
  rw [← hQ]
  refine A_aload_n hg dX11_noSlack_0 rfl rfl ?_
  refine A_iload_n hg dX11_noSlack_1 rfl rfl ?_
  refine A_iconst (v := (nI (1))) hg dX11_noSlack_2 (by decide) ?_
  refine A_iconst (v := (nI (5))) hg dX11_noSlack_3 (by decide) ?_
  refine A_eS (kc2 := 0) (ks2 := 0) (As := [.int (v), .int (nI (1)), .int (nI (5))]) (rest := [.ref (q_h G + 279)]) hg lk_RX11_77 st_X11_inRange dX11_noSlack_4 ⟨by decide, by decide⟩ rfl rfl ⟨by decide, by decide⟩ rfl rfl (Nat.le_of_ble_eq_true rfl) (c_X11_inRange G ex n σ v (nI (1)) (nI (5))) ?_
  refine A_if_neB (tgt := 14) hg dX11_noSlack_7 (by decide) (fun c7 => ?_) (fun c7 => ?_)
  · skip
    refine A_iconst (v := (nI (0))) hg dX11_noSlack_14 (by decide) ?_
    refine A_iconst (v := (nI (1))) hg dX11_noSlack_15 (by decide) ?_
    refine A_eV (kc2 := 0) (ks2 := 0) (As := [.int (nI (0)), .int (nI (1))]) (rest := []) hg lk_RX11_81 in_X11_fails se_X11_fails rfl dX11_noSlack_16 ⟨by decide, by decide⟩ rfl rfl ⟨by decide, by decide⟩ hc0 (by omega) rfl rfl (Nat.le_of_ble_eq_true rfl) (c_X11_fails0 G ex n σ F (nI (1)) hc0 (by omega)) ?_
    obtain ⟨v1, hr1, hr2, hr3⟩ := q_in_nat (by decide) c7 (by decide)
    rw [hQ]
    exact A_zreturn hg (by decide) (by decide) rfl rfl dX11_noSlack_19 ⟨rfl, Or.inr ((⟨v1, rfl, (by first | rfl | assumption | omega), (by first | rfl | assumption | omega), (by first | rfl | assumption | omega), rfl⟩))⟩
  · skip
    refine A_iconst (v := (nI (1))) hg dX11_noSlack_10 (by decide) ?_
    refine A_goto (tgt := 15) hg dX11_noSlack_11 (by decide) ?_
    refine A_iconst (v := (nI (1))) hg dX11_noSlack_15 (by decide) ?_
    refine A_hV (kc2 := 0) (ks2 := 0) (As := [.int (nI (1)), .int (nI (1))]) (rest := []) hg lk_RX11_81 in_X11_fails se_X11_fails rfl dX11_noSlack_16 ⟨by decide, by decide⟩ rfl rfl ⟨by decide, by decide⟩ hc0 (by omega) rfl rfl (Nat.le_of_ble_eq_true rfl) (c_X11_fails1 G ex n σ F 1 hc0 (by omega)) ?_
    rintro _ σ_3 ⟨rfl, hc_1, hf_2⟩
    refine (?_ : AJ G K Q 0 0 ex n 19 [some (.ref (q_h G + 279)), some (.int (v))] [.int (nI (1))] σ_3)
    have hc_1 : σ_3 279 = o11 G (upd F 7 (nI (1))) := hc_1
    rw [hQ]
    exact A_zreturn hg (by decide) (by decide) rfl rfl dX11_noSlack_19 ⟨rfl, Or.inl (⟨rfl, (q_range_f (by decide) c7), hc_1, (fun i hi => (hf_2 i (by omega)))⟩)⟩
set_option maxRecDepth 100000 in
set_option maxHeartbeats 4000000 in
theorem c_X11_noPlayer (G : GL) (ex : Bool) (n : Nat) (σ : Nat → va_E) (F : Nat → Int32) (v : Int32) (hc0 : σ 279 = o11 G F) (hn : 294 ≤ n) : Ct G yX11_noPlayer cX11_noPlayer 2 (some .boolean) ⟨1, 0, 0, 22⟩ [.ref (q_h G + 279), .int (v)] ex n σ (fun v9 σ2 => (v9 = some (.int (nI (1))) ∧ (∀ j : Nat, 0 ≤ j → j ≤ 1 → v = nI j → False) ∧ σ2 279 = o11 G (upd F 7 (nI (1))) ∧ (∀ i : Nat, i ≠ 279 → σ2 i = σ i)) ∨ (∃ (v1 : Nat), v9 = some (.int (nI (0))) ∧ (v = nI v1) ∧ (0 ≤ v1) ∧ (v1 ≤ 1) ∧ σ2 = σ)) := by
  refine q_enter [some (.ref (q_h G + 279)), some (.int (v))] (by decide) (Nat.le_of_ble_eq_true rfl) rfl ?_
  intro K hg
  obtain ⟨Q, hQ⟩ : ∃ Q, Q = q_Q G K ex n 0 0 (fun v9 n' σ' => n' = n ∧ (fun v9 σ2 => (v9 = some (.int (nI (1))) ∧ (∀ j : Nat, 0 ≤ j → j ≤ 1 → v = nI j → False) ∧ σ2 279 = o11 G (upd F 7 (nI (1))) ∧ (∀ i : Nat, i ≠ 279 → σ2 i = σ i)) ∨ (∃ (v1 : Nat), v9 = some (.int (nI (0))) ∧ (v = nI v1) ∧ (0 ≤ v1) ∧ (v1 ≤ 1) ∧ σ2 = σ)) v9 σ') q_noX := ⟨_, rfl⟩
  refine (?_ : AJ G K (q_Q G K ex n 0 0 _ _) 0 0 ex n 0 _ _ σ)
  rw [← hQ]
  refine A_aload_n hg dX11_noPlayer_0 rfl rfl ?_
  refine A_iload_n hg dX11_noPlayer_1 rfl rfl ?_
  refine A_iconst (v := (nI (0))) hg dX11_noPlayer_2 (by decide) ?_
  refine A_iconst (v := (nI (1))) hg dX11_noPlayer_3 (by decide) ?_
  refine A_eS (kc2 := 0) (ks2 := 0) (As := [.int (v), .int (nI (0)), .int (nI (1))]) (rest := [.ref (q_h G + 279)]) hg lk_RX11_77 st_X11_inRange dX11_noPlayer_4 ⟨by decide, by decide⟩ rfl rfl ⟨by decide, by decide⟩ rfl rfl (Nat.le_of_ble_eq_true rfl) (c_X11_inRange G ex n σ v (nI (0)) (nI (1))) ?_
  refine A_if_neB (tgt := 14) hg dX11_noPlayer_7 (by decide) (fun c7 => ?_) (fun c7 => ?_)
  · skip
    refine A_iconst (v := (nI (0))) hg dX11_noPlayer_14 (by decide) ?_
    refine A_iconst (v := (nI (1))) hg dX11_noPlayer_15 (by decide) ?_
    refine A_eV (kc2 := 0) (ks2 := 0) (As := [.int (nI (0)), .int (nI (1))]) (rest := []) hg lk_RX11_81 in_X11_fails se_X11_fails rfl dX11_noPlayer_16 ⟨by decide, by decide⟩ rfl rfl ⟨by decide, by decide⟩ hc0 (by omega) rfl rfl (Nat.le_of_ble_eq_true rfl) (c_X11_fails0 G ex n σ F (nI (1)) hc0 (by omega)) ?_
    obtain ⟨v1, hr1, hr2, hr3⟩ := q_in_nat (by decide) c7 (by decide)
    rw [hQ]
    exact A_zreturn hg (by decide) (by decide) rfl rfl dX11_noPlayer_19 ⟨rfl, Or.inr ((⟨v1, rfl, (by first | rfl | assumption | omega), (by first | rfl | assumption | omega), (by first | rfl | assumption | omega), rfl⟩))⟩
  · skip
    refine A_iconst (v := (nI (1))) hg dX11_noPlayer_10 (by decide) ?_
    refine A_goto (tgt := 15) hg dX11_noPlayer_11 (by decide) ?_
    refine A_iconst (v := (nI (1))) hg dX11_noPlayer_15 (by decide) ?_
    refine A_hV (kc2 := 0) (ks2 := 0) (As := [.int (nI (1)), .int (nI (1))]) (rest := []) hg lk_RX11_81 in_X11_fails se_X11_fails rfl dX11_noPlayer_16 ⟨by decide, by decide⟩ rfl rfl ⟨by decide, by decide⟩ hc0 (by omega) rfl rfl (Nat.le_of_ble_eq_true rfl) (c_X11_fails1 G ex n σ F 1 hc0 (by omega)) ?_
    rintro _ σ_3 ⟨rfl, hc_1, hf_2⟩
    refine (?_ : AJ G K Q 0 0 ex n 19 [some (.ref (q_h G + 279)), some (.int (v))] [.int (nI (1))] σ_3)
    have hc_1 : σ_3 279 = o11 G (upd F 7 (nI (1))) := hc_1
    rw [hQ]
    exact A_zreturn hg (by decide) (by decide) rfl rfl dX11_noPlayer_19 ⟨rfl, Or.inl (⟨rfl, (q_range_f (by decide) c7), hc_1, (fun i hi => (hf_2 i (by omega)))⟩)⟩
set_option maxRecDepth 100000 in
set_option maxHeartbeats 4000000 in
theorem c_X11_noSlot (G : GL) (ex : Bool) (n : Nat) (σ : Nat → va_E) (F : Nat → Int32) (v : Int32) (hc0 : σ 279 = o11 G F) (hn : 294 ≤ n) : Ct G yX11_noSlot cX11_noSlot 2 (some .boolean) ⟨1, 0, 0, 22⟩ [.ref (q_h G + 279), .int (v)] ex n σ (fun v9 σ2 => (v9 = some (.int (nI (1))) ∧ (∀ j : Nat, 0 ≤ j → j ≤ 1 → v = nI j → False) ∧ σ2 279 = o11 G (upd F 7 (nI (1))) ∧ (∀ i : Nat, i ≠ 279 → σ2 i = σ i)) ∨ (∃ (v1 : Nat), v9 = some (.int (nI (0))) ∧ (v = nI v1) ∧ (0 ≤ v1) ∧ (v1 ≤ 1) ∧ σ2 = σ)) := by
  refine q_enter [some (.ref (q_h G + 279)), some (.int (v))] (by decide) (Nat.le_of_ble_eq_true rfl) rfl ?_
  intro K hg
  obtain ⟨Q, hQ⟩ : ∃ Q, Q = q_Q G K ex n 0 0 (fun v9 n' σ' => n' = n ∧ (fun v9 σ2 => (v9 = some (.int (nI (1))) ∧ (∀ j : Nat, 0 ≤ j → j ≤ 1 → v = nI j → False) ∧ σ2 279 = o11 G (upd F 7 (nI (1))) ∧ (∀ i : Nat, i ≠ 279 → σ2 i = σ i)) ∨ (∃ (v1 : Nat), v9 = some (.int (nI (0))) ∧ (v = nI v1) ∧ (0 ≤ v1) ∧ (v1 ≤ 1) ∧ σ2 = σ)) v9 σ') q_noX := ⟨_, rfl⟩
  refine (?_ : AJ G K (q_Q G K ex n 0 0 _ _) 0 0 ex n 0 _ _ σ)
  rw [← hQ]
  refine A_aload_n hg dX11_noSlot_0 rfl rfl ?_
  refine A_iload_n hg dX11_noSlot_1 rfl rfl ?_
  refine A_iconst (v := (nI (0))) hg dX11_noSlot_2 (by decide) ?_
  refine A_iconst (v := (nI (1))) hg dX11_noSlot_3 (by decide) ?_
  refine A_eS (kc2 := 0) (ks2 := 0) (As := [.int (v), .int (nI (0)), .int (nI (1))]) (rest := [.ref (q_h G + 279)]) hg lk_RX11_77 st_X11_inRange dX11_noSlot_4 ⟨by decide, by decide⟩ rfl rfl ⟨by decide, by decide⟩ rfl rfl (Nat.le_of_ble_eq_true rfl) (c_X11_inRange G ex n σ v (nI (0)) (nI (1))) ?_
  refine A_if_neB (tgt := 14) hg dX11_noSlot_7 (by decide) (fun c7 => ?_) (fun c7 => ?_)
  · skip
    refine A_iconst (v := (nI (0))) hg dX11_noSlot_14 (by decide) ?_
    refine A_iconst (v := (nI (1))) hg dX11_noSlot_15 (by decide) ?_
    refine A_eV (kc2 := 0) (ks2 := 0) (As := [.int (nI (0)), .int (nI (1))]) (rest := []) hg lk_RX11_81 in_X11_fails se_X11_fails rfl dX11_noSlot_16 ⟨by decide, by decide⟩ rfl rfl ⟨by decide, by decide⟩ hc0 (by omega) rfl rfl (Nat.le_of_ble_eq_true rfl) (c_X11_fails0 G ex n σ F (nI (1)) hc0 (by omega)) ?_
    obtain ⟨v1, hr1, hr2, hr3⟩ := q_in_nat (by decide) c7 (by decide)
    rw [hQ]
    exact A_zreturn hg (by decide) (by decide) rfl rfl dX11_noSlot_19 ⟨rfl, Or.inr ((⟨v1, rfl, (by first | rfl | assumption | omega), (by first | rfl | assumption | omega), (by first | rfl | assumption | omega), rfl⟩))⟩
  · skip
    refine A_iconst (v := (nI (1))) hg dX11_noSlot_10 (by decide) ?_
    refine A_goto (tgt := 15) hg dX11_noSlot_11 (by decide) ?_
    refine A_iconst (v := (nI (1))) hg dX11_noSlot_15 (by decide) ?_
    refine A_hV (kc2 := 0) (ks2 := 0) (As := [.int (nI (1)), .int (nI (1))]) (rest := []) hg lk_RX11_81 in_X11_fails se_X11_fails rfl dX11_noSlot_16 ⟨by decide, by decide⟩ rfl rfl ⟨by decide, by decide⟩ hc0 (by omega) rfl rfl (Nat.le_of_ble_eq_true rfl) (c_X11_fails1 G ex n σ F 1 hc0 (by omega)) ?_
    rintro _ σ_3 ⟨rfl, hc_1, hf_2⟩
    refine (?_ : AJ G K Q 0 0 ex n 19 [some (.ref (q_h G + 279)), some (.int (v))] [.int (nI (1))] σ_3)
    have hc_1 : σ_3 279 = o11 G (upd F 7 (nI (1))) := hc_1
    rw [hQ]
    exact A_zreturn hg (by decide) (by decide) rfl rfl dX11_noSlot_19 ⟨rfl, Or.inl (⟨rfl, (q_range_f (by decide) c7), hc_1, (fun i hi => (hf_2 i (by omega)))⟩)⟩
set_option maxRecDepth 100000 in
set_option maxHeartbeats 4000000 in
theorem c_X11_noNumber (G : GL) (ex : Bool) (n : Nat) (σ : Nat → va_E) (F : Nat → Int32) (v : Int32) (a : Nat) (b : Nat) (hc0 : σ 279 = o11 G F) (hn : 294 ≤ n) (ha : a < 2 ^ 31) (hb : b < 2 ^ 31) : Ct G yX11_noNumber cX11_noNumber 4 (some .boolean) ⟨1, 0, 0, 22⟩ [.ref (q_h G + 279), .int (v), .int (nI (a)), .int (nI (b))] ex n σ (fun v9 σ2 => (v9 = some (.int (nI (1))) ∧ (∀ j : Nat, a ≤ j → j ≤ b → v = nI j → False) ∧ σ2 279 = o11 G (upd F 7 (nI (1))) ∧ (∀ i : Nat, i ≠ 279 → σ2 i = σ i)) ∨ (∃ (v1 : Nat), v9 = some (.int (nI (0))) ∧ (v = nI v1) ∧ (a ≤ v1) ∧ (v1 ≤ b) ∧ σ2 = σ)) := by
  refine q_enter [some (.ref (q_h G + 279)), some (.int (v)), some (.int (nI (a))), some (.int (nI (b)))] (by decide) (Nat.le_of_ble_eq_true rfl) rfl ?_
  intro K hg
  obtain ⟨Q, hQ⟩ : ∃ Q, Q = q_Q G K ex n 0 0 (fun v9 n' σ' => n' = n ∧ (fun v9 σ2 => (v9 = some (.int (nI (1))) ∧ (∀ j : Nat, a ≤ j → j ≤ b → v = nI j → False) ∧ σ2 279 = o11 G (upd F 7 (nI (1))) ∧ (∀ i : Nat, i ≠ 279 → σ2 i = σ i)) ∨ (∃ (v1 : Nat), v9 = some (.int (nI (0))) ∧ (v = nI v1) ∧ (a ≤ v1) ∧ (v1 ≤ b) ∧ σ2 = σ)) v9 σ') q_noX := ⟨_, rfl⟩
  refine (?_ : AJ G K (q_Q G K ex n 0 0 _ _) 0 0 ex n 0 _ _ σ)
  rw [← hQ]
  refine A_aload_n hg dX11_noNumber_0 rfl rfl ?_
  refine A_iload_n hg dX11_noNumber_1 rfl rfl ?_
  refine A_iload_n hg dX11_noNumber_2 rfl rfl ?_
  refine A_iload_n hg dX11_noNumber_3 rfl rfl ?_
  refine A_eS (kc2 := 0) (ks2 := 0) (As := [.int (v), .int (nI (a)), .int (nI (b))]) (rest := [.ref (q_h G + 279)]) hg lk_RX11_77 st_X11_inRange dX11_noNumber_4 ⟨by decide, by decide⟩ rfl rfl ⟨by decide, by decide⟩ rfl rfl (Nat.le_of_ble_eq_true rfl) (c_X11_inRange G ex n σ v (nI (a)) (nI (b))) ?_
  refine A_if_neB (tgt := 14) hg dX11_noNumber_7 (by decide) (fun c7 => ?_) (fun c7 => ?_)
  · skip
    refine A_iconst (v := (nI (0))) hg dX11_noNumber_14 (by decide) ?_
    refine A_iconst (v := (nI (1))) hg dX11_noNumber_15 (by decide) ?_
    refine A_eV (kc2 := 0) (ks2 := 0) (As := [.int (nI (0)), .int (nI (1))]) (rest := []) hg lk_RX11_81 in_X11_fails se_X11_fails rfl dX11_noNumber_16 ⟨by decide, by decide⟩ rfl rfl ⟨by decide, by decide⟩ hc0 (by omega) rfl rfl (Nat.le_of_ble_eq_true rfl) (c_X11_fails0 G ex n σ F (nI (1)) hc0 (by omega)) ?_
    obtain ⟨v1, hr1, hr2, hr3⟩ := q_in_nat hb c7 ha
    rw [hQ]
    exact A_zreturn hg (by decide) (by decide) rfl rfl dX11_noNumber_19 ⟨rfl, Or.inr ((⟨v1, rfl, (by first | rfl | assumption | omega), (by first | rfl | assumption | omega), (by first | rfl | assumption | omega), rfl⟩))⟩
  · skip
    refine A_iconst (v := (nI (1))) hg dX11_noNumber_10 (by decide) ?_
    refine A_goto (tgt := 15) hg dX11_noNumber_11 (by decide) ?_
    refine A_iconst (v := (nI (1))) hg dX11_noNumber_15 (by decide) ?_
    refine A_hV (kc2 := 0) (ks2 := 0) (As := [.int (nI (1)), .int (nI (1))]) (rest := []) hg lk_RX11_81 in_X11_fails se_X11_fails rfl dX11_noNumber_16 ⟨by decide, by decide⟩ rfl rfl ⟨by decide, by decide⟩ hc0 (by omega) rfl rfl (Nat.le_of_ble_eq_true rfl) (c_X11_fails1 G ex n σ F 1 hc0 (by omega)) ?_
    rintro _ σ_3 ⟨rfl, hc_1, hf_2⟩
    refine (?_ : AJ G K Q 0 0 ex n 19 [some (.ref (q_h G + 279)), some (.int (v)), some (.int (nI (a))), some (.int (nI (b)))] [.int (nI (1))] σ_3)
    have hc_1 : σ_3 279 = o11 G (upd F 7 (nI (1))) := hc_1
    rw [hQ]
    exact A_zreturn hg (by decide) (by decide) rfl rfl dX11_noNumber_19 ⟨rfl, Or.inl (⟨rfl, (q_range_f hb c7), hc_1, (fun i hi => (hf_2 i (by omega)))⟩)⟩
set_option maxRecDepth 100000 in
set_option maxHeartbeats 4000000 in
theorem c_X11_noPair (G : GL) (ex : Bool) (n : Nat) (σ : Nat → va_E) (F : Nat → Int32) (k : Int32) (l : Int32) (hc0 : σ 279 = o11 G F) (hn : 294 ≤ n) : Ct G yX11_noPair cX11_noPair 3 (some .boolean) ⟨1, 0, 0, 22⟩ [.ref (q_h G + 279), .int (k), .int (l)] ex n σ (fun v9 σ2 => (v9 = some (.int (nI (1))) ∧ (∀ a b : Nat, a ≤ 40 → b ≤ 40 → k = nI a → l = nI b → False) ∧ σ2 279 = o11 G (upd F 7 (nI (2))) ∧ (∀ i : Nat, i ≠ 279 → σ2 i = σ i)) ∨ (∃ (a1 : Nat), ∃ (b1 : Nat), v9 = some (.int (nI (0))) ∧ (k = nI a1) ∧ (l = nI b1) ∧ (a1 ≤ 40) ∧ (b1 ≤ 40) ∧ σ2 = σ)) := by
  refine q_enter [some (.ref (q_h G + 279)), some (.int (k)), some (.int (l))] (by decide) (Nat.le_of_ble_eq_true rfl) rfl ?_
  intro K hg
  obtain ⟨Q, hQ⟩ : ∃ Q, Q = q_Q G K ex n 0 0 (fun v9 n' σ' => n' = n ∧ (fun v9 σ2 => (v9 = some (.int (nI (1))) ∧ (∀ a b : Nat, a ≤ 40 → b ≤ 40 → k = nI a → l = nI b → False) ∧ σ2 279 = o11 G (upd F 7 (nI (2))) ∧ (∀ i : Nat, i ≠ 279 → σ2 i = σ i)) ∨ (∃ (a1 : Nat), ∃ (b1 : Nat), v9 = some (.int (nI (0))) ∧ (k = nI a1) ∧ (l = nI b1) ∧ (a1 ≤ 40) ∧ (b1 ≤ 40) ∧ σ2 = σ)) v9 σ') q_noX := ⟨_, rfl⟩
  refine (?_ : AJ G K (q_Q G K ex n 0 0 _ _) 0 0 ex n 0 _ _ σ)
  rw [← hQ]
  refine A_aload_n hg dX11_noPair_0 rfl rfl ?_
  refine A_iload_n hg dX11_noPair_1 rfl rfl ?_
  refine A_iconst (v := (nI (0))) hg dX11_noPair_2 (by decide) ?_
  refine A_bipush (v := (nI (40))) hg dX11_noPair_3 (by decide) ?_
  refine A_eS (kc2 := 0) (ks2 := 0) (As := [.int (k), .int (nI (0)), .int (nI (40))]) (rest := [.ref (q_h G + 279)]) hg lk_RX11_77 st_X11_inRange dX11_noPair_5 ⟨by decide, by decide⟩ rfl rfl ⟨by decide, by decide⟩ rfl rfl (Nat.le_of_ble_eq_true rfl) (c_X11_inRange G ex n σ k (nI (0)) (nI (40))) ?_
  refine A_if_eqB (tgt := 21) hg dX11_noPair_8 (by decide) (fun c8 => ?_) (fun c8 => ?_)
  · skip
    refine A_iconst (v := (nI (1))) hg dX11_noPair_21 (by decide) ?_
    refine A_goto (tgt := 26) hg dX11_noPair_22 (by decide) ?_
    refine A_iconst (v := (nI (2))) hg dX11_noPair_26 (by decide) ?_
    refine A_hV (kc2 := 0) (ks2 := 0) (As := [.int (nI (1)), .int (nI (2))]) (rest := []) hg lk_RX11_81 in_X11_fails se_X11_fails rfl dX11_noPair_27 ⟨by decide, by decide⟩ rfl rfl ⟨by decide, by decide⟩ hc0 (by omega) rfl rfl (Nat.le_of_ble_eq_true rfl) (c_X11_fails1 G ex n σ F 2 hc0 (by omega)) ?_
    rintro _ σ_3 ⟨rfl, hc_1, hf_2⟩
    refine (?_ : AJ G K Q 0 0 ex n 30 [some (.ref (q_h G + 279)), some (.int (k)), some (.int (l))] [.int (nI (1))] σ_3)
    have hc_1 : σ_3 279 = o11 G (upd F 7 (nI (2))) := hc_1
    rw [hQ]
    exact A_zreturn hg (by decide) (by decide) rfl rfl dX11_noPair_30 ⟨rfl, Or.inl (⟨rfl, (q_pair_f (by decide) (by first | exact Or.inl c8 | exact Or.inr c18)), hc_1, (fun i hi => (hf_2 i (by omega)))⟩)⟩
  · skip
    refine A_iload_n hg dX11_noPair_11 rfl rfl ?_
    refine A_iconst (v := (nI (0))) hg dX11_noPair_12 (by decide) ?_
    refine A_bipush (v := (nI (40))) hg dX11_noPair_13 (by decide) ?_
    refine A_eS (kc2 := 0) (ks2 := 0) (As := [.int (l), .int (nI (0)), .int (nI (40))]) (rest := [.ref (q_h G + 279)]) hg lk_RX11_77 st_X11_inRange dX11_noPair_15 ⟨by decide, by decide⟩ rfl rfl ⟨by decide, by decide⟩ rfl rfl (Nat.le_of_ble_eq_true rfl) (c_X11_inRange G ex n σ l (nI (0)) (nI (40))) ?_
    refine A_if_neB (tgt := 25) hg dX11_noPair_18 (by decide) (fun c18 => ?_) (fun c18 => ?_)
    · skip
      refine A_iconst (v := (nI (0))) hg dX11_noPair_25 (by decide) ?_
      refine A_iconst (v := (nI (2))) hg dX11_noPair_26 (by decide) ?_
      refine A_eV (kc2 := 0) (ks2 := 0) (As := [.int (nI (0)), .int (nI (2))]) (rest := []) hg lk_RX11_81 in_X11_fails se_X11_fails rfl dX11_noPair_27 ⟨by decide, by decide⟩ rfl rfl ⟨by decide, by decide⟩ hc0 (by omega) rfl rfl (Nat.le_of_ble_eq_true rfl) (c_X11_fails0 G ex n σ F (nI (2)) hc0 (by omega)) ?_
      obtain ⟨a1, hr1, -, hr3⟩ := q_in_nat (by decide) c8 (by decide)
      obtain ⟨b1, hq1, -, hq3⟩ := q_in_nat (by decide) c18 (by decide)
      rw [hQ]
      exact A_zreturn hg (by decide) (by decide) rfl rfl dX11_noPair_30 ⟨rfl, Or.inr ((⟨a1, b1, rfl, (by first | rfl | assumption | omega), (by first | rfl | assumption | omega), (by first | rfl | assumption | omega), (by first | rfl | assumption | omega), rfl⟩))⟩
    · skip
      refine A_iconst (v := (nI (1))) hg dX11_noPair_21 (by decide) ?_
      refine A_goto (tgt := 26) hg dX11_noPair_22 (by decide) ?_
      refine A_iconst (v := (nI (2))) hg dX11_noPair_26 (by decide) ?_
      refine A_hV (kc2 := 0) (ks2 := 0) (As := [.int (nI (1)), .int (nI (2))]) (rest := []) hg lk_RX11_81 in_X11_fails se_X11_fails rfl dX11_noPair_27 ⟨by decide, by decide⟩ rfl rfl ⟨by decide, by decide⟩ hc0 (by omega) rfl rfl (Nat.le_of_ble_eq_true rfl) (c_X11_fails1 G ex n σ F 2 hc0 (by omega)) ?_
      rintro _ σ_6 ⟨rfl, hc_4, hf_5⟩
      refine (?_ : AJ G K Q 0 0 ex n 30 [some (.ref (q_h G + 279)), some (.int (k)), some (.int (l))] [.int (nI (1))] σ_6)
      have hc_4 : σ_6 279 = o11 G (upd F 7 (nI (2))) := hc_4
      rw [hQ]
      exact A_zreturn hg (by decide) (by decide) rfl rfl dX11_noPair_30 ⟨rfl, Or.inl (⟨rfl, (q_pair_f (by decide) (by first | exact Or.inl c8 | exact Or.inr c18)), hc_4, (fun i hi => (hf_5 i (by omega)))⟩)⟩
set_option maxRecDepth 100000 in
set_option maxHeartbeats 4000000 in
theorem c_X11_noMove (G : GL) (ex : Bool) (n : Nat) (σ : Nat → va_E) (F : Nat → Int32) (k : Int32) (l : Int32) (hc0 : σ 279 = o11 G F) (hn : 294 ≤ n) : Ct G yX11_noMove cX11_noMove 3 (some .boolean) ⟨2, 0, 0, 44⟩ [.ref (q_h G + 279), .int (k), .int (l)] ex n σ (fun v9 σ2 => (v9 = some (.int (nI (1))) ∧ (∀ a b : Nat, a ≤ 40 → b ≤ 40 → 0 < a + b → k = nI a → l = nI b → False) ∧ σ2 279 = o11 G (upd F 7 (nI (2))) ∧ (∀ i : Nat, i ≠ 279 → σ2 i = σ i)) ∨ (∃ (a1 : Nat), ∃ (b1 : Nat), v9 = some (.int (nI (0))) ∧ (k = nI a1) ∧ (l = nI b1) ∧ (a1 ≤ 40) ∧ (b1 ≤ 40) ∧ (0 < a1 + b1) ∧ σ2 = σ)) := by
  refine q_enter [some (.ref (q_h G + 279)), some (.int (k)), some (.int (l))] (by decide) (Nat.le_of_ble_eq_true rfl) rfl ?_
  intro K hg
  obtain ⟨Q, hQ⟩ : ∃ Q, Q = q_Q G K ex n 0 0 (fun v9 n' σ' => n' = n ∧ (fun v9 σ2 => (v9 = some (.int (nI (1))) ∧ (∀ a b : Nat, a ≤ 40 → b ≤ 40 → 0 < a + b → k = nI a → l = nI b → False) ∧ σ2 279 = o11 G (upd F 7 (nI (2))) ∧ (∀ i : Nat, i ≠ 279 → σ2 i = σ i)) ∨ (∃ (a1 : Nat), ∃ (b1 : Nat), v9 = some (.int (nI (0))) ∧ (k = nI a1) ∧ (l = nI b1) ∧ (a1 ≤ 40) ∧ (b1 ≤ 40) ∧ (0 < a1 + b1) ∧ σ2 = σ)) v9 σ') q_noX := ⟨_, rfl⟩
  refine (?_ : AJ G K (q_Q G K ex n 0 0 _ _) 0 0 ex n 0 _ _ σ)
  rw [← hQ]
  refine A_aload_n hg dX11_noMove_0 rfl rfl ?_
  refine A_iload_n hg dX11_noMove_1 rfl rfl ?_
  refine A_iload_n hg dX11_noMove_2 rfl rfl ?_
  refine A_hV (kc2 := 0) (ks2 := 0) (As := [.int (k), .int (l)]) (rest := []) hg lk_RX11_424 in_X11_noPair se_X11_noPair rfl dX11_noMove_3 ⟨by decide, by decide⟩ rfl rfl ⟨by decide, by decide⟩ hc0 (by omega) rfl rfl (Nat.le_of_ble_eq_true rfl) (c_X11_noPair G ex n σ F k l hc0 (by omega)) ?_
  rintro _ σ_4 (⟨rfl, hnp, hc_1, hf_2⟩ | ⟨a1, b1, rfl, hke, hle, hkl, hll, he_3⟩)
  · skip
    refine (?_ : AJ G K Q 0 0 ex n 6 [some (.ref (q_h G + 279)), some (.int (k)), some (.int (l))] [.int (nI (1))] σ_4)
    have hc_1 : σ_4 279 = o11 G (upd F 7 (nI (2))) := hc_1
    refine A_if_neN (tgt := 30) hg dX11_noMove_6 (by decide) (by decide) (fun c6 => ?_) (fun c6 => absurd c6 (by decide))
    refine A_iconst (v := (nI (1))) hg dX11_noMove_30 (by decide) ?_
    refine A_goto (tgt := 35) hg dX11_noMove_31 (by decide) ?_
    rw [hQ]
    exact A_zreturn hg (by decide) (by decide) rfl rfl dX11_noMove_35 ⟨rfl, Or.inl (⟨rfl, (by first | exact fun a b h1 h2 _ => hnp a b h1 h2 | (intro a b h1 h2 h3 e1 e2; have := q_nI_inj (by omega) (by omega) e1; have := q_nI_inj (by omega) (by omega) e2; omega)), hc_1, (fun i hi => (hf_2 i (by omega)))⟩)⟩
  · skip
    rw [he_3]
    refine (?_ : AJ G K Q 0 0 ex n 6 [some (.ref (q_h G + 279)), some (.int (k)), some (.int (l))] [.int (nI (0))] σ)
    refine A_if_neN (tgt := 30) hg dX11_noMove_6 (by decide) (by decide) (fun c6 => absurd (by decide) c6) (fun c6 => ?_)
    subst hke
    subst hle
    refine A_aload_n hg dX11_noMove_9 rfl rfl ?_
    refine A_iload_n hg dX11_noMove_10 rfl rfl ?_
    refine A_if_neN (tgt := 22) hg dX11_noMove_11 (by omega) (by decide) (fun c11 => ?_) (fun c11 => ?_)
    · skip
      refine A_iconst (v := (nI (0))) hg dX11_noMove_22 (by decide) ?_
      refine A_iconst (v := (nI (2))) hg dX11_noMove_23 (by decide) ?_
      refine A_eV (kc2 := 0) (ks2 := 0) (As := [.int (nI (0)), .int (nI (2))]) (rest := []) hg lk_RX11_81 in_X11_fails se_X11_fails rfl dX11_noMove_24 ⟨by decide, by decide⟩ rfl rfl ⟨by decide, by decide⟩ hc0 (by omega) rfl rfl (Nat.le_of_ble_eq_true rfl) (c_X11_fails0 G ex n σ F (nI (2)) hc0 (by omega)) ?_
      refine A_if_eqN (tgt := 34) hg dX11_noMove_27 (by decide) (by decide) (fun c27 => ?_) (fun c27 => absurd (by decide) c27)
      refine A_iconst (v := (nI (0))) hg dX11_noMove_34 (by decide) ?_
      
      rw [hQ]
      exact A_zreturn hg (by decide) (by decide) rfl rfl dX11_noMove_35 ⟨rfl, Or.inr ((⟨a1, b1, rfl, (by first | rfl | assumption | omega), (by first | rfl | assumption | omega), (by first | rfl | assumption | omega), (by first | rfl | assumption | omega), (by first | rfl | assumption | omega), rfl⟩))⟩
    · skip
      refine A_iload_n hg dX11_noMove_14 rfl rfl ?_
      refine A_if_neN (tgt := 22) hg dX11_noMove_15 (by omega) (by decide) (fun c15 => ?_) (fun c15 => ?_)
      · skip
        refine A_iconst (v := (nI (0))) hg dX11_noMove_22 (by decide) ?_
        refine A_iconst (v := (nI (2))) hg dX11_noMove_23 (by decide) ?_
        refine A_eV (kc2 := 0) (ks2 := 0) (As := [.int (nI (0)), .int (nI (2))]) (rest := []) hg lk_RX11_81 in_X11_fails se_X11_fails rfl dX11_noMove_24 ⟨by decide, by decide⟩ rfl rfl ⟨by decide, by decide⟩ hc0 (by omega) rfl rfl (Nat.le_of_ble_eq_true rfl) (c_X11_fails0 G ex n σ F (nI (2)) hc0 (by omega)) ?_
        refine A_if_eqN (tgt := 34) hg dX11_noMove_27 (by decide) (by decide) (fun c27 => ?_) (fun c27 => absurd (by decide) c27)
        refine A_iconst (v := (nI (0))) hg dX11_noMove_34 (by decide) ?_
        
        rw [hQ]
        exact A_zreturn hg (by decide) (by decide) rfl rfl dX11_noMove_35 ⟨rfl, Or.inr ((⟨a1, b1, rfl, (by first | rfl | assumption | omega), (by first | rfl | assumption | omega), (by first | rfl | assumption | omega), (by first | rfl | assumption | omega), (by first | rfl | assumption | omega), rfl⟩))⟩
      · skip
        refine A_iconst (v := (nI (1))) hg dX11_noMove_18 (by decide) ?_
        refine A_goto (tgt := 23) hg dX11_noMove_19 (by decide) ?_
        refine A_iconst (v := (nI (2))) hg dX11_noMove_23 (by decide) ?_
        refine A_hV (kc2 := 0) (ks2 := 0) (As := [.int (nI (1)), .int (nI (2))]) (rest := []) hg lk_RX11_81 in_X11_fails se_X11_fails rfl dX11_noMove_24 ⟨by decide, by decide⟩ rfl rfl ⟨by decide, by decide⟩ hc0 (by omega) rfl rfl (Nat.le_of_ble_eq_true rfl) (c_X11_fails1 G ex n σ F 2 hc0 (by omega)) ?_
        rintro _ σ_7 ⟨rfl, hc_5, hf_6⟩
        refine (?_ : AJ G K Q 0 0 ex n 27 [some (.ref (q_h G + 279)), some (.int (nI (a1))), some (.int (nI (b1)))] [.int (nI (1))] σ_7)
        have hc_5 : σ_7 279 = o11 G (upd F 7 (nI (2))) := hc_5
        refine A_if_eqN (tgt := 34) hg dX11_noMove_27 (by decide) (by decide) (fun c27 => absurd c27 (by decide)) (fun c27 => ?_)
        refine A_iconst (v := (nI (1))) hg dX11_noMove_30 (by decide) ?_
        refine A_goto (tgt := 35) hg dX11_noMove_31 (by decide) ?_
        rw [hQ]
        exact A_zreturn hg (by decide) (by decide) rfl rfl dX11_noMove_35 ⟨rfl, Or.inl (⟨rfl, (by first | exact fun a b h1 h2 _ => hnp a b h1 h2 | (intro a b h1 h2 h3 e1 e2; have := q_nI_inj (by omega) (by omega) e1; have := q_nI_inj (by omega) (by omega) e2; omega)), hc_5, (fun i hi => (hf_6 i (by omega)))⟩)⟩
set_option maxRecDepth 100000 in
set_option maxHeartbeats 4000000 in
theorem c_X11_refusalI (G : GL) (ex : Bool) (n : Nat) (σ : Nat → va_E) (F : Nat → Int32) (g : Nat → Nat) (p : Nat) (k : Int32) (l : Int32) (hc0 : σ 279 = o11 G F) (hc1 : σ 280 = q_an G 265 g) (hn : 294 ≤ n) (hg9 : s_gwf g) (hp : p < s_np g) : Ct G yX11_refusal cX11_refusal 4 (some .int) ⟨3, 0, 0, 70⟩ [.ref (q_h G + 279), .int (nI (p)), .int (k), .int (l)] ex n σ (fun v9 σ2 => σ2 = σ ∧ v9 = some (.int (nI (s_refI g p k l)))) := by
  refine q_enter [some (.ref (q_h G + 279)), some (.int (nI (p))), some (.int (k)), some (.int (l))] (by decide) (Nat.le_of_ble_eq_true rfl) rfl ?_
  intro K hg
  obtain ⟨Q, hQ⟩ : ∃ Q, Q = q_Q G K ex n 0 0 (fun v9 n' σ' => n' = n ∧ (fun v9 σ2 => σ2 = σ ∧ v9 = some (.int (nI (s_refI g p k l)))) v9 σ') q_noX := ⟨_, rfl⟩
  refine (?_ : AJ G K (q_Q G K ex n 0 0 _ _) 0 0 ex n 0 _ _ σ)
  rw [← hQ]
  have hnp := s_np_le hg9
  have hg1 : g 1 ≤ 4 := hg9.2.1
  have hg2 : g 2 ≤ 4 := hg9.2.2.1
  have hsp : s_np g = g 1 + g 2 := rfl
  have hbd := hg9.2.2.2.2.2.2.1 p
  have hsk := hg9.2.2.2.2.2.2.2 (p - g 1)
  have hpt := s_part hg9 hp
  refine A_iload_n hg dX11_refusal_0 rfl rfl ?_
  refine A_if_lt (tgt := 16) hg dX11_refusal_1 (by decide) (fun c1 => ?_) (fun c1 => ?_)
  · skip
    refine A_iconst (v := (nI (1))) hg dX11_refusal_16 (by decide) ?_
    rw [hQ]
    exact A_ireturn hg (by decide) (by decide) rfl dX11_refusal_17 ⟨rfl, ⟨rfl, (by first | rw [s_refI_1 (Or.inl c1)] | rw [s_refI_1 (Or.inr c5)] | (rw [s_refI_n hk1 hl1]; unfold s_ref; rw [if_pos ⟨by omega, by omega⟩]))⟩⟩
  · skip
    refine A_iload_n hg dX11_refusal_4 rfl rfl ?_
    refine A_if_lt (tgt := 16) hg dX11_refusal_5 (by decide) (fun c5 => ?_) (fun c5 => ?_)
    · skip
      refine A_iconst (v := (nI (1))) hg dX11_refusal_16 (by decide) ?_
      rw [hQ]
      exact A_ireturn hg (by decide) (by decide) rfl dX11_refusal_17 ⟨rfl, ⟨rfl, (by first | rw [s_refI_1 (Or.inl c1)] | rw [s_refI_1 (Or.inr c5)] | (rw [s_refI_n hk1 hl1]; unfold s_ref; rw [if_pos ⟨by omega, by omega⟩]))⟩⟩
    · skip
      obtain ⟨k1, hk1, hk2⟩ := nI_of c1
      obtain ⟨l1, hl1, hl2⟩ := nI_of c5
      subst hk2
      subst hl2
      refine A_iload_n hg dX11_refusal_8 rfl rfl ?_
      refine A_if_neN (tgt := 18) hg dX11_refusal_9 (by omega) (by decide) (fun c9 => ?_) (fun c9 => ?_)
      · skip
        refine A_iload_n hg dX11_refusal_18 rfl rfl ?_
        refine A_aload_n hg dX11_refusal_19 rfl rfl ?_
        refine A_iload_n hg dX11_refusal_20 rfl rfl ?_
        refine A_eV (kc2 := 0) (ks2 := 0) (As := [.int (nI (p))]) (rest := [.int (nI (k1))]) hg lk_RX11_200 in_X11_firstHeap se_X11_firstHeap rfl dX11_refusal_21 ⟨by decide, by decide⟩ rfl rfl ⟨by decide, by decide⟩ hc0 (by omega) rfl rfl (Nat.le_of_ble_eq_true rfl) (c_X11_firstHeap G ex n σ F g p hc0 hc1 (by omega) hg9 (by omega)) ?_
        refine A_icmp_gtN (tgt := 36) hg dX11_refusal_24 (by omega) (by omega) (by decide) (fun c24 => ?_) (fun c24 => ?_)
        · skip
          refine A_iconst (v := (nI (2))) hg dX11_refusal_36 (by decide) ?_
          rw [hQ]
          exact A_ireturn hg (by decide) (by decide) rfl dX11_refusal_37 ⟨rfl, ⟨rfl, (by rw [s_refI_n hk1 hl1]; unfold s_ref; rw [if_neg (by omega), if_pos (by omega)])⟩⟩
        · skip
          refine A_iload_n hg dX11_refusal_27 rfl rfl ?_
          refine A_aload_n hg dX11_refusal_28 rfl rfl ?_
          refine A_iload_n hg dX11_refusal_29 rfl rfl ?_
          refine A_eV (kc2 := 0) (ks2 := 0) (As := [.int (nI (p))]) (rest := [.int (nI (l1))]) hg lk_RX11_203 in_X11_secondHeap se_X11_secondHeap rfl dX11_refusal_30 ⟨by decide, by decide⟩ rfl rfl ⟨by decide, by decide⟩ hc0 (by omega) rfl rfl (Nat.le_of_ble_eq_true rfl) (c_X11_secondHeap G ex n σ F g p hc0 hc1 (by omega) hg9 (by omega)) ?_
          refine A_icmp_leN (tgt := 38) hg dX11_refusal_33 (by omega) (by omega) (by decide) (fun c33 => ?_) (fun c33 => ?_)
          · skip
            refine A_aload_n hg dX11_refusal_38 rfl rfl ?_
            refine A_iload_n hg dX11_refusal_39 rfl rfl ?_
            refine A_eV (kc2 := 0) (ks2 := 0) (As := [.int (nI (p))]) (rest := []) hg lk_RX11_182 in_X11_isBoard se_X11_isBoard rfl dX11_refusal_40 ⟨by decide, by decide⟩ rfl rfl ⟨by decide, by decide⟩ hc0 (by omega) rfl rfl (Nat.le_of_ble_eq_true rfl) (c_X11_isBoard G ex n σ F g p hc0 hc1 (by omega) (by omega) (by omega)) ?_
            refine A_if_eqB (tgt := 59) hg dX11_refusal_43 (by decide) (fun c43 => ?_) (fun c43 => ?_)
            · skip
              have hib : ¬ p < g 1 := of_decide_eq_false c43
              have hsk1 := hsk (by omega)
              refine A_iload_n hg dX11_refusal_59 rfl rfl ?_
              refine A_aload_n hg dX11_refusal_60 rfl rfl ?_
              refine A_aload_n hg dX11_refusal_61 rfl rfl ?_
              refine A_iload_n hg dX11_refusal_62 rfl rfl ?_
              refine A_eV (kc2 := 0) (ks2 := 0) (As := [.int (nI (p))]) (rest := [.ref (q_h G + 279), .int (nI (k1))]) hg lk_RX11_191 in_X11_stickOf se_X11_stickOf rfl dX11_refusal_63 ⟨by decide, by decide⟩ rfl rfl ⟨by decide, by decide⟩ hc0 (by omega) rfl rfl (Nat.le_of_ble_eq_true rfl) (c_X11_stickOf G ex n σ F g p hc0 hc1 (by omega) (by omega)) ?_
              refine A_iconst (v := (nI (1))) hg dX11_refusal_66 (by decide) ?_
              refine A_eV (kc2 := 0) (ks2 := 0) (As := [.int (nI (p - g 1)), .int (nI (1))]) (rest := [.int (nI (k1))]) hg lk_RX11_194 in_X11_ofStick se_X11_ofStick rfl dX11_refusal_67 ⟨by decide, by decide⟩ rfl rfl ⟨by decide, by decide⟩ hc0 (by omega) rfl rfl (Nat.le_of_ble_eq_true rfl) (c_X11_ofStick G ex n σ F g (p - g 1) 1 hc0 hc1 (by omega) (by omega)) ?_
              refine A_icmp_leN (tgt := 77) hg dX11_refusal_70 (by omega) (by omega) (by decide) (fun c70 => ?_) (fun c70 => ?_)
              · skip
                refine A_iconst (v := (nI (0))) hg dX11_refusal_77 (by decide) ?_
                rw [hQ]
                exact A_ireturn hg (by decide) (by decide) rfl dX11_refusal_78 ⟨rfl, ⟨rfl, (by rw [s_refI_n hk1 hl1]; unfold s_ref; rw [if_neg (by omega), if_neg (by omega), if_neg hib, if_neg (by omega)])⟩⟩
              · skip
                refine A_iconst (v := (nI (3))) hg dX11_refusal_73 (by decide) ?_
                refine A_goto (tgt := 78) hg dX11_refusal_74 (by decide) ?_
                rw [hQ]
                exact A_ireturn hg (by decide) (by decide) rfl dX11_refusal_78 ⟨rfl, ⟨rfl, (by rw [s_refI_n hk1 hl1]; unfold s_ref; rw [if_neg (by omega), if_neg (by omega), if_neg hib, if_pos (by omega)])⟩⟩
            · skip
              have hib : p < g 1 := of_decide_eq_true c43
              have hbd1 := hbd hib
              have hr4 := hg9.1
              refine A_aload_n hg dX11_refusal_46 rfl rfl ?_
              refine A_aload_n hg dX11_refusal_47 rfl rfl ?_
              refine A_iload_n hg dX11_refusal_48 rfl rfl ?_
              refine A_iconst (v := (nI (0))) hg dX11_refusal_49 (by decide) ?_
              refine A_eV (kc2 := 0) (ks2 := 0) (As := [.int (nI (p)), .int (nI (0))]) (rest := [.ref (q_h G + 279)]) hg lk_RX11_185 in_X11_ofBoard se_X11_ofBoard rfl dX11_refusal_50 ⟨by decide, by decide⟩ rfl rfl ⟨by decide, by decide⟩ hc0 (by omega) rfl rfl (Nat.le_of_ble_eq_true rfl) (c_X11_ofBoard G ex n σ F g p 0 hc0 hc1 (by omega) (by omega)) ?_
              refine A_iload_n hg dX11_refusal_53 rfl rfl ?_
              refine A_iload_n hg dX11_refusal_54 rfl rfl ?_
              refine A_eV (kc2 := 0) (ks2 := 0) (As := [.int (nI (g (133 + 5 * p + 0))), .int (nI (k1)), .int (nI (l1))]) (rest := []) hg lk_RX11_106 in_X11_forbids se_X11_forbids rfl dX11_refusal_55 ⟨by decide, by decide⟩ rfl rfl ⟨by decide, by decide⟩ hc0 (by omega) rfl rfl (Nat.le_of_ble_eq_true rfl) (c_X11_forbids G ex n σ F g (g (133 + 5 * p + 0)) k1 l1 hc0 hc1 (by omega) (by omega) (hg9.2.2.2.2.2.1 _ hbd1.1) (by omega) (by omega)) ?_
              rw [hQ]
              exact A_ireturn hg (by decide) (by decide) rfl dX11_refusal_58 ⟨rfl, ⟨rfl, (by rw [s_refI_n hk1 hl1]; unfold s_ref; rw [if_neg (by omega), if_neg (by omega), if_pos hib])⟩⟩
          · skip
            refine A_iconst (v := (nI (2))) hg dX11_refusal_36 (by decide) ?_
            rw [hQ]
            exact A_ireturn hg (by decide) (by decide) rfl dX11_refusal_37 ⟨rfl, ⟨rfl, (by rw [s_refI_n hk1 hl1]; unfold s_ref; rw [if_neg (by omega), if_pos (by omega)])⟩⟩
      · skip
        refine A_iload_n hg dX11_refusal_12 rfl rfl ?_
        refine A_if_neN (tgt := 18) hg dX11_refusal_13 (by omega) (by decide) (fun c13 => ?_) (fun c13 => ?_)
        · skip
          refine A_iload_n hg dX11_refusal_18 rfl rfl ?_
          refine A_aload_n hg dX11_refusal_19 rfl rfl ?_
          refine A_iload_n hg dX11_refusal_20 rfl rfl ?_
          refine A_eV (kc2 := 0) (ks2 := 0) (As := [.int (nI (p))]) (rest := [.int (nI (k1))]) hg lk_RX11_200 in_X11_firstHeap se_X11_firstHeap rfl dX11_refusal_21 ⟨by decide, by decide⟩ rfl rfl ⟨by decide, by decide⟩ hc0 (by omega) rfl rfl (Nat.le_of_ble_eq_true rfl) (c_X11_firstHeap G ex n σ F g p hc0 hc1 (by omega) hg9 (by omega)) ?_
          refine A_icmp_gtN (tgt := 36) hg dX11_refusal_24 (by omega) (by omega) (by decide) (fun c24 => ?_) (fun c24 => ?_)
          · skip
            refine A_iconst (v := (nI (2))) hg dX11_refusal_36 (by decide) ?_
            rw [hQ]
            exact A_ireturn hg (by decide) (by decide) rfl dX11_refusal_37 ⟨rfl, ⟨rfl, (by rw [s_refI_n hk1 hl1]; unfold s_ref; rw [if_neg (by omega), if_pos (by omega)])⟩⟩
          · skip
            refine A_iload_n hg dX11_refusal_27 rfl rfl ?_
            refine A_aload_n hg dX11_refusal_28 rfl rfl ?_
            refine A_iload_n hg dX11_refusal_29 rfl rfl ?_
            refine A_eV (kc2 := 0) (ks2 := 0) (As := [.int (nI (p))]) (rest := [.int (nI (l1))]) hg lk_RX11_203 in_X11_secondHeap se_X11_secondHeap rfl dX11_refusal_30 ⟨by decide, by decide⟩ rfl rfl ⟨by decide, by decide⟩ hc0 (by omega) rfl rfl (Nat.le_of_ble_eq_true rfl) (c_X11_secondHeap G ex n σ F g p hc0 hc1 (by omega) hg9 (by omega)) ?_
            refine A_icmp_leN (tgt := 38) hg dX11_refusal_33 (by omega) (by omega) (by decide) (fun c33 => ?_) (fun c33 => ?_)
            · skip
              refine A_aload_n hg dX11_refusal_38 rfl rfl ?_
              refine A_iload_n hg dX11_refusal_39 rfl rfl ?_
              refine A_eV (kc2 := 0) (ks2 := 0) (As := [.int (nI (p))]) (rest := []) hg lk_RX11_182 in_X11_isBoard se_X11_isBoard rfl dX11_refusal_40 ⟨by decide, by decide⟩ rfl rfl ⟨by decide, by decide⟩ hc0 (by omega) rfl rfl (Nat.le_of_ble_eq_true rfl) (c_X11_isBoard G ex n σ F g p hc0 hc1 (by omega) (by omega) (by omega)) ?_
              refine A_if_eqB (tgt := 59) hg dX11_refusal_43 (by decide) (fun c43 => ?_) (fun c43 => ?_)
              · skip
                have hib : ¬ p < g 1 := of_decide_eq_false c43
                have hsk1 := hsk (by omega)
                refine A_iload_n hg dX11_refusal_59 rfl rfl ?_
                refine A_aload_n hg dX11_refusal_60 rfl rfl ?_
                refine A_aload_n hg dX11_refusal_61 rfl rfl ?_
                refine A_iload_n hg dX11_refusal_62 rfl rfl ?_
                refine A_eV (kc2 := 0) (ks2 := 0) (As := [.int (nI (p))]) (rest := [.ref (q_h G + 279), .int (nI (k1))]) hg lk_RX11_191 in_X11_stickOf se_X11_stickOf rfl dX11_refusal_63 ⟨by decide, by decide⟩ rfl rfl ⟨by decide, by decide⟩ hc0 (by omega) rfl rfl (Nat.le_of_ble_eq_true rfl) (c_X11_stickOf G ex n σ F g p hc0 hc1 (by omega) (by omega)) ?_
                refine A_iconst (v := (nI (1))) hg dX11_refusal_66 (by decide) ?_
                refine A_eV (kc2 := 0) (ks2 := 0) (As := [.int (nI (p - g 1)), .int (nI (1))]) (rest := [.int (nI (k1))]) hg lk_RX11_194 in_X11_ofStick se_X11_ofStick rfl dX11_refusal_67 ⟨by decide, by decide⟩ rfl rfl ⟨by decide, by decide⟩ hc0 (by omega) rfl rfl (Nat.le_of_ble_eq_true rfl) (c_X11_ofStick G ex n σ F g (p - g 1) 1 hc0 hc1 (by omega) (by omega)) ?_
                refine A_icmp_leN (tgt := 77) hg dX11_refusal_70 (by omega) (by omega) (by decide) (fun c70 => ?_) (fun c70 => ?_)
                · skip
                  refine A_iconst (v := (nI (0))) hg dX11_refusal_77 (by decide) ?_
                  rw [hQ]
                  exact A_ireturn hg (by decide) (by decide) rfl dX11_refusal_78 ⟨rfl, ⟨rfl, (by rw [s_refI_n hk1 hl1]; unfold s_ref; rw [if_neg (by omega), if_neg (by omega), if_neg hib, if_neg (by omega)])⟩⟩
                · skip
                  refine A_iconst (v := (nI (3))) hg dX11_refusal_73 (by decide) ?_
                  refine A_goto (tgt := 78) hg dX11_refusal_74 (by decide) ?_
                  rw [hQ]
                  exact A_ireturn hg (by decide) (by decide) rfl dX11_refusal_78 ⟨rfl, ⟨rfl, (by rw [s_refI_n hk1 hl1]; unfold s_ref; rw [if_neg (by omega), if_neg (by omega), if_neg hib, if_pos (by omega)])⟩⟩
              · skip
                have hib : p < g 1 := of_decide_eq_true c43
                have hbd1 := hbd hib
                have hr4 := hg9.1
                refine A_aload_n hg dX11_refusal_46 rfl rfl ?_
                refine A_aload_n hg dX11_refusal_47 rfl rfl ?_
                refine A_iload_n hg dX11_refusal_48 rfl rfl ?_
                refine A_iconst (v := (nI (0))) hg dX11_refusal_49 (by decide) ?_
                refine A_eV (kc2 := 0) (ks2 := 0) (As := [.int (nI (p)), .int (nI (0))]) (rest := [.ref (q_h G + 279)]) hg lk_RX11_185 in_X11_ofBoard se_X11_ofBoard rfl dX11_refusal_50 ⟨by decide, by decide⟩ rfl rfl ⟨by decide, by decide⟩ hc0 (by omega) rfl rfl (Nat.le_of_ble_eq_true rfl) (c_X11_ofBoard G ex n σ F g p 0 hc0 hc1 (by omega) (by omega)) ?_
                refine A_iload_n hg dX11_refusal_53 rfl rfl ?_
                refine A_iload_n hg dX11_refusal_54 rfl rfl ?_
                refine A_eV (kc2 := 0) (ks2 := 0) (As := [.int (nI (g (133 + 5 * p + 0))), .int (nI (k1)), .int (nI (l1))]) (rest := []) hg lk_RX11_106 in_X11_forbids se_X11_forbids rfl dX11_refusal_55 ⟨by decide, by decide⟩ rfl rfl ⟨by decide, by decide⟩ hc0 (by omega) rfl rfl (Nat.le_of_ble_eq_true rfl) (c_X11_forbids G ex n σ F g (g (133 + 5 * p + 0)) k1 l1 hc0 hc1 (by omega) (by omega) (hg9.2.2.2.2.2.1 _ hbd1.1) (by omega) (by omega)) ?_
                rw [hQ]
                exact A_ireturn hg (by decide) (by decide) rfl dX11_refusal_58 ⟨rfl, ⟨rfl, (by rw [s_refI_n hk1 hl1]; unfold s_ref; rw [if_neg (by omega), if_neg (by omega), if_pos hib])⟩⟩
            · skip
              refine A_iconst (v := (nI (2))) hg dX11_refusal_36 (by decide) ?_
              rw [hQ]
              exact A_ireturn hg (by decide) (by decide) rfl dX11_refusal_37 ⟨rfl, ⟨rfl, (by rw [s_refI_n hk1 hl1]; unfold s_ref; rw [if_neg (by omega), if_pos (by omega)])⟩⟩
        · skip
          refine A_iconst (v := (nI (1))) hg dX11_refusal_16 (by decide) ?_
          rw [hQ]
          exact A_ireturn hg (by decide) (by decide) rfl dX11_refusal_17 ⟨rfl, ⟨rfl, (by first | rw [s_refI_1 (Or.inl c1)] | rw [s_refI_1 (Or.inr c5)] | (rw [s_refI_n hk1 hl1]; unfold s_ref; rw [if_pos ⟨by omega, by omega⟩]))⟩⟩
set_option maxRecDepth 100000 in
set_option maxHeartbeats 4000000 in
theorem c_X11_makesBoard (G : GL) (ex : Bool) (n : Nat) (σ : Nat → va_E) (F : Nat → Int32) (g : Nat → Nat) (r : Nat) (x : Nat) (y : Nat) (hc0 : σ 279 = o11 G F) (hc1 : σ 280 = q_an G 265 g) (hn : 294 ≤ n) (hb : g 1 < 4) : Ct G yX11_makesBoard cX11_makesBoard 5 none ⟨1, 0, 0, 23⟩ [.ref (q_h G + 279), .int (nI (r)), .int (nI (x)), .int (nI (y))] ex n σ (fun v9 σ2 => v9 = none ∧ σ2 280 = q_an G 265 (s_addB g r x y) ∧ (∀ i : Nat, i ≠ 280 → σ2 i = σ i)) := by
  refine q_enter [some (.ref (q_h G + 279)), some (.int (nI (r))), some (.int (nI (x))), some (.int (nI (y))), none] (by decide) (Nat.le_of_ble_eq_true rfl) rfl ?_
  intro K hg
  obtain ⟨Q, hQ⟩ : ∃ Q, Q = q_Q G K ex n 0 0 (fun v9 n' σ' => n' = n ∧ (fun v9 σ2 => v9 = none ∧ σ2 280 = q_an G 265 (s_addB g r x y) ∧ (∀ i : Nat, i ≠ 280 → σ2 i = σ i)) v9 σ') q_noX := ⟨_, rfl⟩
  refine (?_ : AJ G K (q_Q G K ex n 0 0 _ _) 0 0 ex n 0 _ _ σ)
  rw [← hQ]
  have h2 : ∀ (f : Nat → Nat) (a x : Nat), 133 ≤ a → va_up f a x 1 = f 1 := fun f a x ha => by unfold va_up; rw [if_neg (by omega)]
  refine A_aload_n hg dX11_makesBoard_0 rfl rfl ?_
  refine A_getf (v := .ref (q_h G + 280)) hg fl_RX11_7 dX11_makesBoard_1 hc0 (by omega) rfl ?_
  refine A_iconst (v := (nI (1))) hg dX11_makesBoard_4 (by decide) ?_
  refine A_iald (j := 1) hg dX11_makesBoard_5 hc1 (by omega) (by omega) (by decide) ?_
  refine A_istore hg dX11_makesBoard_6 (by decide) (q_c1d rfl) ?_
  refine A_eq (ls2 := [some (.ref (q_h G + 279)), some (.int (nI (r))), some (.int (nI (x))), some (.int (nI (y))), some (.int (nI (g 1)))]) (st2 := []) (pc2 := 0) rfl rfl ?_
  refine A_aload_n hg dX11_makesBoard_8 rfl rfl ?_
  refine A_iload hg dX11_makesBoard_9 rfl ?_
  refine A_iconst (v := (nI (0))) hg dX11_makesBoard_11 (by decide) ?_
  refine A_iload_n hg dX11_makesBoard_12 rfl rfl ?_
  refine A_vV (kc2 := 0) (ks2 := 0) (As := [.int (nI (g 1)), .int (nI (0)), .int (nI (r))]) (rest := []) hg lk_RX11_173 in_X11_putsBoard se_X11_putsBoard rfl dX11_makesBoard_13 ⟨by decide, by decide⟩ rfl rfl ⟨by decide, by decide⟩ hc0 (by omega) rfl rfl (Nat.le_of_ble_eq_true rfl) (c_X11_putsBoard G ex n σ F g (g 1) 0 r hc0 hc1 (by omega) (by omega)) ?_
  rintro σ_3 ⟨hc_1, hf_2⟩
  have hc_4 : σ_3 279 = o11 G F := (hf_2 _ (by omega)).trans hc0
  refine A_aload_n hg dX11_makesBoard_16 rfl rfl ?_
  refine A_iload hg dX11_makesBoard_17 rfl ?_
  refine A_iconst (v := (nI (1))) hg dX11_makesBoard_19 (by decide) ?_
  refine A_iload_n hg dX11_makesBoard_20 rfl rfl ?_
  refine A_vV (kc2 := 0) (ks2 := 0) (As := [.int (nI (g 1)), .int (nI (1)), .int (nI (x))]) (rest := []) hg lk_RX11_173 in_X11_putsBoard se_X11_putsBoard rfl dX11_makesBoard_21 ⟨by decide, by decide⟩ rfl rfl ⟨by decide, by decide⟩ hc_4 (by omega) rfl rfl (Nat.le_of_ble_eq_true rfl) (c_X11_putsBoard G ex n σ_3 F (va_up g (133 + 5 * (g 1) + 0) r) (g 1) 1 x hc_4 hc_1 (by omega) (by omega)) ?_
  rintro σ_7 ⟨hc_5, hf_6⟩
  have hc_8 : σ_7 279 = o11 G F := (hf_6 _ (by omega)).trans hc_4
  refine A_aload_n hg dX11_makesBoard_24 rfl rfl ?_
  refine A_iload hg dX11_makesBoard_25 rfl ?_
  refine A_iconst (v := (nI (2))) hg dX11_makesBoard_27 (by decide) ?_
  refine A_iload_n hg dX11_makesBoard_28 rfl rfl ?_
  refine A_vV (kc2 := 0) (ks2 := 0) (As := [.int (nI (g 1)), .int (nI (2)), .int (nI (y))]) (rest := []) hg lk_RX11_173 in_X11_putsBoard se_X11_putsBoard rfl dX11_makesBoard_29 ⟨by decide, by decide⟩ rfl rfl ⟨by decide, by decide⟩ hc_8 (by omega) rfl rfl (Nat.le_of_ble_eq_true rfl) (c_X11_putsBoard G ex n σ_7 F (va_up (va_up g (133 + 5 * (g 1) + 0) r) (133 + 5 * (g 1) + 1) x) (g 1) 2 y hc_8 hc_5 (by omega) (by omega)) ?_
  rintro σ_11 ⟨hc_9, hf_10⟩
  have hc_12 : σ_11 279 = o11 G F := (hf_10 _ (by omega)).trans hc_8
  refine A_aload_n hg dX11_makesBoard_32 rfl rfl ?_
  refine A_iload hg dX11_makesBoard_33 rfl ?_
  refine A_iconst (v := (nI (3))) hg dX11_makesBoard_35 (by decide) ?_
  refine A_iload_n hg dX11_makesBoard_36 rfl rfl ?_
  refine A_vV (kc2 := 0) (ks2 := 0) (As := [.int (nI (g 1)), .int (nI (3)), .int (nI (x))]) (rest := []) hg lk_RX11_173 in_X11_putsBoard se_X11_putsBoard rfl dX11_makesBoard_37 ⟨by decide, by decide⟩ rfl rfl ⟨by decide, by decide⟩ hc_12 (by omega) rfl rfl (Nat.le_of_ble_eq_true rfl) (c_X11_putsBoard G ex n σ_11 F (va_up (va_up (va_up g (133 + 5 * (g 1) + 0) r) (133 + 5 * (g 1) + 1) x) (133 + 5 * (g 1) + 2) y) (g 1) 3 x hc_12 hc_9 (by omega) (by omega)) ?_
  rintro σ_15 ⟨hc_13, hf_14⟩
  have hc_16 : σ_15 279 = o11 G F := (hf_14 _ (by omega)).trans hc_12
  refine A_aload_n hg dX11_makesBoard_40 rfl rfl ?_
  refine A_iload hg dX11_makesBoard_41 rfl ?_
  refine A_iconst (v := (nI (4))) hg dX11_makesBoard_43 (by decide) ?_
  refine A_iload_n hg dX11_makesBoard_44 rfl rfl ?_
  refine A_vV (kc2 := 0) (ks2 := 0) (As := [.int (nI (g 1)), .int (nI (4)), .int (nI (y))]) (rest := []) hg lk_RX11_173 in_X11_putsBoard se_X11_putsBoard rfl dX11_makesBoard_45 ⟨by decide, by decide⟩ rfl rfl ⟨by decide, by decide⟩ hc_16 (by omega) rfl rfl (Nat.le_of_ble_eq_true rfl) (c_X11_putsBoard G ex n σ_15 F (va_up (va_up (va_up (va_up g (133 + 5 * (g 1) + 0) r) (133 + 5 * (g 1) + 1) x) (133 + 5 * (g 1) + 2) y) (133 + 5 * (g 1) + 3) x) (g 1) 4 y hc_16 hc_13 (by omega) (by omega)) ?_
  rintro σ_19 ⟨hc_17, hf_18⟩
  have hc_20 : σ_19 279 = o11 G F := (hf_18 _ (by omega)).trans hc_16
  refine A_aload_n hg dX11_makesBoard_48 rfl rfl ?_
  refine A_getf (v := .ref (q_h G + 280)) hg fl_RX11_7 dX11_makesBoard_49 hc_20 (by omega) rfl ?_
  refine A_iconst (v := (nI (1))) hg dX11_makesBoard_52 (by decide) ?_
  refine A_dup2 hg dX11_makesBoard_53 rfl rfl ?_
  refine A_iald (j := 1) hg dX11_makesBoard_54 hc_17 (by omega) (by omega) (by decide) ?_
  refine A_iconst (v := (nI (1))) hg dX11_makesBoard_55 (by decide) ?_
  refine A_iaddN hg dX11_makesBoard_56 ?_
  refine A_iast (j := 1) (x := (((va_up (va_up (va_up (va_up (va_up g (133 + 5 * (g 1) + 0) r) (133 + 5 * (g 1) + 1) x) (133 + 5 * (g 1) + 2) y) (133 + 5 * (g 1) + 3) x) (133 + 5 * (g 1) + 4) y) 1) + 1)) hg dX11_makesBoard_57 hc_17 (by omega) (by omega) (by decide) (fun σ_21 hc_22 hf_23 => ?_)
  have hc_24 : σ_21 279 = o11 G F := (hf_23 _ (by omega)).trans hc_20
  refine A_canon (s_addB g r x y) hc_22 (fun jj _ => by unfold s_addB; rw [h2 _ _ _ (by omega), h2 _ _ _ (by omega), h2 _ _ _ (by omega), h2 _ _ _ (by omega), h2 _ _ _ (by omega)]) (fun σ_25 hc_26 hf_27 => ?_)
  have hc_28 : σ_25 279 = o11 G F := (hf_27 _ (by omega)).trans hc_24
  rw [hQ]
  exact A_return hg (by decide) (by decide) rfl dX11_makesBoard_58 ⟨rfl, ⟨rfl, hc_26, (fun i hi => ((hf_27 i (by omega)).trans ((hf_23 i (by omega)).trans ((hf_18 i (by omega)).trans ((hf_14 i (by omega)).trans ((hf_10 i (by omega)).trans ((hf_6 i (by omega)).trans (hf_2 i (by omega)))))))))⟩⟩
set_option maxRecDepth 100000 in
set_option maxHeartbeats 4000000 in
theorem c_X11_makesStick (G : GL) (ex : Bool) (n : Nat) (σ : Nat → va_E) (F : Nat → Int32) (g : Nat → Nat) (x : Nat) (y : Nat) (hc0 : σ 279 = o11 G F) (hc1 : σ 280 = q_an G 265 g) (hn : 294 ≤ n) (hb : g 2 < 4) : Ct G yX11_makesStick cX11_makesStick 4 none ⟨1, 0, 0, 23⟩ [.ref (q_h G + 279), .int (nI (x)), .int (nI (y))] ex n σ (fun v9 σ2 => v9 = none ∧ σ2 280 = q_an G 265 (s_addS g x y) ∧ (∀ i : Nat, i ≠ 280 → σ2 i = σ i)) := by
  refine q_enter [some (.ref (q_h G + 279)), some (.int (nI (x))), some (.int (nI (y))), none] (by decide) (Nat.le_of_ble_eq_true rfl) rfl ?_
  intro K hg
  obtain ⟨Q, hQ⟩ : ∃ Q, Q = q_Q G K ex n 0 0 (fun v9 n' σ' => n' = n ∧ (fun v9 σ2 => v9 = none ∧ σ2 280 = q_an G 265 (s_addS g x y) ∧ (∀ i : Nat, i ≠ 280 → σ2 i = σ i)) v9 σ') q_noX := ⟨_, rfl⟩
  refine (?_ : AJ G K (q_Q G K ex n 0 0 _ _) 0 0 ex n 0 _ _ σ)
  rw [← hQ]
  have h2 : ∀ (f : Nat → Nat) (a x : Nat), 133 ≤ a → va_up f a x 2 = f 2 := fun f a x ha => by unfold va_up; rw [if_neg (by omega)]
  refine A_aload_n hg dX11_makesStick_0 rfl rfl ?_
  refine A_getf (v := .ref (q_h G + 280)) hg fl_RX11_7 dX11_makesStick_1 hc0 (by omega) rfl ?_
  refine A_iconst (v := (nI (2))) hg dX11_makesStick_4 (by decide) ?_
  refine A_iald (j := 2) hg dX11_makesStick_5 hc1 (by omega) (by omega) (by decide) ?_
  refine A_istore_n hg dX11_makesStick_6 rfl (by decide) (q_c1d rfl) ?_
  refine A_eq (ls2 := [some (.ref (q_h G + 279)), some (.int (nI (x))), some (.int (nI (y))), some (.int (nI (g 2)))]) (st2 := []) (pc2 := 0) rfl rfl ?_
  refine A_aload_n hg dX11_makesStick_7 rfl rfl ?_
  refine A_iload_n hg dX11_makesStick_8 rfl rfl ?_
  refine A_iconst (v := (nI (0))) hg dX11_makesStick_9 (by decide) ?_
  refine A_iload_n hg dX11_makesStick_10 rfl rfl ?_
  refine A_vV (kc2 := 0) (ks2 := 0) (As := [.int (nI (g 2)), .int (nI (0)), .int (nI (x))]) (rest := []) hg lk_RX11_176 in_X11_putsStick se_X11_putsStick rfl dX11_makesStick_11 ⟨by decide, by decide⟩ rfl rfl ⟨by decide, by decide⟩ hc0 (by omega) rfl rfl (Nat.le_of_ble_eq_true rfl) (c_X11_putsStick G ex n σ F g (g 2) 0 x hc0 hc1 (by omega) (by omega)) ?_
  rintro σ_3 ⟨hc_1, hf_2⟩
  have hc_4 : σ_3 279 = o11 G F := (hf_2 _ (by omega)).trans hc0
  refine A_aload_n hg dX11_makesStick_14 rfl rfl ?_
  refine A_iload_n hg dX11_makesStick_15 rfl rfl ?_
  refine A_iconst (v := (nI (1))) hg dX11_makesStick_16 (by decide) ?_
  refine A_iload_n hg dX11_makesStick_17 rfl rfl ?_
  refine A_vV (kc2 := 0) (ks2 := 0) (As := [.int (nI (g 2)), .int (nI (1)), .int (nI (y))]) (rest := []) hg lk_RX11_176 in_X11_putsStick se_X11_putsStick rfl dX11_makesStick_18 ⟨by decide, by decide⟩ rfl rfl ⟨by decide, by decide⟩ hc_4 (by omega) rfl rfl (Nat.le_of_ble_eq_true rfl) (c_X11_putsStick G ex n σ_3 F (va_up g (153 + 3 * (g 2) + 0) x) (g 2) 1 y hc_4 hc_1 (by omega) (by omega)) ?_
  rintro σ_7 ⟨hc_5, hf_6⟩
  have hc_8 : σ_7 279 = o11 G F := (hf_6 _ (by omega)).trans hc_4
  refine A_aload_n hg dX11_makesStick_21 rfl rfl ?_
  refine A_iload_n hg dX11_makesStick_22 rfl rfl ?_
  refine A_iconst (v := (nI (2))) hg dX11_makesStick_23 (by decide) ?_
  refine A_iload_n hg dX11_makesStick_24 rfl rfl ?_
  refine A_vV (kc2 := 0) (ks2 := 0) (As := [.int (nI (g 2)), .int (nI (2)), .int (nI (x))]) (rest := []) hg lk_RX11_176 in_X11_putsStick se_X11_putsStick rfl dX11_makesStick_25 ⟨by decide, by decide⟩ rfl rfl ⟨by decide, by decide⟩ hc_8 (by omega) rfl rfl (Nat.le_of_ble_eq_true rfl) (c_X11_putsStick G ex n σ_7 F (va_up (va_up g (153 + 3 * (g 2) + 0) x) (153 + 3 * (g 2) + 1) y) (g 2) 2 x hc_8 hc_5 (by omega) (by omega)) ?_
  rintro σ_11 ⟨hc_9, hf_10⟩
  have hc_12 : σ_11 279 = o11 G F := (hf_10 _ (by omega)).trans hc_8
  refine A_aload_n hg dX11_makesStick_28 rfl rfl ?_
  refine A_getf (v := .ref (q_h G + 280)) hg fl_RX11_7 dX11_makesStick_29 hc_12 (by omega) rfl ?_
  refine A_iconst (v := (nI (2))) hg dX11_makesStick_32 (by decide) ?_
  refine A_dup2 hg dX11_makesStick_33 rfl rfl ?_
  refine A_iald (j := 2) hg dX11_makesStick_34 hc_9 (by omega) (by omega) (by decide) ?_
  refine A_iconst (v := (nI (1))) hg dX11_makesStick_35 (by decide) ?_
  refine A_iaddN hg dX11_makesStick_36 ?_
  refine A_iast (j := 2) (x := (((va_up (va_up (va_up g (153 + 3 * (g 2) + 0) x) (153 + 3 * (g 2) + 1) y) (153 + 3 * (g 2) + 2) x) 2) + 1)) hg dX11_makesStick_37 hc_9 (by omega) (by omega) (by decide) (fun σ_13 hc_14 hf_15 => ?_)
  have hc_16 : σ_13 279 = o11 G F := (hf_15 _ (by omega)).trans hc_12
  refine A_canon (s_addS g x y) hc_14 (fun jj _ => by unfold s_addS; rw [h2 _ _ _ (by omega), h2 _ _ _ (by omega), h2 _ _ _ (by omega)]) (fun σ_17 hc_18 hf_19 => ?_)
  have hc_20 : σ_17 279 = o11 G F := (hf_19 _ (by omega)).trans hc_16
  rw [hQ]
  exact A_return hg (by decide) (by decide) rfl dX11_makesStick_38 ⟨rfl, ⟨rfl, hc_18, (fun i hi => ((hf_19 i (by omega)).trans ((hf_15 i (by omega)).trans ((hf_10 i (by omega)).trans ((hf_6 i (by omega)).trans (hf_2 i (by omega)))))))⟩⟩
set_option maxRecDepth 100000 in
set_option maxHeartbeats 4000000 in
theorem c_X11_remembers (G : GL) (ex : Bool) (n : Nat) (σ : Nat → va_E) (F : Nat → Int32) (g : Nat → Nat) (a : Nat → Nat) (m : Nat) (hc0 : σ 279 = o11 G F) (hc1 : σ 280 = q_an G 265 g) (hc2 : σ 284 = q_an G 2120 a) (hn : 294 ≤ n) (hF5 : F 5 = nI m) (hm8 : m ≤ 8) : Ct G yX11_remembers cX11_remembers 2 none ⟨1, 0, 0, 24⟩ [.ref (q_h G + 279)] ex n σ (fun v9 σ2 => v9 = none ∧ ∃ (a' : Nat → Nat), (∀ j : Nat, j < 265 → a' (265 * s_pmany m + j) = g j) ∧ (∀ j : Nat, j < 265 * s_pmany m → a' j = s_pshift a m j) ∧ σ2 279 = o11 G (upd F 5 (nI (s_pmany m + 1))) ∧ σ2 284 = q_an G 2120 a' ∧ (∀ i : Nat, i ≠ 279 ∧ i ≠ 284 → σ2 i = σ i)) := by
  refine q_enter [some (.ref (q_h G + 279)), none] (by decide) (Nat.le_of_ble_eq_true rfl) rfl ?_
  intro K hg
  obtain ⟨Q, hQ⟩ : ∃ Q, Q = q_Q G K ex n 0 0 (fun v9 n' σ' => n' = n ∧ (fun v9 σ2 => v9 = none ∧ ∃ (a' : Nat → Nat), (∀ j : Nat, j < 265 → a' (265 * s_pmany m + j) = g j) ∧ (∀ j : Nat, j < 265 * s_pmany m → a' j = s_pshift a m j) ∧ σ2 279 = o11 G (upd F 5 (nI (s_pmany m + 1))) ∧ σ2 284 = q_an G 2120 a' ∧ (∀ i : Nat, i ≠ 279 ∧ i ≠ 284 → σ2 i = σ i)) v9 σ') q_noX := ⟨_, rfl⟩
  refine (?_ : AJ G K (q_Q G K ex n 0 0 _ _) 0 0 ex n 0 _ _ σ)
  rw [← hQ]
  refine A_aload_n hg dX11_remembers_0 rfl rfl ?_
  refine A_getf (v := .int (nI (m))) hg fl_RX11_70 dX11_remembers_1 hc0 (by omega) (congrArg (fun z => some (Value.int z)) hF5) ?_
  refine A_bipush (v := (nI (8))) hg dX11_remembers_4 (by decide) ?_
  refine A_icmp_neN (tgt := 50) hg dX11_remembers_6 (by omega) (by decide) (by decide) (fun c6 => ?_) (fun c6 => ?_)
  · skip
    refine A_aload_n hg dX11_remembers_50 rfl rfl ?_
    refine A_getf (v := .ref (q_h G + 280)) hg fl_RX11_7 dX11_remembers_51 hc0 (by omega) rfl ?_
    refine A_iconst (v := (nI (0))) hg dX11_remembers_54 (by decide) ?_
    refine A_aload_n hg dX11_remembers_55 rfl rfl ?_
    refine A_getf (v := .ref (q_h G + 284)) hg fl_RX11_22 dX11_remembers_56 hc0 (by omega) rfl ?_
    refine A_sipush (v := (nI (265))) hg dX11_remembers_59 (by decide) ?_
    refine A_aload_n hg dX11_remembers_62 rfl rfl ?_
    refine A_getf (v := .int (nI (m))) hg fl_RX11_70 dX11_remembers_63 hc0 (by omega) (congrArg (fun z => some (Value.int z)) hF5) ?_
    refine A_imulN hg dX11_remembers_66 ?_
    refine A_vS (kc2 := 0) (ks2 := 0) (As := [.ref (q_h G + 280), .int (nI (0)), .ref (q_h G + 284), .int (nI (265 * m))]) (rest := []) hg lk_RX11_73 st_X11_copies dX11_remembers_67 ⟨by decide, by decide⟩ rfl rfl ⟨by decide, by decide⟩ rfl rfl (Nat.le_of_ble_eq_true rfl) (c_X11_copies G ex n σ 280 284 265 2120 g a 0 (265 * m) hc1 hc2 (by omega) (by omega) (by omega) (by omega) (by omega) (by omega) (by omega) (by omega)) ?_
    rintro σ_3 ⟨fb1, hh1, hh2, hc_1, hf_2⟩
    have hc_4 : σ_3 279 = o11 G F := (hf_2 _ (by omega)).trans hc0
    have hc_5 : σ_3 280 = q_an G 265 g := (hf_2 _ (by omega)).trans hc1
    refine A_aload_n hg dX11_remembers_70 rfl rfl ?_
    refine A_dup hg dX11_remembers_71 rfl ?_
    refine A_getf (v := .int (nI (m))) hg fl_RX11_70 dX11_remembers_72 hc_4 (by omega) (congrArg (fun z => some (Value.int z)) hF5) ?_
    refine A_iconst (v := (nI (1))) hg dX11_remembers_75 (by decide) ?_
    refine A_iaddN hg dX11_remembers_76 ?_
    refine A_putf hg fl_RX11_70 dX11_remembers_77 hc_4 (by omega) (Nat.le_of_ble_eq_true rfl) rfl rfl rfl (fun σ_6 hc_7 hf_8 => ?_)
    have hc_7 : σ_6 279 = o11 G (upd F 5 (nI (m + 1))) := hc_7
    have hc_9 : σ_6 280 = q_an G 265 g := (hf_8 _ (by omega)).trans hc_5
    have hc_10 : σ_6 284 = q_an G 2120 fb1 := (hf_8 _ (by omega)).trans hc_1
    have hpm : s_pmany m = m := by unfold s_pmany; first | rw [if_pos c6, c6] | rw [if_neg c6]
    have hz : σ_6 279 = o11 G (upd F 5 (nI (s_pmany m + 1))) := by rw [hpm]; exact hc_7
    rw [hQ]
    exact A_return hg (by decide) (by decide) rfl dX11_remembers_80 ⟨rfl, ⟨rfl, fb1, (fun i hi => by rw [hpm, hh1 i hi, Nat.zero_add]), (fun i hi => by rw [hpm] at hi; rw [hh2 i (Or.inl hi)]; unfold s_pshift; first | (rw [if_pos c6]; simp only [hf i]; rw [show j = 1855 by omega]) | rw [if_neg c6]), hz, hc_10, (fun i hi => ((hf_8 i (by omega)).trans (hf_2 i (by omega))))⟩⟩
  · skip
    refine A_iconst (v := (nI (0))) hg dX11_remembers_9 (by decide) ?_
    refine A_istore_n hg dX11_remembers_10 rfl (by decide) (q_c1d rfl) ?_
    refine A_eq (ls2 := [some (.ref (q_h G + 279)), some (.int (nI (0)))]) (st2 := []) (pc2 := 0) rfl rfl ?_
    have hL11 : ∀ (fu : Nat) (j : Nat) (a1 : Nat → Nat) (σ_11 : Nat → va_E), (σ_11 279 = o11 G F) → (σ_11 280 = q_an G 265 g) → (σ_11 284 = q_an G 2120 a1) → (∀ i : Nat, i ≠ 279 ∧ i ≠ 284 → σ_11 i = σ i) → (j ≤ 1855) → (∀ i : Nat, a1 i = if i < j then a (i + 265) else a i) → (1855 - j) < fu → AJ G K Q 0 0 ex n 11 [some (.ref (q_h G + 279)), some (.int (nI (j)))] [] σ_11 := by
      intro fu
      induction fu with
      | zero => intro j a1 σ_11 hc_12 hc_13 hc_14 hf_15 hj hf hm; exact absurd hm (Nat.not_lt_zero _)
      | succ fu ih11 =>
        intro j a1 σ_11 hc_12 hc_13 hc_14 hf_15 hj hf hm11
        refine A_iload_n hg dX11_remembers_11 rfl rfl ?_
        refine A_sipush (v := (nI (1855))) hg dX11_remembers_12 (by decide) ?_
        refine A_icmp_geN (tgt := 40) hg dX11_remembers_15 (by omega) (by decide) (by decide) (fun c15 => ?_) (fun c15 => ?_)
        · skip
          refine A_aload_n hg dX11_remembers_40 rfl rfl ?_
          refine A_dup hg dX11_remembers_41 rfl ?_
          refine A_getf (v := .int (nI (m))) hg fl_RX11_70 dX11_remembers_42 hc_12 (by omega) (congrArg (fun z => some (Value.int z)) hF5) ?_
          refine A_iconst (v := (nI (1))) hg dX11_remembers_45 (by decide) ?_
          refine A_isubN hg dX11_remembers_46 (by omega) ?_
          refine A_putf hg fl_RX11_70 dX11_remembers_47 hc_12 (by omega) (Nat.le_of_ble_eq_true rfl) rfl rfl rfl (fun σ_16 hc_17 hf_18 => ?_)
          have hc_17 : σ_16 279 = o11 G (upd F 5 (nI (m - 1))) := hc_17
          have hc_19 : σ_16 280 = q_an G 265 g := (hf_18 _ (by omega)).trans hc_13
          have hc_20 : σ_16 284 = q_an G 2120 a1 := (hf_18 _ (by omega)).trans hc_14
          refine A_aload_n hg dX11_remembers_50 rfl rfl ?_
          refine A_getf (v := .ref (q_h G + 280)) hg fl_RX11_7 dX11_remembers_51 hc_17 (by omega) rfl ?_
          refine A_iconst (v := (nI (0))) hg dX11_remembers_54 (by decide) ?_
          refine A_aload_n hg dX11_remembers_55 rfl rfl ?_
          refine A_getf (v := .ref (q_h G + 284)) hg fl_RX11_22 dX11_remembers_56 hc_17 (by omega) rfl ?_
          refine A_sipush (v := (nI (265))) hg dX11_remembers_59 (by decide) ?_
          refine A_aload_n hg dX11_remembers_62 rfl rfl ?_
          refine A_getf (v := .int (nI (m - 1))) hg fl_RX11_70 dX11_remembers_63 hc_17 (by omega) rfl ?_
          refine A_imulN hg dX11_remembers_66 ?_
          refine A_vS (kc2 := 0) (ks2 := 0) (As := [.ref (q_h G + 280), .int (nI (0)), .ref (q_h G + 284), .int (nI (265 * (m - 1)))]) (rest := []) hg lk_RX11_73 st_X11_copies dX11_remembers_67 ⟨by decide, by decide⟩ rfl rfl ⟨by decide, by decide⟩ rfl rfl (Nat.le_of_ble_eq_true rfl) (c_X11_copies G ex n σ_16 280 284 265 2120 g a1 0 (265 * (m - 1)) hc_19 hc_20 (by omega) (by omega) (by omega) (by omega) (by omega) (by omega) (by omega) (by omega)) ?_
          rintro σ_23 ⟨fb1, hh1, hh2, hc_21, hf_22⟩
          have hc_24 : σ_23 280 = q_an G 265 g := (hf_22 _ (by omega)).trans hc_19
          have hc_25 : σ_23 279 = o11 G (upd F 5 (nI (m - 1))) := (hf_22 _ (by omega)).trans hc_17
          refine A_aload_n hg dX11_remembers_70 rfl rfl ?_
          refine A_dup hg dX11_remembers_71 rfl ?_
          refine A_getf (v := .int (nI (m - 1))) hg fl_RX11_70 dX11_remembers_72 hc_25 (by omega) rfl ?_
          refine A_iconst (v := (nI (1))) hg dX11_remembers_75 (by decide) ?_
          refine A_iaddN hg dX11_remembers_76 ?_
          refine A_putf hg fl_RX11_70 dX11_remembers_77 hc_25 (by omega) (Nat.le_of_ble_eq_true rfl) rfl rfl rfl (fun σ_26 hc_27 hf_28 => ?_)
          have hc_27 : σ_26 279 = o11 G (upd F 5 (nI ((m - 1) + 1))) := hc_27
          have hc_29 : σ_26 280 = q_an G 265 g := (hf_28 _ (by omega)).trans hc_24
          have hc_30 : σ_26 284 = q_an G 2120 fb1 := (hf_28 _ (by omega)).trans hc_21
          have hpm : s_pmany m = m - 1 := by unfold s_pmany; first | rw [if_pos c6, c6] | rw [if_neg c6]
          have hz : σ_26 279 = o11 G (upd F 5 (nI (s_pmany m + 1))) := by rw [hpm]; exact hc_27
          rw [hQ]
          exact A_return hg (by decide) (by decide) rfl dX11_remembers_80 ⟨rfl, ⟨rfl, fb1, (fun i hi => by rw [hpm, hh1 i hi, Nat.zero_add]), (fun i hi => by rw [hpm] at hi; rw [hh2 i (Or.inl hi)]; unfold s_pshift; first | (rw [if_pos c6]; simp only [hf i]; rw [show j = 1855 by omega]) | rw [if_neg c6]), hz, hc_30, (fun i hi => ((hf_28 i (by omega)).trans ((hf_22 i (by omega)).trans ((hf_18 i (by omega)).trans (hf_15 i (by omega))))))⟩⟩
        · skip
          refine A_aload_n hg dX11_remembers_18 rfl rfl ?_
          refine A_getf (v := .ref (q_h G + 284)) hg fl_RX11_22 dX11_remembers_19 hc_12 (by omega) rfl ?_
          refine A_iload_n hg dX11_remembers_22 rfl rfl ?_
          refine A_aload_n hg dX11_remembers_23 rfl rfl ?_
          refine A_getf (v := .ref (q_h G + 284)) hg fl_RX11_22 dX11_remembers_24 hc_12 (by omega) rfl ?_
          refine A_iload_n hg dX11_remembers_27 rfl rfl ?_
          refine A_sipush (v := (nI (265))) hg dX11_remembers_28 (by decide) ?_
          refine A_iaddN hg dX11_remembers_31 ?_
          refine A_iald (j := (j + 265)) hg dX11_remembers_32 hc_14 (by omega) (by omega) (by decide) ?_
          refine A_iast (j := j) (x := (a1 (j + 265))) hg dX11_remembers_33 hc_14 (by omega) (by omega) (by decide) (fun σ_31 hc_32 hf_33 => ?_)
          have hc_34 : σ_31 279 = o11 G F := (hf_33 _ (by omega)).trans hc_12
          have hc_35 : σ_31 280 = q_an G 265 g := (hf_33 _ (by omega)).trans hc_13
          refine A_iincN (k' := 1) hg dX11_remembers_34 (by decide) rfl (by decide) (q_c1d rfl) ?_
          refine A_eq (ls2 := [some (.ref (q_h G + 279)), some (.int (nI (j + 1)))]) (st2 := []) (pc2 := 0) rfl rfl ?_
          refine A_goto (tgt := 11) hg dX11_remembers_37 (by decide) ?_
          exact ih11 (j + 1) (va_up a1 j (a1 (j + 265))) σ_31 hc_34 hc_35 hc_32 (fun i hi => ((hf_33 i (by omega)).trans (hf_15 i (by omega)))) (by omega) (q_sh265 hf) (by omega)
    exact hL11 _ 0 a σ hc0 hc1 hc2 (fun _ _ => rfl) (by omega) (fun i => by rw [if_neg (by omega)]) (Nat.lt_succ_self _)
end
