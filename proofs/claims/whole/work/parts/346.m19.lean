section
set_option maxRecDepth 100000 in
set_option maxHeartbeats 4000000 in
theorem c_X11_setSlack (G : GL) (ex : Bool) (n : Nat) (σ : Nat → va_E) (F : Nat → Int32) (g : Nat → Nat) (a : Nat → Nat) (m : Nat) (r : Int32) (x : Int32) (hc0 : σ 279 = o11 G F) (hc1 : σ 280 = q_an G 265 g) (hc2 : σ 284 = q_an G 2120 a) (hn : 294 ≤ n) (hg9 : s_gwf g) (hF5 : F 5 = nI m) (hm8 : m ≤ 8) : Ct G yX11_setSlack cX11_setSlack 3 (some .int) ⟨3, 0, 0, 69⟩ [.ref (q_h G + 279), .int (r), .int (x)] ex n σ (fun v9 σ2 => (v9 = some (.int (nI (0))) ∧ (∀ j : Nat, j < g 0 → r = nI j → False) ∧ σ2 279 = o11 G (upd F 7 (nI (1))) ∧ (∀ i : Nat, i ≠ 279 → σ2 i = σ i)) ∨ (∃ (r1 : Nat), v9 = some (.int (nI (0))) ∧ (r = nI r1) ∧ (r1 < g 0) ∧ (∀ j : Nat, 0 ≤ j → j ≤ 5 → x = nI j → False) ∧ σ2 279 = o11 G (upd F 7 (nI (2))) ∧ (∀ i : Nat, i ≠ 279 → σ2 i = σ i)) ∨ (∃ (r1 : Nat), ∃ (x1 : Nat), ∃ (a' : Nat → Nat), v9 = some (.int (nI (s_rule g r1 18))) ∧ (r = nI r1) ∧ (r1 < g 0) ∧ (x = nI x1) ∧ (0 ≤ x1) ∧ (x1 ≤ 5) ∧ (∀ j : Nat, j < 265 → a' (265 * s_pmany m + j) = g j) ∧ (∀ j : Nat, j < 265 * s_pmany m → a' j = s_pshift a m j) ∧ σ2 279 = o11 G (upd (upd F 5 (nI (s_pmany m + 1))) 7 (nI (0))) ∧ σ2 280 = q_an G 265 (s_rset g r1 18 x1) ∧ σ2 284 = q_an G 2120 a' ∧ (∀ i : Nat, i ≠ 279 ∧ i ≠ 280 ∧ i ≠ 284 → σ2 i = σ i))) := by
  refine q_enter [some (.ref (q_h G + 279)), some (.int (r)), some (.int (x))] (by decide) (Nat.le_of_ble_eq_true rfl) rfl ?_
  intro K hg
  obtain ⟨Q, hQ⟩ : ∃ Q, Q = q_Q G K ex n 0 0 (fun v9 n' σ' => n' = n ∧ (fun v9 σ2 => (v9 = some (.int (nI (0))) ∧ (∀ j : Nat, j < g 0 → r = nI j → False) ∧ σ2 279 = o11 G (upd F 7 (nI (1))) ∧ (∀ i : Nat, i ≠ 279 → σ2 i = σ i)) ∨ (∃ (r1 : Nat), v9 = some (.int (nI (0))) ∧ (r = nI r1) ∧ (r1 < g 0) ∧ (∀ j : Nat, 0 ≤ j → j ≤ 5 → x = nI j → False) ∧ σ2 279 = o11 G (upd F 7 (nI (2))) ∧ (∀ i : Nat, i ≠ 279 → σ2 i = σ i)) ∨ (∃ (r1 : Nat), ∃ (x1 : Nat), ∃ (a' : Nat → Nat), v9 = some (.int (nI (s_rule g r1 18))) ∧ (r = nI r1) ∧ (r1 < g 0) ∧ (x = nI x1) ∧ (0 ≤ x1) ∧ (x1 ≤ 5) ∧ (∀ j : Nat, j < 265 → a' (265 * s_pmany m + j) = g j) ∧ (∀ j : Nat, j < 265 * s_pmany m → a' j = s_pshift a m j) ∧ σ2 279 = o11 G (upd (upd F 5 (nI (s_pmany m + 1))) 7 (nI (0))) ∧ σ2 280 = q_an G 265 (s_rset g r1 18 x1) ∧ σ2 284 = q_an G 2120 a' ∧ (∀ i : Nat, i ≠ 279 ∧ i ≠ 280 ∧ i ≠ 284 → σ2 i = σ i))) v9 σ') q_noX := ⟨_, rfl⟩
  refine (?_ : AJ G K (q_Q G K ex n 0 0 _ _) 0 0 ex n 0 _ _ σ)
  rw [← hQ]
  have hnr : g 0 ≤ 4 := hg9.1
  refine A_aload_n hg dX11_setSlack_0 rfl rfl ?_
  refine A_iconst (v := (nI (0))) hg dX11_setSlack_1 (by decide) ?_
  refine A_putf hg fl_RX11_67 dX11_setSlack_2 hc0 (by omega) (Nat.le_of_ble_eq_true rfl) rfl rfl rfl (fun σ_1 hc_2 hf_3 => ?_)
  have hc_2 : σ_1 279 = o11 G (upd F 7 (nI (0))) := hc_2
  have hc_4 : σ_1 280 = q_an G 265 g := (hf_3 _ (by omega)).trans hc1
  have hc_5 : σ_1 284 = q_an G 2120 a := (hf_3 _ (by omega)).trans hc2
  refine A_aload_n hg dX11_setSlack_5 rfl rfl ?_
  refine A_iload_n hg dX11_setSlack_6 rfl rfl ?_
  refine A_hV (kc2 := 0) (ks2 := 0) (As := [.int (r)]) (rest := []) hg lk_RX11_402 in_X11_noRule se_X11_noRule rfl dX11_setSlack_7 ⟨by decide, by decide⟩ rfl rfl ⟨by decide, by decide⟩ hc_2 (by omega) rfl rfl (Nat.le_of_ble_eq_true rfl) (c_X11_noRule G ex n σ_1 (upd F 7 (nI (0))) g r hc_2 hc_4 (by omega) (by omega)) ?_
  rintro _ σ_9 (⟨rfl, hno, hc_6, hf_7⟩ | ⟨r1, rfl, hre, hrl, he_8⟩)
  · skip
    refine (?_ : AJ G K Q 0 0 ex n 10 [some (.ref (q_h G + 279)), some (.int (r)), some (.int (x))] [.int (nI (1))] σ_9)
    have hc_6 : σ_9 279 = o11 G (upd F 7 (nI (1))) := hc_6
    have hc_10 : σ_9 280 = q_an G 265 g := (hf_7 _ (by omega)).trans hc_4
    have hc_11 : σ_9 284 = q_an G 2120 a := (hf_7 _ (by omega)).trans hc_5
    refine A_if_neN (tgt := 35) hg dX11_setSlack_10 (by decide) (by decide) (fun c10 => ?_) (fun c10 => absurd c10 (by decide))
    refine A_iconst (v := (nI (0))) hg dX11_setSlack_35 (by decide) ?_
    refine A_goto (tgt := 47) hg dX11_setSlack_36 (by decide) ?_
    rw [hQ]
    exact A_ireturn hg (by decide) (by decide) rfl dX11_setSlack_47 ⟨rfl, Or.inl (⟨rfl, (by first | rfl | assumption | omega), hc_6, (fun i hi => ((hf_7 i (by omega)).trans (hf_3 i (by omega))))⟩)⟩
  · skip
    rw [he_8]
    refine (?_ : AJ G K Q 0 0 ex n 10 [some (.ref (q_h G + 279)), some (.int (r)), some (.int (x))] [.int (nI (0))] σ_1)
    refine A_if_neN (tgt := 35) hg dX11_setSlack_10 (by decide) (by decide) (fun c10 => absurd (by decide) c10) (fun c10 => ?_)
    subst hre
    have hw := hg9.2.2.2.2.2.1 r1 hrl
    have hu0 := hw.1
    have hu9 := hw.2.1
    have hu18 := hw.2.2.1
    have hu19 := hw.2.2.2.1
    have hu20 := hw.2.2.2.2.1
    refine A_aload_n hg dX11_setSlack_13 rfl rfl ?_
    refine A_iload_n hg dX11_setSlack_14 rfl rfl ?_
    refine A_iconst (v := (nI (0))) hg dX11_setSlack_15 (by decide) ?_
    refine A_iconst (v := (nI (5))) hg dX11_setSlack_16 (by decide) ?_
    refine A_eS (kc2 := 0) (ks2 := 0) (As := [.int (x), .int (nI (0)), .int (nI (5))]) (rest := [.ref (q_h G + 279)]) hg lk_RX11_77 st_X11_inRange dX11_setSlack_17 ⟨by decide, by decide⟩ rfl rfl ⟨by decide, by decide⟩ rfl rfl (Nat.le_of_ble_eq_true rfl) (c_X11_inRange G ex n σ_1 x (nI (0)) (nI (5))) ?_
    refine A_if_neB (tgt := 27) hg dX11_setSlack_20 (by decide) (fun c20 => ?_) (fun c20 => ?_)
    · skip
      refine A_iconst (v := (nI (0))) hg dX11_setSlack_27 (by decide) ?_
      refine A_iconst (v := (nI (2))) hg dX11_setSlack_28 (by decide) ?_
      refine A_eV (kc2 := 0) (ks2 := 0) (As := [.int (nI (0)), .int (nI (2))]) (rest := []) hg lk_RX11_81 in_X11_fails se_X11_fails rfl dX11_setSlack_29 ⟨by decide, by decide⟩ rfl rfl ⟨by decide, by decide⟩ hc_2 (by omega) rfl rfl (Nat.le_of_ble_eq_true rfl) (c_X11_fails0 G ex n σ_1 (upd F 7 (nI (0))) (nI (2)) hc_2 (by omega)) ?_
      refine A_if_eqN (tgt := 39) hg dX11_setSlack_32 (by decide) (by decide) (fun c32 => ?_) (fun c32 => absurd (by decide) c32)
      obtain ⟨x1, hxe, hxa, hxl⟩ := q_in_nat (by decide) c20 (by decide)
      subst hxe
      refine A_aload_n hg dX11_setSlack_39 rfl rfl ?_
      refine A_iload_n hg dX11_setSlack_40 rfl rfl ?_
      refine A_bipush (v := (nI (18))) hg dX11_setSlack_41 (by decide) ?_
      refine A_iload_n hg dX11_setSlack_43 rfl rfl ?_
      refine A_hV (kc2 := 0) (ks2 := 0) (As := [.int (nI (r1)), .int (nI (18)), .int (nI (x1))]) (rest := []) hg lk_RX11_469 in_X11_setsRule se_X11_setsRule rfl dX11_setSlack_44 ⟨by decide, by decide⟩ rfl rfl ⟨by decide, by decide⟩ hc_2 (by omega) rfl rfl (Nat.le_of_ble_eq_true rfl) (c_X11_setsRule G ex n σ_1 (upd F 7 (nI (0))) g a m r1 18 x1 hc_2 hc_4 hc_5 (by omega) (by omega) (by omega) hF5 (by omega)) ?_
      rintro _ σ_16 ⟨a', rfl, hnew, hold, hc_12, hc_13, hc_14, hf_15⟩
      refine (?_ : AJ G K Q 0 0 ex n 47 [some (.ref (q_h G + 279)), some (.int (nI (r1))), some (.int (nI (x1)))] [.int (nI (s_rule g r1 18))] σ_16)
      have hc_12 : σ_16 279 = o11 G (upd (upd F 5 (nI (s_pmany m + 1))) 7 (nI (0))) := hc_12
      rw [hQ]
      exact A_ireturn hg (by decide) (by decide) rfl dX11_setSlack_47 ⟨rfl, Or.inr (Or.inr ((⟨r1, x1, a', rfl, (by first | rfl | assumption | omega), (by first | rfl | assumption | omega), (by first | rfl | assumption | omega), (by first | rfl | assumption | omega), (by first | rfl | assumption | omega), hnew, hold, hc_12, hc_13, hc_14, (fun i hi => ((hf_15 i (by omega)).trans (hf_3 i (by omega))))⟩)))⟩
    · skip
      refine A_iconst (v := (nI (1))) hg dX11_setSlack_23 (by decide) ?_
      refine A_goto (tgt := 28) hg dX11_setSlack_24 (by decide) ?_
      refine A_iconst (v := (nI (2))) hg dX11_setSlack_28 (by decide) ?_
      refine A_hV (kc2 := 0) (ks2 := 0) (As := [.int (nI (1)), .int (nI (2))]) (rest := []) hg lk_RX11_81 in_X11_fails se_X11_fails rfl dX11_setSlack_29 ⟨by decide, by decide⟩ rfl rfl ⟨by decide, by decide⟩ hc_2 (by omega) rfl rfl (Nat.le_of_ble_eq_true rfl) (c_X11_fails1 G ex n σ_1 (upd F 7 (nI (0))) 2 hc_2 (by omega)) ?_
      rintro _ σ_19 ⟨rfl, hc_17, hf_18⟩
      refine (?_ : AJ G K Q 0 0 ex n 32 [some (.ref (q_h G + 279)), some (.int (nI (r1))), some (.int (x))] [.int (nI (1))] σ_19)
      have hc_17 : σ_19 279 = o11 G (upd F 7 (nI (2))) := hc_17
      have hc_20 : σ_19 280 = q_an G 265 g := (hf_18 _ (by omega)).trans hc_4
      have hc_21 : σ_19 284 = q_an G 2120 a := (hf_18 _ (by omega)).trans hc_5
      refine A_if_eqN (tgt := 39) hg dX11_setSlack_32 (by decide) (by decide) (fun c32 => absurd c32 (by decide)) (fun c32 => ?_)
      refine A_iconst (v := (nI (0))) hg dX11_setSlack_35 (by decide) ?_
      refine A_goto (tgt := 47) hg dX11_setSlack_36 (by decide) ?_
      rw [hQ]
      exact A_ireturn hg (by decide) (by decide) rfl dX11_setSlack_47 ⟨rfl, Or.inr (Or.inl (⟨r1, rfl, (by first | rfl | assumption | omega), (by first | rfl | assumption | omega), (q_range_f (by decide) c20), hc_17, (fun i hi => ((hf_18 i (by omega)).trans (hf_3 i (by omega))))⟩))⟩
set_option maxRecDepth 100000 in
set_option maxHeartbeats 4000000 in
theorem c_X11_setMost (G : GL) (ex : Bool) (n : Nat) (σ : Nat → va_E) (F : Nat → Int32) (g : Nat → Nat) (a : Nat → Nat) (m : Nat) (r : Int32) (x : Int32) (hc0 : σ 279 = o11 G F) (hc1 : σ 280 = q_an G 265 g) (hc2 : σ 284 = q_an G 2120 a) (hn : 294 ≤ n) (hg9 : s_gwf g) (hF5 : F 5 = nI m) (hm8 : m ≤ 8) : Ct G yX11_setMost cX11_setMost 3 (some .int) ⟨3, 0, 0, 69⟩ [.ref (q_h G + 279), .int (r), .int (x)] ex n σ (fun v9 σ2 => (v9 = some (.int (nI (0))) ∧ (∀ j : Nat, j < g 0 → r = nI j → False) ∧ σ2 279 = o11 G (upd F 7 (nI (1))) ∧ (∀ i : Nat, i ≠ 279 → σ2 i = σ i)) ∨ (∃ (r1 : Nat), v9 = some (.int (nI (0))) ∧ (r = nI r1) ∧ (r1 < g 0) ∧ (∀ j : Nat, 1 ≤ j → j ≤ 40 → x = nI j → False) ∧ σ2 279 = o11 G (upd F 7 (nI (2))) ∧ (∀ i : Nat, i ≠ 279 → σ2 i = σ i)) ∨ (∃ (r1 : Nat), ∃ (x1 : Nat), ∃ (a' : Nat → Nat), v9 = some (.int (nI (s_rule g r1 19))) ∧ (r = nI r1) ∧ (r1 < g 0) ∧ (x = nI x1) ∧ (1 ≤ x1) ∧ (x1 ≤ 40) ∧ (∀ j : Nat, j < 265 → a' (265 * s_pmany m + j) = g j) ∧ (∀ j : Nat, j < 265 * s_pmany m → a' j = s_pshift a m j) ∧ σ2 279 = o11 G (upd (upd F 5 (nI (s_pmany m + 1))) 7 (nI (0))) ∧ σ2 280 = q_an G 265 (s_rset g r1 19 x1) ∧ σ2 284 = q_an G 2120 a' ∧ (∀ i : Nat, i ≠ 279 ∧ i ≠ 280 ∧ i ≠ 284 → σ2 i = σ i))) := by
  refine q_enter [some (.ref (q_h G + 279)), some (.int (r)), some (.int (x))] (by decide) (Nat.le_of_ble_eq_true rfl) rfl ?_
  intro K hg
  obtain ⟨Q, hQ⟩ : ∃ Q, Q = q_Q G K ex n 0 0 (fun v9 n' σ' => n' = n ∧ (fun v9 σ2 => (v9 = some (.int (nI (0))) ∧ (∀ j : Nat, j < g 0 → r = nI j → False) ∧ σ2 279 = o11 G (upd F 7 (nI (1))) ∧ (∀ i : Nat, i ≠ 279 → σ2 i = σ i)) ∨ (∃ (r1 : Nat), v9 = some (.int (nI (0))) ∧ (r = nI r1) ∧ (r1 < g 0) ∧ (∀ j : Nat, 1 ≤ j → j ≤ 40 → x = nI j → False) ∧ σ2 279 = o11 G (upd F 7 (nI (2))) ∧ (∀ i : Nat, i ≠ 279 → σ2 i = σ i)) ∨ (∃ (r1 : Nat), ∃ (x1 : Nat), ∃ (a' : Nat → Nat), v9 = some (.int (nI (s_rule g r1 19))) ∧ (r = nI r1) ∧ (r1 < g 0) ∧ (x = nI x1) ∧ (1 ≤ x1) ∧ (x1 ≤ 40) ∧ (∀ j : Nat, j < 265 → a' (265 * s_pmany m + j) = g j) ∧ (∀ j : Nat, j < 265 * s_pmany m → a' j = s_pshift a m j) ∧ σ2 279 = o11 G (upd (upd F 5 (nI (s_pmany m + 1))) 7 (nI (0))) ∧ σ2 280 = q_an G 265 (s_rset g r1 19 x1) ∧ σ2 284 = q_an G 2120 a' ∧ (∀ i : Nat, i ≠ 279 ∧ i ≠ 280 ∧ i ≠ 284 → σ2 i = σ i))) v9 σ') q_noX := ⟨_, rfl⟩
  refine (?_ : AJ G K (q_Q G K ex n 0 0 _ _) 0 0 ex n 0 _ _ σ)
  rw [← hQ]
  have hnr : g 0 ≤ 4 := hg9.1
  refine A_aload_n hg dX11_setMost_0 rfl rfl ?_
  refine A_iconst (v := (nI (0))) hg dX11_setMost_1 (by decide) ?_
  refine A_putf hg fl_RX11_67 dX11_setMost_2 hc0 (by omega) (Nat.le_of_ble_eq_true rfl) rfl rfl rfl (fun σ_1 hc_2 hf_3 => ?_)
  have hc_2 : σ_1 279 = o11 G (upd F 7 (nI (0))) := hc_2
  have hc_4 : σ_1 280 = q_an G 265 g := (hf_3 _ (by omega)).trans hc1
  have hc_5 : σ_1 284 = q_an G 2120 a := (hf_3 _ (by omega)).trans hc2
  refine A_aload_n hg dX11_setMost_5 rfl rfl ?_
  refine A_iload_n hg dX11_setMost_6 rfl rfl ?_
  refine A_hV (kc2 := 0) (ks2 := 0) (As := [.int (r)]) (rest := []) hg lk_RX11_402 in_X11_noRule se_X11_noRule rfl dX11_setMost_7 ⟨by decide, by decide⟩ rfl rfl ⟨by decide, by decide⟩ hc_2 (by omega) rfl rfl (Nat.le_of_ble_eq_true rfl) (c_X11_noRule G ex n σ_1 (upd F 7 (nI (0))) g r hc_2 hc_4 (by omega) (by omega)) ?_
  rintro _ σ_9 (⟨rfl, hno, hc_6, hf_7⟩ | ⟨r1, rfl, hre, hrl, he_8⟩)
  · skip
    refine (?_ : AJ G K Q 0 0 ex n 10 [some (.ref (q_h G + 279)), some (.int (r)), some (.int (x))] [.int (nI (1))] σ_9)
    have hc_6 : σ_9 279 = o11 G (upd F 7 (nI (1))) := hc_6
    have hc_10 : σ_9 280 = q_an G 265 g := (hf_7 _ (by omega)).trans hc_4
    have hc_11 : σ_9 284 = q_an G 2120 a := (hf_7 _ (by omega)).trans hc_5
    refine A_if_neN (tgt := 36) hg dX11_setMost_10 (by decide) (by decide) (fun c10 => ?_) (fun c10 => absurd c10 (by decide))
    refine A_iconst (v := (nI (0))) hg dX11_setMost_36 (by decide) ?_
    refine A_goto (tgt := 48) hg dX11_setMost_37 (by decide) ?_
    rw [hQ]
    exact A_ireturn hg (by decide) (by decide) rfl dX11_setMost_48 ⟨rfl, Or.inl (⟨rfl, (by first | rfl | assumption | omega), hc_6, (fun i hi => ((hf_7 i (by omega)).trans (hf_3 i (by omega))))⟩)⟩
  · skip
    rw [he_8]
    refine (?_ : AJ G K Q 0 0 ex n 10 [some (.ref (q_h G + 279)), some (.int (r)), some (.int (x))] [.int (nI (0))] σ_1)
    refine A_if_neN (tgt := 36) hg dX11_setMost_10 (by decide) (by decide) (fun c10 => absurd (by decide) c10) (fun c10 => ?_)
    subst hre
    have hw := hg9.2.2.2.2.2.1 r1 hrl
    have hu0 := hw.1
    have hu9 := hw.2.1
    have hu18 := hw.2.2.1
    have hu19 := hw.2.2.2.1
    have hu20 := hw.2.2.2.2.1
    refine A_aload_n hg dX11_setMost_13 rfl rfl ?_
    refine A_iload_n hg dX11_setMost_14 rfl rfl ?_
    refine A_iconst (v := (nI (1))) hg dX11_setMost_15 (by decide) ?_
    refine A_bipush (v := (nI (40))) hg dX11_setMost_16 (by decide) ?_
    refine A_eS (kc2 := 0) (ks2 := 0) (As := [.int (x), .int (nI (1)), .int (nI (40))]) (rest := [.ref (q_h G + 279)]) hg lk_RX11_77 st_X11_inRange dX11_setMost_18 ⟨by decide, by decide⟩ rfl rfl ⟨by decide, by decide⟩ rfl rfl (Nat.le_of_ble_eq_true rfl) (c_X11_inRange G ex n σ_1 x (nI (1)) (nI (40))) ?_
    refine A_if_neB (tgt := 28) hg dX11_setMost_21 (by decide) (fun c21 => ?_) (fun c21 => ?_)
    · skip
      refine A_iconst (v := (nI (0))) hg dX11_setMost_28 (by decide) ?_
      refine A_iconst (v := (nI (2))) hg dX11_setMost_29 (by decide) ?_
      refine A_eV (kc2 := 0) (ks2 := 0) (As := [.int (nI (0)), .int (nI (2))]) (rest := []) hg lk_RX11_81 in_X11_fails se_X11_fails rfl dX11_setMost_30 ⟨by decide, by decide⟩ rfl rfl ⟨by decide, by decide⟩ hc_2 (by omega) rfl rfl (Nat.le_of_ble_eq_true rfl) (c_X11_fails0 G ex n σ_1 (upd F 7 (nI (0))) (nI (2)) hc_2 (by omega)) ?_
      refine A_if_eqN (tgt := 40) hg dX11_setMost_33 (by decide) (by decide) (fun c33 => ?_) (fun c33 => absurd (by decide) c33)
      obtain ⟨x1, hxe, hxa, hxl⟩ := q_in_nat (by decide) c21 (by decide)
      subst hxe
      refine A_aload_n hg dX11_setMost_40 rfl rfl ?_
      refine A_iload_n hg dX11_setMost_41 rfl rfl ?_
      refine A_bipush (v := (nI (19))) hg dX11_setMost_42 (by decide) ?_
      refine A_iload_n hg dX11_setMost_44 rfl rfl ?_
      refine A_hV (kc2 := 0) (ks2 := 0) (As := [.int (nI (r1)), .int (nI (19)), .int (nI (x1))]) (rest := []) hg lk_RX11_469 in_X11_setsRule se_X11_setsRule rfl dX11_setMost_45 ⟨by decide, by decide⟩ rfl rfl ⟨by decide, by decide⟩ hc_2 (by omega) rfl rfl (Nat.le_of_ble_eq_true rfl) (c_X11_setsRule G ex n σ_1 (upd F 7 (nI (0))) g a m r1 19 x1 hc_2 hc_4 hc_5 (by omega) (by omega) (by omega) hF5 (by omega)) ?_
      rintro _ σ_16 ⟨a', rfl, hnew, hold, hc_12, hc_13, hc_14, hf_15⟩
      refine (?_ : AJ G K Q 0 0 ex n 48 [some (.ref (q_h G + 279)), some (.int (nI (r1))), some (.int (nI (x1)))] [.int (nI (s_rule g r1 19))] σ_16)
      have hc_12 : σ_16 279 = o11 G (upd (upd F 5 (nI (s_pmany m + 1))) 7 (nI (0))) := hc_12
      rw [hQ]
      exact A_ireturn hg (by decide) (by decide) rfl dX11_setMost_48 ⟨rfl, Or.inr (Or.inr ((⟨r1, x1, a', rfl, (by first | rfl | assumption | omega), (by first | rfl | assumption | omega), (by first | rfl | assumption | omega), (by first | rfl | assumption | omega), (by first | rfl | assumption | omega), hnew, hold, hc_12, hc_13, hc_14, (fun i hi => ((hf_15 i (by omega)).trans (hf_3 i (by omega))))⟩)))⟩
    · skip
      refine A_iconst (v := (nI (1))) hg dX11_setMost_24 (by decide) ?_
      refine A_goto (tgt := 29) hg dX11_setMost_25 (by decide) ?_
      refine A_iconst (v := (nI (2))) hg dX11_setMost_29 (by decide) ?_
      refine A_hV (kc2 := 0) (ks2 := 0) (As := [.int (nI (1)), .int (nI (2))]) (rest := []) hg lk_RX11_81 in_X11_fails se_X11_fails rfl dX11_setMost_30 ⟨by decide, by decide⟩ rfl rfl ⟨by decide, by decide⟩ hc_2 (by omega) rfl rfl (Nat.le_of_ble_eq_true rfl) (c_X11_fails1 G ex n σ_1 (upd F 7 (nI (0))) 2 hc_2 (by omega)) ?_
      rintro _ σ_19 ⟨rfl, hc_17, hf_18⟩
      refine (?_ : AJ G K Q 0 0 ex n 33 [some (.ref (q_h G + 279)), some (.int (nI (r1))), some (.int (x))] [.int (nI (1))] σ_19)
      have hc_17 : σ_19 279 = o11 G (upd F 7 (nI (2))) := hc_17
      have hc_20 : σ_19 280 = q_an G 265 g := (hf_18 _ (by omega)).trans hc_4
      have hc_21 : σ_19 284 = q_an G 2120 a := (hf_18 _ (by omega)).trans hc_5
      refine A_if_eqN (tgt := 40) hg dX11_setMost_33 (by decide) (by decide) (fun c33 => absurd c33 (by decide)) (fun c33 => ?_)
      refine A_iconst (v := (nI (0))) hg dX11_setMost_36 (by decide) ?_
      refine A_goto (tgt := 48) hg dX11_setMost_37 (by decide) ?_
      rw [hQ]
      exact A_ireturn hg (by decide) (by decide) rfl dX11_setMost_48 ⟨rfl, Or.inr (Or.inl (⟨r1, rfl, (by first | rfl | assumption | omega), (by first | rfl | assumption | omega), (q_range_f (by decide) c21), hc_17, (fun i hi => ((hf_18 i (by omega)).trans (hf_3 i (by omega))))⟩))⟩
set_option maxRecDepth 100000 in
set_option maxHeartbeats 4000000 in
theorem c_X11_keep (G : GL) (ex : Bool) (n : Nat) (σ : Nat → va_E) (F : Nat → Int32) (g : Nat → Nat) (sh : Nat → Nat) (ss : Nat) (x : Int32) (hc0 : σ 279 = o11 G F) (hc1 : σ 280 = q_an G 265 g) (hc2 : σ 283 = q_an G 530 sh) (hn : 294 ≤ n) (hF6 : F 6 = nI ss) (hss : ss < 16) : Ct G yX11_keep cX11_keep 2 (some .int) ⟨2, 0, 0, 43⟩ [.ref (q_h G + 279), .int (x)] ex n σ (fun v9 σ2 => (v9 = some (.int (nI (0))) ∧ (∀ j : Nat, 0 ≤ j → j ≤ 1 → x = nI j → False) ∧ σ2 279 = o11 G (upd F 7 (nI (1))) ∧ (∀ i : Nat, i ≠ 279 → σ2 i = σ i)) ∨ (∃ (s1 : Nat), ∃ (sh' : Nat → Nat), v9 = some (.int (nI (g 4))) ∧ (x = nI s1) ∧ (s1 ≤ 1) ∧ (∀ j : Nat, j < 265 → sh' (265 * s1 + j) = g j) ∧ (∀ j : Nat, (j < 265 * s1 ∨ 265 * s1 + 265 ≤ j) → sh' j = sh j) ∧ σ2 279 = o11 G (upd (upd F 6 (nI (ss ||| 2 ^ s1))) 7 (nI (0))) ∧ σ2 283 = q_an G 530 sh' ∧ (∀ i : Nat, i ≠ 279 ∧ i ≠ 283 → σ2 i = σ i))) := by
  refine q_enter [some (.ref (q_h G + 279)), some (.int (x))] (by decide) (Nat.le_of_ble_eq_true rfl) rfl ?_
  intro K hg
  obtain ⟨Q, hQ⟩ : ∃ Q, Q = q_Q G K ex n 0 0 (fun v9 n' σ' => n' = n ∧ (fun v9 σ2 => (v9 = some (.int (nI (0))) ∧ (∀ j : Nat, 0 ≤ j → j ≤ 1 → x = nI j → False) ∧ σ2 279 = o11 G (upd F 7 (nI (1))) ∧ (∀ i : Nat, i ≠ 279 → σ2 i = σ i)) ∨ (∃ (s1 : Nat), ∃ (sh' : Nat → Nat), v9 = some (.int (nI (g 4))) ∧ (x = nI s1) ∧ (s1 ≤ 1) ∧ (∀ j : Nat, j < 265 → sh' (265 * s1 + j) = g j) ∧ (∀ j : Nat, (j < 265 * s1 ∨ 265 * s1 + 265 ≤ j) → sh' j = sh j) ∧ σ2 279 = o11 G (upd (upd F 6 (nI (ss ||| 2 ^ s1))) 7 (nI (0))) ∧ σ2 283 = q_an G 530 sh' ∧ (∀ i : Nat, i ≠ 279 ∧ i ≠ 283 → σ2 i = σ i))) v9 σ') q_noX := ⟨_, rfl⟩
  refine (?_ : AJ G K (q_Q G K ex n 0 0 _ _) 0 0 ex n 0 _ _ σ)
  rw [← hQ]
  refine A_aload_n hg dX11_keep_0 rfl rfl ?_
  refine A_iconst (v := (nI (0))) hg dX11_keep_1 (by decide) ?_
  refine A_putf hg fl_RX11_67 dX11_keep_2 hc0 (by omega) (Nat.le_of_ble_eq_true rfl) rfl rfl rfl (fun σ_1 hc_2 hf_3 => ?_)
  have hc_2 : σ_1 279 = o11 G (upd F 7 (nI (0))) := hc_2
  have hc_4 : σ_1 280 = q_an G 265 g := (hf_3 _ (by omega)).trans hc1
  have hc_5 : σ_1 283 = q_an G 530 sh := (hf_3 _ (by omega)).trans hc2
  refine A_aload_n hg dX11_keep_5 rfl rfl ?_
  refine A_iload_n hg dX11_keep_6 rfl rfl ?_
  refine A_hV (kc2 := 0) (ks2 := 0) (As := [.int (x)]) (rest := []) hg lk_RX11_504 in_X11_noSlot se_X11_noSlot rfl dX11_keep_7 ⟨by decide, by decide⟩ rfl rfl ⟨by decide, by decide⟩ hc_2 (by omega) rfl rfl (Nat.le_of_ble_eq_true rfl) (c_X11_noSlot G ex n σ_1 (upd F 7 (nI (0))) x hc_2 (by omega)) ?_
  rintro _ σ_9 (⟨rfl, hno, hc_6, hf_7⟩ | ⟨s1, rfl, hse, hsa, hsl, he_8⟩)
  · skip
    refine (?_ : AJ G K Q 0 0 ex n 10 [some (.ref (q_h G + 279)), some (.int (x))] [.int (nI (1))] σ_9)
    have hc_6 : σ_9 279 = o11 G (upd F 7 (nI (1))) := hc_6
    have hc_10 : σ_9 280 = q_an G 265 g := (hf_7 _ (by omega)).trans hc_4
    have hc_11 : σ_9 283 = q_an G 530 sh := (hf_7 _ (by omega)).trans hc_5
    refine A_if_eqN (tgt := 15) hg dX11_keep_10 (by decide) (by decide) (fun c10 => absurd c10 (by decide)) (fun c10 => ?_)
    refine A_iconst (v := (nI (0))) hg dX11_keep_13 (by decide) ?_
    rw [hQ]
    exact A_ireturn hg (by decide) (by decide) rfl dX11_keep_14 ⟨rfl, Or.inl (⟨rfl, (by first | rfl | assumption | omega), hc_6, (fun i hi => ((hf_7 i (by omega)).trans (hf_3 i (by omega))))⟩)⟩
  · skip
    rw [he_8]
    refine (?_ : AJ G K Q 0 0 ex n 10 [some (.ref (q_h G + 279)), some (.int (x))] [.int (nI (0))] σ_1)
    refine A_if_eqN (tgt := 15) hg dX11_keep_10 (by decide) (by decide) (fun c10 => ?_) (fun c10 => absurd (by decide) c10)
    subst hse
    refine A_aload_n hg dX11_keep_15 rfl rfl ?_
    refine A_getf (v := .ref (q_h G + 280)) hg fl_RX11_7 dX11_keep_16 hc_2 (by omega) rfl ?_
    refine A_iconst (v := (nI (0))) hg dX11_keep_19 (by decide) ?_
    refine A_aload_n hg dX11_keep_20 rfl rfl ?_
    refine A_getf (v := .ref (q_h G + 283)) hg fl_RX11_19 dX11_keep_21 hc_2 (by omega) rfl ?_
    refine A_sipush (v := (nI (265))) hg dX11_keep_24 (by decide) ?_
    refine A_iload_n hg dX11_keep_27 rfl rfl ?_
    refine A_imulN hg dX11_keep_28 ?_
    refine A_vS (kc2 := 0) (ks2 := 0) (As := [.ref (q_h G + 280), .int (nI (0)), .ref (q_h G + 283), .int (nI (265 * s1))]) (rest := []) hg lk_RX11_73 st_X11_copies dX11_keep_29 ⟨by decide, by decide⟩ rfl rfl ⟨by decide, by decide⟩ rfl rfl (Nat.le_of_ble_eq_true rfl) (c_X11_copies G ex n σ_1 280 283 265 530 g sh 0 (265 * s1) hc_4 hc_5 (by omega) (by omega) (by omega) (by omega) (by omega) (by omega) (by omega) (by omega)) ?_
    rintro σ_14 ⟨sh', hh1, hh2, hc_12, hf_13⟩
    have hc_15 : σ_14 280 = q_an G 265 g := (hf_13 _ (by omega)).trans hc_4
    have hc_16 : σ_14 279 = o11 G (upd F 7 (nI (0))) := (hf_13 _ (by omega)).trans hc_2
    refine A_aload_n hg dX11_keep_32 rfl rfl ?_
    refine A_dup hg dX11_keep_33 rfl ?_
    refine A_getf (v := .int (nI (ss))) hg fl_RX11_386 dX11_keep_34 hc_16 (by omega) (congrArg (fun z => some (Value.int z)) hF6) ?_
    refine A_iconst (v := (nI (1))) hg dX11_keep_37 (by decide) ?_
    refine A_iload_n hg dX11_keep_38 rfl rfl ?_
    refine A_ishl hg dX11_keep_39 ?_
    refine A_ior hg dX11_keep_40 ?_
    refine A_top (w := .int (nI (ss ||| 2 ^ s1))) (congrArg Value.int (q_bitset ss hss s1 (by omega)).1) ?_
    refine A_putf hg fl_RX11_386 dX11_keep_41 hc_16 (by omega) (Nat.le_of_ble_eq_true rfl) rfl rfl rfl (fun σ_17 hc_18 hf_19 => ?_)
    have hc_18 : σ_17 279 = o11 G (upd (upd F 6 (nI (ss ||| 2 ^ s1))) 7 (nI (0))) := hc_18
    have hc_20 : σ_17 280 = q_an G 265 g := (hf_19 _ (by omega)).trans hc_15
    have hc_21 : σ_17 283 = q_an G 530 sh' := (hf_19 _ (by omega)).trans hc_12
    refine A_aload_n hg dX11_keep_44 rfl rfl ?_
    refine A_getf (v := .ref (q_h G + 280)) hg fl_RX11_7 dX11_keep_45 hc_18 (by omega) rfl ?_
    refine A_iconst (v := (nI (4))) hg dX11_keep_48 (by decide) ?_
    refine A_iald (j := 4) hg dX11_keep_49 hc_20 (by omega) (by omega) (by decide) ?_
    rw [hQ]
    exact A_ireturn hg (by decide) (by decide) rfl dX11_keep_50 ⟨rfl, Or.inr ((⟨s1, sh', rfl, (by first | rfl | assumption | omega), (by first | rfl | assumption | omega), (fun j hj => by rw [hh1 j hj, Nat.zero_add]), hh2, hc_18, hc_21, (fun i hi => ((hf_19 i (by omega)).trans ((hf_13 i (by omega)).trans (hf_3 i (by omega)))))⟩))⟩
set_option maxRecDepth 100000 in
set_option maxHeartbeats 4000000 in
theorem c_X11_bringBack (G : GL) (ex : Bool) (n : Nat) (σ : Nat → va_E) (F : Nat → Int32) (g : Nat → Nat) (sh : Nat → Nat) (ss : Nat) (x : Int32) (hc0 : σ 279 = o11 G F) (hc1 : σ 280 = q_an G 265 g) (hc2 : σ 283 = q_an G 530 sh) (hn : 294 ≤ n) (hF6 : F 6 = nI ss) (hss : ss < 16) : Ct G yX11_bringBack cX11_bringBack 2 (some .int) ⟨2, 0, 0, 43⟩ [.ref (q_h G + 279), .int (x)] ex n σ (fun v9 σ2 => (v9 = some (.int (nI (0))) ∧ (∀ j : Nat, 0 ≤ j → j ≤ 1 → x = nI j → False) ∧ σ2 279 = o11 G (upd F 7 (nI (1))) ∧ (∀ i : Nat, i ≠ 279 → σ2 i = σ i)) ∨ (∃ (s1 : Nat), v9 = some (.int (nI (0))) ∧ (x = nI s1) ∧ (s1 ≤ 1) ∧ (ss.testBit s1 = false) ∧ σ2 279 = o11 G (upd F 7 (nI (2))) ∧ (∀ i : Nat, i ≠ 279 → σ2 i = σ i)) ∨ (∃ (s1 : Nat), v9 = some (.int (nI (sh (265 * s1 + 4)))) ∧ (x = nI s1) ∧ (s1 ≤ 1) ∧ (ss.testBit s1 = true) ∧ σ2 279 = o11 G (upd (upd F 5 (nI (0))) 7 (nI (0))) ∧ σ2 280 = q_an G 265 (fun k => sh (265 * s1 + k)) ∧ (∀ i : Nat, i ≠ 279 ∧ i ≠ 280 → σ2 i = σ i))) := by
  refine q_enter [some (.ref (q_h G + 279)), some (.int (x))] (by decide) (Nat.le_of_ble_eq_true rfl) rfl ?_
  intro K hg
  obtain ⟨Q, hQ⟩ : ∃ Q, Q = q_Q G K ex n 0 0 (fun v9 n' σ' => n' = n ∧ (fun v9 σ2 => (v9 = some (.int (nI (0))) ∧ (∀ j : Nat, 0 ≤ j → j ≤ 1 → x = nI j → False) ∧ σ2 279 = o11 G (upd F 7 (nI (1))) ∧ (∀ i : Nat, i ≠ 279 → σ2 i = σ i)) ∨ (∃ (s1 : Nat), v9 = some (.int (nI (0))) ∧ (x = nI s1) ∧ (s1 ≤ 1) ∧ (ss.testBit s1 = false) ∧ σ2 279 = o11 G (upd F 7 (nI (2))) ∧ (∀ i : Nat, i ≠ 279 → σ2 i = σ i)) ∨ (∃ (s1 : Nat), v9 = some (.int (nI (sh (265 * s1 + 4)))) ∧ (x = nI s1) ∧ (s1 ≤ 1) ∧ (ss.testBit s1 = true) ∧ σ2 279 = o11 G (upd (upd F 5 (nI (0))) 7 (nI (0))) ∧ σ2 280 = q_an G 265 (fun k => sh (265 * s1 + k)) ∧ (∀ i : Nat, i ≠ 279 ∧ i ≠ 280 → σ2 i = σ i))) v9 σ') q_noX := ⟨_, rfl⟩
  refine (?_ : AJ G K (q_Q G K ex n 0 0 _ _) 0 0 ex n 0 _ _ σ)
  rw [← hQ]
  refine A_aload_n hg dX11_bringBack_0 rfl rfl ?_
  refine A_iconst (v := (nI (0))) hg dX11_bringBack_1 (by decide) ?_
  refine A_putf hg fl_RX11_67 dX11_bringBack_2 hc0 (by omega) (Nat.le_of_ble_eq_true rfl) rfl rfl rfl (fun σ_1 hc_2 hf_3 => ?_)
  have hc_2 : σ_1 279 = o11 G (upd F 7 (nI (0))) := hc_2
  have hc_4 : σ_1 280 = q_an G 265 g := (hf_3 _ (by omega)).trans hc1
  have hc_5 : σ_1 283 = q_an G 530 sh := (hf_3 _ (by omega)).trans hc2
  refine A_aload_n hg dX11_bringBack_5 rfl rfl ?_
  refine A_iload_n hg dX11_bringBack_6 rfl rfl ?_
  refine A_hV (kc2 := 0) (ks2 := 0) (As := [.int (x)]) (rest := []) hg lk_RX11_504 in_X11_noSlot se_X11_noSlot rfl dX11_bringBack_7 ⟨by decide, by decide⟩ rfl rfl ⟨by decide, by decide⟩ hc_2 (by omega) rfl rfl (Nat.le_of_ble_eq_true rfl) (c_X11_noSlot G ex n σ_1 (upd F 7 (nI (0))) x hc_2 (by omega)) ?_
  rintro _ σ_9 (⟨rfl, hno, hc_6, hf_7⟩ | ⟨s1, rfl, hse, hsa, hsl, he_8⟩)
  · skip
    refine (?_ : AJ G K Q 0 0 ex n 10 [some (.ref (q_h G + 279)), some (.int (x))] [.int (nI (1))] σ_9)
    have hc_6 : σ_9 279 = o11 G (upd F 7 (nI (1))) := hc_6
    have hc_10 : σ_9 280 = q_an G 265 g := (hf_7 _ (by omega)).trans hc_4
    have hc_11 : σ_9 283 = q_an G 530 sh := (hf_7 _ (by omega)).trans hc_5
    refine A_if_neN (tgt := 37) hg dX11_bringBack_10 (by decide) (by decide) (fun c10 => ?_) (fun c10 => absurd c10 (by decide))
    refine A_iconst (v := (nI (0))) hg dX11_bringBack_37 (by decide) ?_
    rw [hQ]
    exact A_ireturn hg (by decide) (by decide) rfl dX11_bringBack_38 ⟨rfl, Or.inl (⟨rfl, (by first | rfl | assumption | omega), hc_6, (fun i hi => ((hf_7 i (by omega)).trans (hf_3 i (by omega))))⟩)⟩
  · skip
    rw [he_8]
    refine (?_ : AJ G K Q 0 0 ex n 10 [some (.ref (q_h G + 279)), some (.int (x))] [.int (nI (0))] σ_1)
    refine A_if_neN (tgt := 37) hg dX11_bringBack_10 (by decide) (by decide) (fun c10 => absurd (by decide) c10) (fun c10 => ?_)
    subst hse
    refine A_aload_n hg dX11_bringBack_13 rfl rfl ?_
    refine A_aload_n hg dX11_bringBack_14 rfl rfl ?_
    refine A_getf (v := .int (nI (ss))) hg fl_RX11_386 dX11_bringBack_15 hc_2 (by omega) (congrArg (fun z => some (Value.int z)) hF6) ?_
    refine A_iload_n hg dX11_bringBack_18 rfl rfl ?_
    refine A_ishr hg dX11_bringBack_19 ?_
    refine A_iconst (v := (nI (1))) hg dX11_bringBack_20 (by decide) ?_
    refine A_iand hg dX11_bringBack_21 ?_
    refine A_top (w := .int (nI (s_bo (ss.testBit s1)))) (congrArg Value.int (q_bit ss hss s1 (by omega))) ?_
    refine A_if_neN (tgt := 29) hg dX11_bringBack_22 (by unfold s_bo; split <;> decide) (by decide) (fun c22 => ?_) (fun c22 => ?_)
    · skip
      refine A_iconst (v := (nI (0))) hg dX11_bringBack_29 (by decide) ?_
      refine A_iconst (v := (nI (2))) hg dX11_bringBack_30 (by decide) ?_
      refine A_eV (kc2 := 0) (ks2 := 0) (As := [.int (nI (0)), .int (nI (2))]) (rest := []) hg lk_RX11_81 in_X11_fails se_X11_fails rfl dX11_bringBack_31 ⟨by decide, by decide⟩ rfl rfl ⟨by decide, by decide⟩ hc_2 (by omega) rfl rfl (Nat.le_of_ble_eq_true rfl) (c_X11_fails0 G ex n σ_1 (upd F 7 (nI (0))) (nI (2)) hc_2 (by omega)) ?_
      refine A_if_eqN (tgt := 39) hg dX11_bringBack_34 (by decide) (by decide) (fun c34 => ?_) (fun c34 => absurd (by decide) c34)
      refine A_aload_n hg dX11_bringBack_39 rfl rfl ?_
      refine A_getf (v := .ref (q_h G + 283)) hg fl_RX11_19 dX11_bringBack_40 hc_2 (by omega) rfl ?_
      refine A_sipush (v := (nI (265))) hg dX11_bringBack_43 (by decide) ?_
      refine A_iload_n hg dX11_bringBack_46 rfl rfl ?_
      refine A_imulN hg dX11_bringBack_47 ?_
      refine A_aload_n hg dX11_bringBack_48 rfl rfl ?_
      refine A_getf (v := .ref (q_h G + 280)) hg fl_RX11_7 dX11_bringBack_49 hc_2 (by omega) rfl ?_
      refine A_iconst (v := (nI (0))) hg dX11_bringBack_52 (by decide) ?_
      refine A_vS (kc2 := 0) (ks2 := 0) (As := [.ref (q_h G + 283), .int (nI (265 * s1)), .ref (q_h G + 280), .int (nI (0))]) (rest := []) hg lk_RX11_73 st_X11_copies dX11_bringBack_53 ⟨by decide, by decide⟩ rfl rfl ⟨by decide, by decide⟩ rfl rfl (Nat.le_of_ble_eq_true rfl) (c_X11_copies G ex n σ_1 283 280 530 265 sh g (265 * s1) 0 hc_5 hc_4 (by omega) (by omega) (by omega) (by omega) (by omega) (by omega) (by omega) (by omega)) ?_
      rintro σ_14 ⟨gb, hh1, hh2, hc_12, hf_13⟩
      have hc_15 : σ_14 283 = q_an G 530 sh := (hf_13 _ (by omega)).trans hc_5
      have hc_16 : σ_14 279 = o11 G (upd F 7 (nI (0))) := (hf_13 _ (by omega)).trans hc_2
      refine A_canon (fun k => sh (265 * s1 + k)) hc_12 (fun jj hj => by have e := hh1 jj hj; rw [Nat.zero_add] at e; exact e) (fun σ_17 hc_18 hf_19 => ?_)
      have hc_20 : σ_17 283 = q_an G 530 sh := (hf_19 _ (by omega)).trans hc_15
      have hc_21 : σ_17 279 = o11 G (upd F 7 (nI (0))) := (hf_19 _ (by omega)).trans hc_16
      refine A_aload_n hg dX11_bringBack_56 rfl rfl ?_
      refine A_iconst (v := (nI (0))) hg dX11_bringBack_57 (by decide) ?_
      refine A_putf hg fl_RX11_70 dX11_bringBack_58 hc_21 (by omega) (Nat.le_of_ble_eq_true rfl) rfl rfl rfl (fun σ_22 hc_23 hf_24 => ?_)
      have hc_23 : σ_22 279 = o11 G (upd (upd F 5 (nI (0))) 7 (nI (0))) := hc_23
      have hc_25 : σ_22 283 = q_an G 530 sh := (hf_24 _ (by omega)).trans hc_20
      have hc_26 : σ_22 280 = q_an G 265 (fun k => sh (265 * s1 + k)) := (hf_24 _ (by omega)).trans hc_18
      refine A_aload_n hg dX11_bringBack_61 rfl rfl ?_
      refine A_getf (v := .ref (q_h G + 280)) hg fl_RX11_7 dX11_bringBack_62 hc_23 (by omega) rfl ?_
      refine A_iconst (v := (nI (4))) hg dX11_bringBack_65 (by decide) ?_
      refine A_iald (j := 4) hg dX11_bringBack_66 hc_26 (by omega) (by omega) (by decide) ?_
      rw [hQ]
      exact A_ireturn hg (by decide) (by decide) rfl dX11_bringBack_67 ⟨rfl, Or.inr (Or.inr ((⟨s1, rfl, (by first | rfl | assumption | omega), (by first | rfl | assumption | omega), (s_bo_n c22), hc_23, hc_26, (fun i hi => ((hf_24 i (by omega)).trans ((hf_19 i (by omega)).trans ((hf_13 i (by omega)).trans (hf_3 i (by omega))))))⟩)))⟩
    · skip
      refine A_iconst (v := (nI (1))) hg dX11_bringBack_25 (by decide) ?_
      refine A_goto (tgt := 30) hg dX11_bringBack_26 (by decide) ?_
      refine A_iconst (v := (nI (2))) hg dX11_bringBack_30 (by decide) ?_
      refine A_hV (kc2 := 0) (ks2 := 0) (As := [.int (nI (1)), .int (nI (2))]) (rest := []) hg lk_RX11_81 in_X11_fails se_X11_fails rfl dX11_bringBack_31 ⟨by decide, by decide⟩ rfl rfl ⟨by decide, by decide⟩ hc_2 (by omega) rfl rfl (Nat.le_of_ble_eq_true rfl) (c_X11_fails1 G ex n σ_1 (upd F 7 (nI (0))) 2 hc_2 (by omega)) ?_
      rintro _ σ_29 ⟨rfl, hc_27, hf_28⟩
      refine (?_ : AJ G K Q 0 0 ex n 34 [some (.ref (q_h G + 279)), some (.int (nI (s1)))] [.int (nI (1))] σ_29)
      have hc_27 : σ_29 279 = o11 G (upd F 7 (nI (2))) := hc_27
      have hc_30 : σ_29 280 = q_an G 265 g := (hf_28 _ (by omega)).trans hc_4
      have hc_31 : σ_29 283 = q_an G 530 sh := (hf_28 _ (by omega)).trans hc_5
      refine A_if_eqN (tgt := 39) hg dX11_bringBack_34 (by decide) (by decide) (fun c34 => absurd c34 (by decide)) (fun c34 => ?_)
      refine A_iconst (v := (nI (0))) hg dX11_bringBack_37 (by decide) ?_
      rw [hQ]
      exact A_ireturn hg (by decide) (by decide) rfl dX11_bringBack_38 ⟨rfl, Or.inr (Or.inl (⟨s1, rfl, (by first | rfl | assumption | omega), (by first | rfl | assumption | omega), (by cases hb : ss.testBit s1 with | false => rfl | true => rw [hb] at c22; exact absurd c22 (by decide)), hc_27, (fun i hi => ((hf_28 i (by omega)).trans (hf_3 i (by omega))))⟩))⟩
set_option maxRecDepth 100000 in
set_option maxHeartbeats 4000000 in
theorem c_X11_undo (G : GL) (ex : Bool) (n : Nat) (σ : Nat → va_E) (F : Nat → Int32) (g : Nat → Nat) (a : Nat → Nat) (m : Nat) (hc0 : σ 279 = o11 G F) (hc1 : σ 280 = q_an G 265 g) (hc2 : σ 284 = q_an G 2120 a) (hn : 294 ≤ n) (hF5 : F 5 = nI m) (hm8 : m ≤ 8) : Ct G yX11_undo cX11_undo 1 (some .int) ⟨1, 0, 0, 24⟩ [.ref (q_h G + 279)] ex n σ (fun v9 σ2 => (v9 = some (.int (nI (0))) ∧ (m = 0) ∧ σ2 279 = o11 G (upd F 7 (nI (1))) ∧ (∀ i : Nat, i ≠ 279 → σ2 i = σ i)) ∨ (v9 = some (.int (nI (m - 1))) ∧ (¬ m = 0) ∧ σ2 279 = o11 G (upd (upd F 5 (nI (m - 1))) 7 (nI (0))) ∧ σ2 280 = q_an G 265 (fun k => a (265 * (m - 1) + k)) ∧ (∀ i : Nat, i ≠ 279 ∧ i ≠ 280 → σ2 i = σ i))) := by
  refine q_enter [some (.ref (q_h G + 279))] (by decide) (Nat.le_of_ble_eq_true rfl) rfl ?_
  intro K hg
  obtain ⟨Q, hQ⟩ : ∃ Q, Q = q_Q G K ex n 0 0 (fun v9 n' σ' => n' = n ∧ (fun v9 σ2 => (v9 = some (.int (nI (0))) ∧ (m = 0) ∧ σ2 279 = o11 G (upd F 7 (nI (1))) ∧ (∀ i : Nat, i ≠ 279 → σ2 i = σ i)) ∨ (v9 = some (.int (nI (m - 1))) ∧ (¬ m = 0) ∧ σ2 279 = o11 G (upd (upd F 5 (nI (m - 1))) 7 (nI (0))) ∧ σ2 280 = q_an G 265 (fun k => a (265 * (m - 1) + k)) ∧ (∀ i : Nat, i ≠ 279 ∧ i ≠ 280 → σ2 i = σ i))) v9 σ') q_noX := ⟨_, rfl⟩
  refine (?_ : AJ G K (q_Q G K ex n 0 0 _ _) 0 0 ex n 0 _ _ σ)
  rw [← hQ]
  refine A_aload_n hg dX11_undo_0 rfl rfl ?_
  refine A_iconst (v := (nI (0))) hg dX11_undo_1 (by decide) ?_
  refine A_putf hg fl_RX11_67 dX11_undo_2 hc0 (by omega) (Nat.le_of_ble_eq_true rfl) rfl rfl rfl (fun σ_1 hc_2 hf_3 => ?_)
  have hc_2 : σ_1 279 = o11 G (upd F 7 (nI (0))) := hc_2
  have hc_4 : σ_1 280 = q_an G 265 g := (hf_3 _ (by omega)).trans hc1
  have hc_5 : σ_1 284 = q_an G 2120 a := (hf_3 _ (by omega)).trans hc2
  refine A_aload_n hg dX11_undo_5 rfl rfl ?_
  refine A_aload_n hg dX11_undo_6 rfl rfl ?_
  refine A_getf (v := .int (nI (m))) hg fl_RX11_70 dX11_undo_7 hc_2 (by omega) (congrArg (fun z => some (Value.int z)) hF5) ?_
  refine A_if_neN (tgt := 17) hg dX11_undo_10 (by omega) (by decide) (fun c10 => ?_) (fun c10 => ?_)
  · skip
    refine A_iconst (v := (nI (0))) hg dX11_undo_17 (by decide) ?_
    refine A_iconst (v := (nI (1))) hg dX11_undo_18 (by decide) ?_
    refine A_eV (kc2 := 0) (ks2 := 0) (As := [.int (nI (0)), .int (nI (1))]) (rest := []) hg lk_RX11_81 in_X11_fails se_X11_fails rfl dX11_undo_19 ⟨by decide, by decide⟩ rfl rfl ⟨by decide, by decide⟩ hc_2 (by omega) rfl rfl (Nat.le_of_ble_eq_true rfl) (c_X11_fails0 G ex n σ_1 (upd F 7 (nI (0))) (nI (1)) hc_2 (by omega)) ?_
    refine A_if_eqN (tgt := 27) hg dX11_undo_22 (by decide) (by decide) (fun c22 => ?_) (fun c22 => absurd (by decide) c22)
    refine A_aload_n hg dX11_undo_27 rfl rfl ?_
    refine A_dup hg dX11_undo_28 rfl ?_
    refine A_getf (v := .int (nI (m))) hg fl_RX11_70 dX11_undo_29 hc_2 (by omega) (congrArg (fun z => some (Value.int z)) hF5) ?_
    refine A_iconst (v := (nI (1))) hg dX11_undo_32 (by decide) ?_
    refine A_isubN hg dX11_undo_33 (by omega) ?_
    refine A_putf hg fl_RX11_70 dX11_undo_34 hc_2 (by omega) (Nat.le_of_ble_eq_true rfl) rfl rfl rfl (fun σ_6 hc_7 hf_8 => ?_)
    have hc_7 : σ_6 279 = o11 G (upd (upd F 5 (nI (m - 1))) 7 (nI (0))) := hc_7
    have hc_9 : σ_6 280 = q_an G 265 g := (hf_8 _ (by omega)).trans hc_4
    have hc_10 : σ_6 284 = q_an G 2120 a := (hf_8 _ (by omega)).trans hc_5
    refine A_aload_n hg dX11_undo_37 rfl rfl ?_
    refine A_getf (v := .ref (q_h G + 284)) hg fl_RX11_22 dX11_undo_38 hc_7 (by omega) rfl ?_
    refine A_sipush (v := (nI (265))) hg dX11_undo_41 (by decide) ?_
    refine A_aload_n hg dX11_undo_44 rfl rfl ?_
    refine A_getf (v := .int (nI (m - 1))) hg fl_RX11_70 dX11_undo_45 hc_7 (by omega) rfl ?_
    refine A_imulN hg dX11_undo_48 ?_
    refine A_aload_n hg dX11_undo_49 rfl rfl ?_
    refine A_getf (v := .ref (q_h G + 280)) hg fl_RX11_7 dX11_undo_50 hc_7 (by omega) rfl ?_
    refine A_iconst (v := (nI (0))) hg dX11_undo_53 (by decide) ?_
    refine A_vS (kc2 := 0) (ks2 := 0) (As := [.ref (q_h G + 284), .int (nI (265 * (m - 1))), .ref (q_h G + 280), .int (nI (0))]) (rest := []) hg lk_RX11_73 st_X11_copies dX11_undo_54 ⟨by decide, by decide⟩ rfl rfl ⟨by decide, by decide⟩ rfl rfl (Nat.le_of_ble_eq_true rfl) (c_X11_copies G ex n σ_6 284 280 2120 265 a g (265 * (m - 1)) 0 hc_10 hc_9 (by omega) (by omega) (by omega) (by omega) (by omega) (by omega) (by omega) (by omega)) ?_
    rintro σ_13 ⟨gb, hh1, hh2, hc_11, hf_12⟩
    have hc_14 : σ_13 284 = q_an G 2120 a := (hf_12 _ (by omega)).trans hc_10
    have hc_15 : σ_13 279 = o11 G (upd (upd F 5 (nI (m - 1))) 7 (nI (0))) := (hf_12 _ (by omega)).trans hc_7
    refine A_canon (fun k => a (265 * (m - 1) + k)) hc_11 (fun jj hj => by have e := hh1 jj hj; rw [Nat.zero_add] at e; exact e) (fun σ_16 hc_17 hf_18 => ?_)
    have hc_19 : σ_16 284 = q_an G 2120 a := (hf_18 _ (by omega)).trans hc_14
    have hc_20 : σ_16 279 = o11 G (upd (upd F 5 (nI (m - 1))) 7 (nI (0))) := (hf_18 _ (by omega)).trans hc_15
    refine A_aload_n hg dX11_undo_57 rfl rfl ?_
    refine A_getf (v := .int (nI (m - 1))) hg fl_RX11_70 dX11_undo_58 hc_20 (by omega) rfl ?_
    rw [hQ]
    exact A_ireturn hg (by decide) (by decide) rfl dX11_undo_61 ⟨rfl, Or.inr ((⟨rfl, (by first | rfl | assumption | omega), hc_20, hc_17, (fun i hi => ((hf_18 i (by omega)).trans ((hf_12 i (by omega)).trans ((hf_8 i (by omega)).trans (hf_3 i (by omega))))))⟩))⟩
  · skip
    refine A_iconst (v := (nI (1))) hg dX11_undo_13 (by decide) ?_
    refine A_goto (tgt := 18) hg dX11_undo_14 (by decide) ?_
    refine A_iconst (v := (nI (1))) hg dX11_undo_18 (by decide) ?_
    refine A_hV (kc2 := 0) (ks2 := 0) (As := [.int (nI (1)), .int (nI (1))]) (rest := []) hg lk_RX11_81 in_X11_fails se_X11_fails rfl dX11_undo_19 ⟨by decide, by decide⟩ rfl rfl ⟨by decide, by decide⟩ hc_2 (by omega) rfl rfl (Nat.le_of_ble_eq_true rfl) (c_X11_fails1 G ex n σ_1 (upd F 7 (nI (0))) 1 hc_2 (by omega)) ?_
    rintro _ σ_23 ⟨rfl, hc_21, hf_22⟩
    refine (?_ : AJ G K Q 0 0 ex n 22 [some (.ref (q_h G + 279))] [.int (nI (1))] σ_23)
    have hc_21 : σ_23 279 = o11 G (upd F 7 (nI (1))) := hc_21
    have hc_24 : σ_23 280 = q_an G 265 g := (hf_22 _ (by omega)).trans hc_4
    have hc_25 : σ_23 284 = q_an G 2120 a := (hf_22 _ (by omega)).trans hc_5
    refine A_if_eqN (tgt := 27) hg dX11_undo_22 (by decide) (by decide) (fun c22 => absurd c22 (by decide)) (fun c22 => ?_)
    refine A_iconst (v := (nI (0))) hg dX11_undo_25 (by decide) ?_
    rw [hQ]
    exact A_ireturn hg (by decide) (by decide) rfl dX11_undo_26 ⟨rfl, Or.inl (⟨rfl, (by first | rfl | assumption | omega), hc_21, (fun i hi => ((hf_22 i (by omega)).trans (hf_3 i (by omega))))⟩)⟩
end
