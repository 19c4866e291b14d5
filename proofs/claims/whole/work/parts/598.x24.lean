section
set_option maxRecDepth 100000 in
set_option maxHeartbeats 4000000 in
theorem c_X10_errorCode (G : GL) (ex : Bool) (n : Nat) (σ : Nat → va_E) (z1 : Int32) (z2 : Int32) (z3 : Int32) (hc0 : σ 0 = o10 G (z1) (z2) (z3)) (hn9 : 279 ≤ n) : Ct G yX10_errorCode cX10_errorCode 1 (some .int) ⟨0, 0, 0, 0⟩ [.ref (q_h G + 0)] ex n σ (fun v9 σ2 => σ2 = σ ∧ v9 = some (.int (z2))) := by
  refine q_enter [some (.ref (q_h G + 0))] (by decide) (Nat.le_of_ble_eq_true rfl) rfl ?_
  intro K hg
  obtain ⟨Q, hQ⟩ : ∃ Q, Q = q_Q G K ex n 0 0 (fun v9 n' σ' => n' = n ∧ (fun v9 σ2 => σ2 = σ ∧ v9 = some (.int (z2))) v9 σ') q_noX := ⟨_, rfl⟩
  refine (?_ : AJ G K (q_Q G K ex n 0 0 _ _) 0 0 ex n 0 _ _ σ)
  rw [← hQ]
  refine A_aload_n hg dX10_errorCode_0 rfl rfl ?_
  refine A_getf (v := .int (z2)) hg fl_RX10_17 dX10_errorCode_1 hc0 (by omega) rfl ?_
  rw [hQ]
  exact A_ireturn hg (by decide) (by decide) rfl dX10_errorCode_4 ⟨rfl, ⟨rfl, rfl⟩⟩
set_option maxRecDepth 100000 in
set_option maxHeartbeats 4000000 in
theorem c_X10_errorOffset (G : GL) (ex : Bool) (n : Nat) (σ : Nat → va_E) (z1 : Int32) (z2 : Int32) (z3 : Int32) (hc0 : σ 0 = o10 G (z1) (z2) (z3)) (hn9 : 279 ≤ n) : Ct G yX10_errorOffset cX10_errorOffset 1 (some .int) ⟨0, 0, 0, 0⟩ [.ref (q_h G + 0)] ex n σ (fun v9 σ2 => σ2 = σ ∧ v9 = some (.int (z3))) := by
  refine q_enter [some (.ref (q_h G + 0))] (by decide) (Nat.le_of_ble_eq_true rfl) rfl ?_
  intro K hg
  obtain ⟨Q, hQ⟩ : ∃ Q, Q = q_Q G K ex n 0 0 (fun v9 n' σ' => n' = n ∧ (fun v9 σ2 => σ2 = σ ∧ v9 = some (.int (z3))) v9 σ') q_noX := ⟨_, rfl⟩
  refine (?_ : AJ G K (q_Q G K ex n 0 0 _ _) 0 0 ex n 0 _ _ σ)
  rw [← hQ]
  refine A_aload_n hg dX10_errorOffset_0 rfl rfl ?_
  refine A_getf (v := .int (z3)) hg fl_RX10_20 dX10_errorOffset_1 hc0 (by omega) rfl ?_
  rw [hQ]
  exact A_ireturn hg (by decide) (by decide) rfl dX10_errorOffset_4 ⟨rfl, ⟨rfl, rfl⟩⟩
set_option maxRecDepth 100000 in
set_option maxHeartbeats 4000000 in
theorem c_X10_account (G : GL) (ex : Bool) (n : Nat) (σ : Nat → va_E) (z1 : Int32) (z2 : Int32) (z3 : Int32) (g : Nat → Nat) (p : Int32) (x : Int32) (hc0 : σ 0 = o10 G (z1) (z2) (z3)) (hn9 : 279 ≤ n) (hG : x_gm G σ 25 g) : CtX G yX10_account cX10_account 3 (some .int) ⟨7, 2, 12, 112⟩ [.ref (q_h G + 0), .int (p), .int (x)] ex n σ (fun v9 σ2 => σ2 = σ ∧ ∃ (p1 : Nat), ∃ (x1 : Nat), v9 = some (.int (nI (g (7 + 5 * p1 + x1)))) ∧ (p = nI p1) ∧ (p1 ≤ 1) ∧ (x = nI x1) ∧ (x1 ≤ 4)) (fun E σ2 => σ2 = σ ∧ ((E = "java/lang/IndexOutOfBoundsException" ∧ (∀ j : Nat, 0 ≤ j → j ≤ 1 → p = nI j → False)) ∨ (E = "java/lang/IllegalArgumentException" ∧ (∃ p1 : Nat, p = nI p1 ∧ p1 ≤ 1 ∧ ∀ j : Nat, 0 ≤ j → j ≤ 4 → x = nI j → False)))) := by
  refine q_enter [some (.ref (q_h G + 0)), some (.int (p)), some (.int (x))] (by decide) (Nat.le_of_ble_eq_true rfl) rfl ?_
  intro K hg
  obtain ⟨Q, hQ⟩ : ∃ Q, Q = q_Q G K ex n 2 12 (fun v9 n' σ' => n' = n ∧ (fun v9 σ2 => σ2 = σ ∧ ∃ (p1 : Nat), ∃ (x1 : Nat), v9 = some (.int (nI (g (7 + 5 * p1 + x1)))) ∧ (p = nI p1) ∧ (p1 ≤ 1) ∧ (x = nI x1) ∧ (x1 ≤ 4)) v9 σ') (fun E σ2 => σ2 = σ ∧ ((E = "java/lang/IndexOutOfBoundsException" ∧ (∀ j : Nat, 0 ≤ j → j ≤ 1 → p = nI j → False)) ∨ (E = "java/lang/IllegalArgumentException" ∧ (∃ p1 : Nat, p = nI p1 ∧ p1 ≤ 1 ∧ ∀ j : Nat, 0 ≤ j → j ≤ 4 → x = nI j → False)))) := ⟨_, rfl⟩
  refine (?_ : AJ G K (q_Q G K ex n 2 12 _ _) 0 0 ex n 0 _ _ σ)
  rw [← hQ]
  obtain ⟨kd, fi, se, tf, ts, ac, tu, nm, on, sl, mo, nb, bm, ⟨hg_1, hg_2, hg_3, hg_4, hg_5, hg_6, hg_7, hg_8, hg_9, hg_10, hg_11, hg_12⟩, hgr⟩ := hG
  obtain ⟨hgw, hxp, htp, hrl, hac, htu⟩ := hgr
  have hrs := x_rl_rs hrl
  have hg0 := hgw.1
  have hg1 := hgw.2.1
  have hg2 := hgw.2.2.1
  have hg3 := hgw.2.2.2.1
  have hg6 := hgw.2.2.2.2.1
  have hnp : s_np g = g 1 + g 2 := rfl
  have hc_13 : ∀ j9 : Nat, j9 < g 0 → σ (25 + 10 + 2 * j9) = o7 G (25 + 10 + 2 * j9) (lN (nm j9)) (lN (on j9)) (nI (s_rule g j9 18)) (nI (s_rule g j9 19)) (nI (s_rule g j9 20)) := fun j9 hj => (hg_11 j9 (by omega)).trans (by rw [(hrl j9 hj).2.2.2.1, (hrl j9 hj).2.2.2.2.1, (hrl j9 hj).2.2.2.2.2.1])
  have hc_14 : ∀ j9 : Nat, j9 < g 0 → σ (25 + 10 + 2 * j9 + 1) = q_an G 5 (bm j9) := fun j9 hj => hg_12 j9 (by omega)
  refine A_iload_n hg dX10_account_0 rfl rfl ?_
  refine A_pSX (kc2 := 1) (ks2 := 6) (As := [.int (p)]) (rest := []) hg lk_RX10_176 st_X10_needPlayer dX10_account_1 ⟨by decide, by decide⟩ rfl rfl ⟨by decide, by decide⟩ rfl rfl (Nat.le_of_ble_eq_true rfl) (c_X10_needPlayer G ex n σ p) (fun E σx hx => by rw [hQ]; exact A_out hg (by decide) (by decide) (by obtain ⟨hs, hE, hx⟩ := hx; exact ⟨hs, Or.inl (⟨hE, hx⟩)⟩)) ?_
  rintro _ ⟨p1, rfl, hpe, hpl9⟩
  refine (?_ : AJ G K Q 1 6 ex n 4 [some (.ref (q_h G + 0)), some (.int (p)), some (.int (x))] [] σ)
  subst hpe
  refine A_iload_n hg dX10_account_4 rfl rfl ?_
  refine A_iconst (v := (nI (0))) hg dX10_account_5 (by decide) ?_
  refine A_iconst (v := (nI (4))) hg dX10_account_6 (by decide) ?_
  refine A_pSX (kc2 := 2) (ks2 := 12) (As := [.int (x), .int (nI (0)), .int (nI (4))]) (rest := []) hg lk_RX10_179 st_X10_needRange dX10_account_7 ⟨by decide, by decide⟩ rfl rfl ⟨by decide, by decide⟩ rfl rfl (Nat.le_of_ble_eq_true rfl) (c_X10_needRange G ex n σ x 0 4 (by omega) (by omega)) (fun E σx hx => by rw [hQ]; exact A_out hg (by decide) (by decide) (by obtain ⟨hs, hE, hx⟩ := hx; exact ⟨hs, Or.inr ((⟨hE, p1, rfl, hpl9, hx⟩))⟩)) ?_
  rintro _ ⟨x1, rfl, hxe, hx0, hx4⟩
  refine (?_ : AJ G K Q 2 12 ex n 10 [some (.ref (q_h G + 0)), some (.int (nI (p1))), some (.int (x))] [] σ)
  subst hxe
  refine A_aload_n hg dX10_account_10 rfl rfl ?_
  refine A_getf (v := .ref (q_h G + 25)) hg fl_RX10_40 dX10_account_11 hc0 (by omega) rfl ?_
  refine A_iload_n hg dX10_account_14 rfl rfl ?_
  refine A_iload_n hg dX10_account_15 rfl rfl ?_
  refine A_eV (kc2 := 2) (ks2 := 12) (As := [.int (nI (p1)), .int (nI (x1))]) (rest := []) hg lk_RX10_183 in_X0_accountOf se_X0_accountOf rfl dX10_account_16 ⟨by decide, by decide⟩ rfl rfl ⟨by decide, by decide⟩ hg_1 (by omega) rfl rfl (Nat.le_of_ble_eq_true rfl) (c_X0_accountOf G ex n σ 25 (g 0) (g 3) (g 4) (g 5) (g 6) ac p1 x1 hg_1 hg_9 (by omega) (by omega) (by omega)) ?_
  rw [hQ]
  exact A_ireturn hg (by decide) (by decide) rfl dX10_account_19 ⟨rfl, ⟨rfl, p1, x1, (by rw [hac _ (by omega), show 7 + (p1 * 5 + x1) = 7 + 5 * p1 + x1 by omega]), rfl, hpl9, rfl, hx4⟩⟩
set_option maxRecDepth 100000 in
set_option maxHeartbeats 4000000 in
theorem c_X10_turn (G : GL) (ex : Bool) (n : Nat) (σ : Nat → va_E) (z1 : Int32) (z2 : Int32) (z3 : Int32) (g : Nat → Nat) (p : Int32) (x : Int32) (hc0 : σ 0 = o10 G (z1) (z2) (z3)) (hn9 : 279 ≤ n) (hG : x_gm G σ 25 g) : CtX G yX10_turn cX10_turn 3 (some .int) ⟨7, 2, 12, 112⟩ [.ref (q_h G + 0), .int (p), .int (x)] ex n σ (fun v9 σ2 => σ2 = σ ∧ ∃ (p1 : Nat), ∃ (x1 : Nat), v9 = some (.int (nI (g (165 + 5 * (g 6 - 1 - p1) + x1)))) ∧ (p = nI p1) ∧ (p1 < g 6) ∧ (x = nI x1) ∧ (x1 ≤ 4)) (fun E σ2 => σ2 = σ ∧ ((E = "java/lang/IndexOutOfBoundsException" ∧ (∀ j : Nat, j < g 6 → p = nI j → False)) ∨ (E = "java/lang/IllegalArgumentException" ∧ (∃ p1 : Nat, p = nI p1 ∧ p1 < g 6 ∧ ∀ j : Nat, 0 ≤ j → j ≤ 4 → x = nI j → False)))) := by
  refine q_enter [some (.ref (q_h G + 0)), some (.int (p)), some (.int (x))] (by decide) (Nat.le_of_ble_eq_true rfl) rfl ?_
  intro K hg
  obtain ⟨Q, hQ⟩ : ∃ Q, Q = q_Q G K ex n 2 12 (fun v9 n' σ' => n' = n ∧ (fun v9 σ2 => σ2 = σ ∧ ∃ (p1 : Nat), ∃ (x1 : Nat), v9 = some (.int (nI (g (165 + 5 * (g 6 - 1 - p1) + x1)))) ∧ (p = nI p1) ∧ (p1 < g 6) ∧ (x = nI x1) ∧ (x1 ≤ 4)) v9 σ') (fun E σ2 => σ2 = σ ∧ ((E = "java/lang/IndexOutOfBoundsException" ∧ (∀ j : Nat, j < g 6 → p = nI j → False)) ∨ (E = "java/lang/IllegalArgumentException" ∧ (∃ p1 : Nat, p = nI p1 ∧ p1 < g 6 ∧ ∀ j : Nat, 0 ≤ j → j ≤ 4 → x = nI j → False)))) := ⟨_, rfl⟩
  refine (?_ : AJ G K (q_Q G K ex n 2 12 _ _) 0 0 ex n 0 _ _ σ)
  rw [← hQ]
  obtain ⟨kd, fi, se, tf, ts, ac, tu, nm, on, sl, mo, nb, bm, ⟨hg_1, hg_2, hg_3, hg_4, hg_5, hg_6, hg_7, hg_8, hg_9, hg_10, hg_11, hg_12⟩, hgr⟩ := hG
  obtain ⟨hgw, hxp, htp, hrl, hac, htu⟩ := hgr
  have hrs := x_rl_rs hrl
  have hg0 := hgw.1
  have hg1 := hgw.2.1
  have hg2 := hgw.2.2.1
  have hg3 := hgw.2.2.2.1
  have hg6 := hgw.2.2.2.2.1
  have hnp : s_np g = g 1 + g 2 := rfl
  have hc_13 : ∀ j9 : Nat, j9 < g 0 → σ (25 + 10 + 2 * j9) = o7 G (25 + 10 + 2 * j9) (lN (nm j9)) (lN (on j9)) (nI (s_rule g j9 18)) (nI (s_rule g j9 19)) (nI (s_rule g j9 20)) := fun j9 hj => (hg_11 j9 (by omega)).trans (by rw [(hrl j9 hj).2.2.2.1, (hrl j9 hj).2.2.2.2.1, (hrl j9 hj).2.2.2.2.2.1])
  have hc_14 : ∀ j9 : Nat, j9 < g 0 → σ (25 + 10 + 2 * j9 + 1) = q_an G 5 (bm j9) := fun j9 hj => hg_12 j9 (by omega)
  refine A_iload_n hg dX10_turn_0 rfl rfl ?_
  refine A_if_lt (tgt := 15) hg dX10_turn_1 (by decide) (fun c1 => ?_) (fun c1 => ?_)
  · skip
    rw [hQ]
    exact A_throwS (text := "no such turn is kept") (names := ["java/lang/RuntimeException", "java/lang/Exception"]) hg (by decide +kernel) (by decide +kernel) tw_IndexOutOfBoundsException.2.2.1 tw_IndexOutOfBoundsException.2.2.2 (q_mt 963 (by decide +kernel)) tw_IndexOutOfBoundsException.1 tw_IndexOutOfBoundsException.2.1 dX10_turn_15 dX10_turn_18 dX10_turn_19 dX10_turn_21 dX10_turn_24 ⟨by decide, by decide, by decide, by decide⟩ (by decide) (by decide) ⟨rfl, Or.inl (⟨rfl, (fun j h1 e => nI_pos (show j < 2 ^ 31 by omega) (e ▸ c1))⟩)⟩
  · skip
    obtain ⟨p1, hp31, hpe⟩ := nI_of c1
    subst hpe
    refine A_iload_n hg dX10_turn_4 rfl rfl ?_
    refine A_aload_n hg dX10_turn_5 rfl rfl ?_
    refine A_getf (v := .ref (q_h G + 25)) hg fl_RX10_40 dX10_turn_6 hc0 (by omega) rfl ?_
    refine A_getf (v := .int (nI (g 6))) hg fl_RX10_166 dX10_turn_9 hg_1 (by omega) rfl ?_
    refine A_icmp_ltN (tgt := 25) hg dX10_turn_12 (by omega) (by omega) (by decide) (fun c12 => ?_) (fun c12 => ?_)
    · skip
      refine A_iload_n hg dX10_turn_25 rfl rfl ?_
      refine A_iconst (v := (nI (0))) hg dX10_turn_26 (by decide) ?_
      refine A_iconst (v := (nI (4))) hg dX10_turn_27 (by decide) ?_
      refine A_pSX (kc2 := 1) (ks2 := 6) (As := [.int (x), .int (nI (0)), .int (nI (4))]) (rest := []) hg lk_RX10_179 st_X10_needRange dX10_turn_28 ⟨by decide, by decide⟩ rfl rfl ⟨by decide, by decide⟩ rfl rfl (Nat.le_of_ble_eq_true rfl) (c_X10_needRange G ex n σ x 0 4 (by omega) (by omega)) (fun E σx hx => by rw [hQ]; exact A_out hg (by decide) (by decide) (by obtain ⟨hs, hE, hx⟩ := hx; exact ⟨hs, Or.inr ((⟨hE, p1, rfl, c12, hx⟩))⟩)) ?_
      rintro _ ⟨x1, rfl, hxe, hx0, hx4⟩
      refine (?_ : AJ G K Q 1 6 ex n 31 [some (.ref (q_h G + 0)), some (.int (nI (p1))), some (.int (x))] [] σ)
      subst hxe
      refine A_aload_n hg dX10_turn_31 rfl rfl ?_
      refine A_getf (v := .ref (q_h G + 25)) hg fl_RX10_40 dX10_turn_32 hc0 (by omega) rfl ?_
      refine A_iload_n hg dX10_turn_35 rfl rfl ?_
      refine A_iload_n hg dX10_turn_36 rfl rfl ?_
      refine A_eV (kc2 := 1) (ks2 := 6) (As := [.int (nI (p1)), .int (nI (x1))]) (rest := []) hg lk_RX10_192 in_X0_turnNumber se_X0_turnNumber rfl dX10_turn_37 ⟨by decide, by decide⟩ rfl rfl ⟨by decide, by decide⟩ hg_1 (by omega) rfl rfl (Nat.le_of_ble_eq_true rfl) (c_X0_turnNumber G ex n σ 25 (g 0) (g 3) (g 4) (g 5) (g 6) tu p1 x1 hg_1 hg_10 (by omega) (by omega) (by omega)) ?_
      rw [hQ]
      exact A_ireturn hg (by decide) (by decide) rfl dX10_turn_40 ⟨rfl, ⟨rfl, p1, x1, (by have h9 := htu (g 6 - 1 - p1) (by omega) x1 (by omega); rw [show 5 * (g 6 - 1 - (g 6 - 1 - p1)) + x1 = p1 * 5 + x1 by omega] at h9; rw [h9]), rfl, c12, rfl, hx4⟩⟩
    · skip
      rw [hQ]
      exact A_throwS (text := "no such turn is kept") (names := ["java/lang/RuntimeException", "java/lang/Exception"]) hg (by decide +kernel) (by decide +kernel) tw_IndexOutOfBoundsException.2.2.1 tw_IndexOutOfBoundsException.2.2.2 (q_mt 963 (by decide +kernel)) tw_IndexOutOfBoundsException.1 tw_IndexOutOfBoundsException.2.1 dX10_turn_15 dX10_turn_18 dX10_turn_19 dX10_turn_21 dX10_turn_24 ⟨by decide, by decide, by decide, by decide⟩ (by decide) (by decide) ⟨rfl, Or.inl (⟨rfl, (fun i h1 e => by have := q_nI_inj hp31 (by omega) e; omega)⟩)⟩
set_option maxRecDepth 100000 in
set_option maxHeartbeats 4000000 in
theorem c_X10_only (G : GL) (ex : Bool) (n : Nat) (σ : Nat → va_E) (z1 : Int32) (z2 : Int32) (z3 : Int32) (g : Nat → Nat) (r : Int32) (x : Int32) (hc0 : σ 0 = o10 G (z1) (z2) (z3)) (hn9 : 279 ≤ n) (hG : x_gm G σ 25 g) : CtX G yX10_only cX10_only 3 (some .int) ⟨7, 1, 6, 111⟩ [.ref (q_h G + 0), .int (r), .int (x)] ex n σ (fun v9 σ2 => (∃ (r1 : Nat), ∃ (i1 : Nat), v9 = some (.int (nI (s_rule g r1 (10 + i1)))) ∧ (r = nI r1) ∧ (r1 < g 0) ∧ (x = nI i1) ∧ (i1 < s_rule g r1 9) ∧ σ2 = σ) ∨ (∃ (r1 : Nat), v9 = some (.int (q_d (0))) ∧ (r = nI r1) ∧ (r1 < g 0) ∧ (∀ j : Nat, j < s_rule g r1 9 → x = nI j → False) ∧ σ2 = σ)) (fun E σ2 => σ2 = σ ∧ ((E = "java/lang/IndexOutOfBoundsException" ∧ (∀ j : Nat, j < g 0 → r = nI j → False)))) := by
  refine q_enter [some (.ref (q_h G + 0)), some (.int (r)), some (.int (x))] (by decide) (Nat.le_of_ble_eq_true rfl) rfl ?_
  intro K hg
  obtain ⟨Q, hQ⟩ : ∃ Q, Q = q_Q G K ex n 1 6 (fun v9 n' σ' => n' = n ∧ (fun v9 σ2 => (∃ (r1 : Nat), ∃ (i1 : Nat), v9 = some (.int (nI (s_rule g r1 (10 + i1)))) ∧ (r = nI r1) ∧ (r1 < g 0) ∧ (x = nI i1) ∧ (i1 < s_rule g r1 9) ∧ σ2 = σ) ∨ (∃ (r1 : Nat), v9 = some (.int (q_d (0))) ∧ (r = nI r1) ∧ (r1 < g 0) ∧ (∀ j : Nat, j < s_rule g r1 9 → x = nI j → False) ∧ σ2 = σ)) v9 σ') (fun E σ2 => σ2 = σ ∧ ((E = "java/lang/IndexOutOfBoundsException" ∧ (∀ j : Nat, j < g 0 → r = nI j → False)))) := ⟨_, rfl⟩
  refine (?_ : AJ G K (q_Q G K ex n 1 6 _ _) 0 0 ex n 0 _ _ σ)
  rw [← hQ]
  obtain ⟨kd, fi, se, tf, ts, ac, tu, nm, on, sl, mo, nb, bm, ⟨hg_1, hg_2, hg_3, hg_4, hg_5, hg_6, hg_7, hg_8, hg_9, hg_10, hg_11, hg_12⟩, hgr⟩ := hG
  obtain ⟨hgw, hxp, htp, hrl, hac, htu⟩ := hgr
  have hrs := x_rl_rs hrl
  have hg0 := hgw.1
  have hg1 := hgw.2.1
  have hg2 := hgw.2.2.1
  have hg3 := hgw.2.2.2.1
  have hg6 := hgw.2.2.2.2.1
  have hnp : s_np g = g 1 + g 2 := rfl
  have hc_13 : ∀ j9 : Nat, j9 < g 0 → σ (25 + 10 + 2 * j9) = o7 G (25 + 10 + 2 * j9) (lN (nm j9)) (lN (on j9)) (nI (s_rule g j9 18)) (nI (s_rule g j9 19)) (nI (s_rule g j9 20)) := fun j9 hj => (hg_11 j9 (by omega)).trans (by rw [(hrl j9 hj).2.2.2.1, (hrl j9 hj).2.2.2.2.1, (hrl j9 hj).2.2.2.2.2.1])
  have hc_14 : ∀ j9 : Nat, j9 < g 0 → σ (25 + 10 + 2 * j9 + 1) = q_an G 5 (bm j9) := fun j9 hj => hg_12 j9 (by omega)
  refine A_aload_n hg dX10_only_0 rfl rfl ?_
  refine A_iload_n hg dX10_only_1 rfl rfl ?_
  refine A_pVX (kc2 := 1) (ks2 := 6) (As := [.int (r)]) (rest := []) hg lk_RX10_195 in_X10_needRule se_X10_needRule rfl dX10_only_2 ⟨by decide, by decide⟩ rfl rfl ⟨by decide, by decide⟩ hc0 (by omega) rfl rfl (Nat.le_of_ble_eq_true rfl) (c_X10_needRule G ex n σ z1 z2 z3 (g 0) (g 3) (g 4) (g 5) (g 6) r hc0 hg_1 (by omega) (by omega)) (fun E σx hx => by rw [hQ]; exact A_out hg (by decide) (by decide) (by obtain ⟨hs, hE, hx⟩ := hx; exact ⟨hs, ⟨hE, hx⟩⟩)) ?_
  rintro _ ⟨r1, rfl, hre, hrl9⟩
  refine (?_ : AJ G K Q 1 6 ex n 5 [some (.ref (q_h G + 0)), some (.int (r)), some (.int (x))] [] σ)
  subst hre
  have hu := hgw.2.2.2.2.2.1 r1 hrl9
  have hrr := hrl r1 hrl9
  have hon := hrr.2.1
  refine A_aload_n hg dX10_only_5 rfl rfl ?_
  refine A_getf (v := .ref (q_h G + 25)) hg fl_RX10_40 dX10_only_6 hc0 (by omega) rfl ?_
  refine A_iload_n hg dX10_only_9 rfl rfl ?_
  refine A_eV (kc2 := 1) (ks2 := 6) (As := [.int (nI (r1))]) (rest := []) hg lk_RX10_198 in_X0_ruleAt se_X0_ruleAt rfl dX10_only_10 ⟨by decide, by decide⟩ rfl rfl ⟨by decide, by decide⟩ hg_1 (by omega) rfl rfl (Nat.le_of_ble_eq_true rfl) (c_X0_ruleAt G ex n σ 25 (g 0) (g 3) (g 4) (g 5) (g 6) r1 hg_1 hg_2 (by omega) (by omega)) ?_
  refine A_iload_n hg dX10_only_13 rfl rfl ?_
  refine A_hV (kc2 := 1) (ks2 := 6) (As := [.int (x)]) (rest := []) hg lk_RX10_244 in_X7_onlyAt se_X7_onlyAt rfl dX10_only_14 ⟨by decide, by decide⟩ rfl rfl ⟨by decide, by decide⟩ (hc_13 r1 (by omega)) (by omega) rfl rfl (Nat.le_of_ble_eq_true rfl) (c_X7_onlyAt G ex n σ (25 + 10 + 2 * r1) (nm r1) (on r1) (s_rule g r1 18) (s_rule g r1 19) (s_rule g r1 20) x (hc_13 r1 (by omega)) (by omega) hon.1) ?_
  rintro _ σ_17 (⟨q9, rfl, hq1, hq2, hqb, hxe, he_15⟩ | ⟨rfl, hno9, he_16⟩)
  · skip
    rw [he_15]
    refine (?_ : AJ G K Q 1 6 ex n 17 [some (.ref (q_h G + 0)), some (.int (nI (r1))), some (.int (x))] [.int (nI (q9))] σ)
    obtain ⟨hi1, hi2⟩ := x_on_i hon hrr.2.2.1 hq1 hq2 hqb
    rw [hQ]
    exact A_ireturn hg (by decide) (by decide) rfl dX10_only_17 ⟨rfl, Or.inl (⟨r1, (x_oc (on r1) q9), (by rw [hi2]), rfl, hrl9, hxe, hi1, rfl⟩)⟩
  · skip
    rw [he_16]
    refine (?_ : AJ G K Q 1 6 ex n 17 [some (.ref (q_h G + 0)), some (.int (nI (r1))), some (.int (x))] [.int (q_d (0))] σ)
    rw [hQ]
    exact A_ireturn hg (by decide) (by decide) rfl dX10_only_17 ⟨rfl, Or.inr ((⟨r1, rfl, rfl, hrl9, (fun j hj e => hno9 j (by rw [x_oc_all hon hrr.2.2.1]; exact hj) e), rfl⟩))⟩
set_option maxRecDepth 100000 in
set_option maxHeartbeats 4000000 in
theorem c_X10_barred (G : GL) (ex : Bool) (n : Nat) (σ : Nat → va_E) (z1 : Int32) (z2 : Int32) (z3 : Int32) (g : Nat → Nat) (r : Int32) (x : Int32) (s : Bool) (hc0 : σ 0 = o10 G (z1) (z2) (z3)) (hn9 : 279 ≤ n) (hG : x_gm G σ 25 g) : CtX G yX10_barred cX10_barred 5 (some .int) ⟨7, 1, 6, 111⟩ [.ref (q_h G + 0), .int (r), .int (x), .int (q_b (s))] ex n σ (fun v9 σ2 => (∃ (r1 : Nat), ∃ (i1 : Nat), v9 = some (.int (nI (s_rule g r1 (21 + 2 * i1 + (if s = true then 1 else 0))))) ∧ (r = nI r1) ∧ (r1 < g 0) ∧ (x = nI i1) ∧ (i1 < s_rule g r1 20) ∧ σ2 = σ) ∨ (∃ (r1 : Nat), v9 = some (.int (q_d (0))) ∧ (r = nI r1) ∧ (r1 < g 0) ∧ (∀ j : Nat, j < s_rule g r1 20 → x = nI j → False) ∧ σ2 = σ)) (fun E σ2 => σ2 = σ ∧ ((E = "java/lang/IndexOutOfBoundsException" ∧ (∀ j : Nat, j < g 0 → r = nI j → False)))) := by
  refine q_enter [some (.ref (q_h G + 0)), some (.int (r)), some (.int (x)), some (.int (q_b (s))), none] (by decide) (Nat.le_of_ble_eq_true rfl) rfl ?_
  intro K hg
  obtain ⟨Q, hQ⟩ : ∃ Q, Q = q_Q G K ex n 1 6 (fun v9 n' σ' => n' = n ∧ (fun v9 σ2 => (∃ (r1 : Nat), ∃ (i1 : Nat), v9 = some (.int (nI (s_rule g r1 (21 + 2 * i1 + (if s = true then 1 else 0))))) ∧ (r = nI r1) ∧ (r1 < g 0) ∧ (x = nI i1) ∧ (i1 < s_rule g r1 20) ∧ σ2 = σ) ∨ (∃ (r1 : Nat), v9 = some (.int (q_d (0))) ∧ (r = nI r1) ∧ (r1 < g 0) ∧ (∀ j : Nat, j < s_rule g r1 20 → x = nI j → False) ∧ σ2 = σ)) v9 σ') (fun E σ2 => σ2 = σ ∧ ((E = "java/lang/IndexOutOfBoundsException" ∧ (∀ j : Nat, j < g 0 → r = nI j → False)))) := ⟨_, rfl⟩
  refine (?_ : AJ G K (q_Q G K ex n 1 6 _ _) 0 0 ex n 0 _ _ σ)
  rw [← hQ]
  obtain ⟨kd, fi, se, tf, ts, ac, tu, nm, on, sl, mo, nb, bm, ⟨hg_1, hg_2, hg_3, hg_4, hg_5, hg_6, hg_7, hg_8, hg_9, hg_10, hg_11, hg_12⟩, hgr⟩ := hG
  obtain ⟨hgw, hxp, htp, hrl, hac, htu⟩ := hgr
  have hrs := x_rl_rs hrl
  have hg0 := hgw.1
  have hg1 := hgw.2.1
  have hg2 := hgw.2.2.1
  have hg3 := hgw.2.2.2.1
  have hg6 := hgw.2.2.2.2.1
  have hnp : s_np g = g 1 + g 2 := rfl
  have hc_13 : ∀ j9 : Nat, j9 < g 0 → σ (25 + 10 + 2 * j9) = o7 G (25 + 10 + 2 * j9) (lN (nm j9)) (lN (on j9)) (nI (s_rule g j9 18)) (nI (s_rule g j9 19)) (nI (s_rule g j9 20)) := fun j9 hj => (hg_11 j9 (by omega)).trans (by rw [(hrl j9 hj).2.2.2.1, (hrl j9 hj).2.2.2.2.1, (hrl j9 hj).2.2.2.2.2.1])
  have hc_14 : ∀ j9 : Nat, j9 < g 0 → σ (25 + 10 + 2 * j9 + 1) = q_an G 5 (bm j9) := fun j9 hj => hg_12 j9 (by omega)
  refine A_aload_n hg dX10_barred_0 rfl rfl ?_
  refine A_iload_n hg dX10_barred_1 rfl rfl ?_
  refine A_pVX (kc2 := 1) (ks2 := 6) (As := [.int (r)]) (rest := []) hg lk_RX10_195 in_X10_needRule se_X10_needRule rfl dX10_barred_2 ⟨by decide, by decide⟩ rfl rfl ⟨by decide, by decide⟩ hc0 (by omega) rfl rfl (Nat.le_of_ble_eq_true rfl) (c_X10_needRule G ex n σ z1 z2 z3 (g 0) (g 3) (g 4) (g 5) (g 6) r hc0 hg_1 (by omega) (by omega)) (fun E σx hx => by rw [hQ]; exact A_out hg (by decide) (by decide) (by obtain ⟨hs, hE, hx⟩ := hx; exact ⟨hs, ⟨hE, hx⟩⟩)) ?_
  rintro _ ⟨r1, rfl, hre, hrl9⟩
  refine (?_ : AJ G K Q 1 6 ex n 5 [some (.ref (q_h G + 0)), some (.int (r)), some (.int (x)), some (.int (q_b (s))), none] [] σ)
  subst hre
  have hu := hgw.2.2.2.2.2.1 r1 hrl9
  have hrr := hrl r1 hrl9
  have hon := hrr.2.1
  have hw20 := hu.2.2.2.2.1
  refine A_aload_n hg dX10_barred_5 rfl rfl ?_
  refine A_getf (v := .ref (q_h G + 25)) hg fl_RX10_40 dX10_barred_6 hc0 (by omega) rfl ?_
  refine A_iload_n hg dX10_barred_9 rfl rfl ?_
  refine A_eV (kc2 := 1) (ks2 := 6) (As := [.int (nI (r1))]) (rest := []) hg lk_RX10_198 in_X0_ruleAt se_X0_ruleAt rfl dX10_barred_10 ⟨by decide, by decide⟩ rfl rfl ⟨by decide, by decide⟩ hg_1 (by omega) rfl rfl (Nat.le_of_ble_eq_true rfl) (c_X0_ruleAt G ex n σ 25 (g 0) (g 3) (g 4) (g 5) (g 6) r1 hg_1 hg_2 (by omega) (by omega)) ?_
  refine A_iload_n hg dX10_barred_13 rfl rfl ?_
  refine A_hV (kc2 := 1) (ks2 := 6) (As := [.int (x)]) (rest := []) hg lk_RX10_247 in_X7_barAt se_X7_barAt rfl dX10_barred_14 ⟨by decide, by decide⟩ rfl rfl ⟨by decide, by decide⟩ (hc_13 r1 (by omega)) (by omega) rfl rfl (Nat.le_of_ble_eq_true rfl) (c_X7_barAt G ex n σ (25 + 10 + 2 * r1) (nm r1) (on r1) (s_rule g r1 18) (s_rule g r1 19) (s_rule g r1 20) (bm r1) x (hc_13 r1 (by omega)) (hc_14 r1 (by omega)) (by omega) (by omega)) ?_
  rintro _ σ_17 (⟨i1, rfl, hxe, hj9, he_15⟩ | ⟨rfl, hno9, he_16⟩)
  · skip
    rw [he_15]
    refine (?_ : AJ G K Q 1 6 ex n 17 [some (.ref (q_h G + 0)), some (.int (nI (r1))), some (.int (x)), some (.int (q_b (s))), none] [.int (nI ((bm r1) i1))] σ)
    refine A_istore hg dX10_barred_17 (by decide) (q_c1d rfl) ?_
    refine A_eq (ls2 := [some (.ref (q_h G + 0)), some (.int (nI (r1))), some (.int (x)), some (.int (q_b (s))), some (.int (nI ((bm r1) i1)))]) (st2 := []) (pc2 := 0) rfl rfl ?_
    have hbi := hrr.2.2.2.2.2.2 i1 hj9
    have hb1 := hu.2.2.2.2.2.2 (2 * i1) (by omega)
    have hb2 := hu.2.2.2.2.2.2 (2 * i1 + 1) (by omega)
    rw [← Nat.add_assoc] at hb2
    have eq1 : bm r1 i1 / 41 = s_rule g r1 (21 + 2 * i1) := by omega
    have eq2 : bm r1 i1 % 41 = s_rule g r1 (21 + 2 * i1 + 1) := by omega
    refine A_iload hg dX10_barred_19 rfl ?_
    refine A_if_geN (tgt := 26) hg dX10_barred_21 (by omega) (by decide) ?_
    refine A_iload_n hg dX10_barred_26 rfl rfl ?_
    refine A_if_eqB (tgt := 38) hg dX10_barred_27 (by decide) (fun c27 => ?_) (fun c27 => ?_)
    · skip
      refine A_iload hg dX10_barred_38 rfl ?_
      refine A_bipush (v := (nI (41))) hg dX10_barred_40 (by decide) ?_
      refine A_idivN hg dX10_barred_42 (by omega) (by decide) (by decide) ?_
      rw [hQ]
      exact A_ireturn hg (by decide) (by decide) rfl dX10_barred_43 ⟨rfl, Or.inl (⟨r1, i1, (by rw [eq1, c27]; rfl), rfl, hrl9, hxe, hj9, rfl⟩)⟩
    · skip
      refine A_iload hg dX10_barred_30 rfl ?_
      refine A_bipush (v := (nI (41))) hg dX10_barred_32 (by decide) ?_
      refine A_iremN hg dX10_barred_34 (by omega) (by decide) (by decide) ?_
      refine A_goto (tgt := 43) hg dX10_barred_35 (by decide) ?_
      rw [hQ]
      exact A_ireturn hg (by decide) (by decide) rfl dX10_barred_43 ⟨rfl, Or.inl (⟨r1, i1, (by rw [eq2, c27]; rfl), rfl, hrl9, hxe, hj9, rfl⟩)⟩
  · skip
    rw [he_16]
    refine (?_ : AJ G K Q 1 6 ex n 17 [some (.ref (q_h G + 0)), some (.int (nI (r1))), some (.int (x)), some (.int (q_b (s))), none] [.int (q_d (0))] σ)
    refine A_istore hg dX10_barred_17 (by decide) (q_c1d rfl) ?_
    refine A_eq (ls2 := [some (.ref (q_h G + 0)), some (.int (nI (r1))), some (.int (x)), some (.int (q_b (s))), some (.int (q_d (0)))]) (st2 := []) (pc2 := 0) rfl rfl ?_
    refine A_iload hg dX10_barred_19 rfl ?_
    refine A_if_geM (tgt := 26) hg dX10_barred_21 (by decide) (by decide) (fun c21 => absurd c21 (by decide)) (fun c21 => ?_)
    refine A_iconst (v := (q_d (0))) hg dX10_barred_24 (by decide) ?_
    rw [hQ]
    exact A_ireturn hg (by decide) (by decide) rfl dX10_barred_25 ⟨rfl, Or.inr ((⟨r1, rfl, rfl, hrl9, hno9, rfl⟩))⟩
set_option maxRecDepth 100000 in
set_option maxHeartbeats 4000000 in
theorem c_X10_ruleLetter (G : GL) (ex : Bool) (n : Nat) (σ : Nat → va_E) (z1 : Int32) (z2 : Int32) (z3 : Int32) (g : Nat → Nat) (r : Int32) (x : Int32) (hc0 : σ 0 = o10 G (z1) (z2) (z3)) (hn9 : 279 ≤ n) (hG : x_gm G σ 25 g) : CtX G yX10_ruleLetter cX10_ruleLetter 3 (some .int) ⟨7, 1, 6, 111⟩ [.ref (q_h G + 0), .int (r), .int (x)] ex n σ (fun v9 σ2 => (∃ (r1 : Nat), ∃ (i1 : Nat), v9 = some (.int (nI (s_rule g r1 (1 + i1)))) ∧ (r = nI r1) ∧ (r1 < g 0) ∧ (x = nI i1) ∧ (i1 < s_rule g r1 0) ∧ σ2 = σ) ∨ (∃ (r1 : Nat), v9 = some (.int (nI (0))) ∧ (r = nI r1) ∧ (r1 < g 0) ∧ (∀ j : Nat, j < s_rule g r1 0 → x = nI j → False) ∧ σ2 = σ)) (fun E σ2 => σ2 = σ ∧ ((E = "java/lang/IndexOutOfBoundsException" ∧ (∀ j : Nat, j < g 0 → r = nI j → False)))) := by
  refine q_enter [some (.ref (q_h G + 0)), some (.int (r)), some (.int (x))] (by decide) (Nat.le_of_ble_eq_true rfl) rfl ?_
  intro K hg
  obtain ⟨Q, hQ⟩ : ∃ Q, Q = q_Q G K ex n 1 6 (fun v9 n' σ' => n' = n ∧ (fun v9 σ2 => (∃ (r1 : Nat), ∃ (i1 : Nat), v9 = some (.int (nI (s_rule g r1 (1 + i1)))) ∧ (r = nI r1) ∧ (r1 < g 0) ∧ (x = nI i1) ∧ (i1 < s_rule g r1 0) ∧ σ2 = σ) ∨ (∃ (r1 : Nat), v9 = some (.int (nI (0))) ∧ (r = nI r1) ∧ (r1 < g 0) ∧ (∀ j : Nat, j < s_rule g r1 0 → x = nI j → False) ∧ σ2 = σ)) v9 σ') (fun E σ2 => σ2 = σ ∧ ((E = "java/lang/IndexOutOfBoundsException" ∧ (∀ j : Nat, j < g 0 → r = nI j → False)))) := ⟨_, rfl⟩
  refine (?_ : AJ G K (q_Q G K ex n 1 6 _ _) 0 0 ex n 0 _ _ σ)
  rw [← hQ]
  obtain ⟨kd, fi, se, tf, ts, ac, tu, nm, on, sl, mo, nb, bm, ⟨hg_1, hg_2, hg_3, hg_4, hg_5, hg_6, hg_7, hg_8, hg_9, hg_10, hg_11, hg_12⟩, hgr⟩ := hG
  obtain ⟨hgw, hxp, htp, hrl, hac, htu⟩ := hgr
  have hrs := x_rl_rs hrl
  have hg0 := hgw.1
  have hg1 := hgw.2.1
  have hg2 := hgw.2.2.1
  have hg3 := hgw.2.2.2.1
  have hg6 := hgw.2.2.2.2.1
  have hnp : s_np g = g 1 + g 2 := rfl
  have hc_13 : ∀ j9 : Nat, j9 < g 0 → σ (25 + 10 + 2 * j9) = o7 G (25 + 10 + 2 * j9) (lN (nm j9)) (lN (on j9)) (nI (s_rule g j9 18)) (nI (s_rule g j9 19)) (nI (s_rule g j9 20)) := fun j9 hj => (hg_11 j9 (by omega)).trans (by rw [(hrl j9 hj).2.2.2.1, (hrl j9 hj).2.2.2.2.1, (hrl j9 hj).2.2.2.2.2.1])
  have hc_14 : ∀ j9 : Nat, j9 < g 0 → σ (25 + 10 + 2 * j9 + 1) = q_an G 5 (bm j9) := fun j9 hj => hg_12 j9 (by omega)
  refine A_aload_n hg dX10_ruleLetter_0 rfl rfl ?_
  refine A_iload_n hg dX10_ruleLetter_1 rfl rfl ?_
  refine A_pVX (kc2 := 1) (ks2 := 6) (As := [.int (r)]) (rest := []) hg lk_RX10_195 in_X10_needRule se_X10_needRule rfl dX10_ruleLetter_2 ⟨by decide, by decide⟩ rfl rfl ⟨by decide, by decide⟩ hc0 (by omega) rfl rfl (Nat.le_of_ble_eq_true rfl) (c_X10_needRule G ex n σ z1 z2 z3 (g 0) (g 3) (g 4) (g 5) (g 6) r hc0 hg_1 (by omega) (by omega)) (fun E σx hx => by rw [hQ]; exact A_out hg (by decide) (by decide) (by obtain ⟨hs, hE, hx⟩ := hx; exact ⟨hs, ⟨hE, hx⟩⟩)) ?_
  rintro _ ⟨r1, rfl, hre, hrl9⟩
  refine (?_ : AJ G K Q 1 6 ex n 5 [some (.ref (q_h G + 0)), some (.int (r)), some (.int (x))] [] σ)
  subst hre
  have hu := hgw.2.2.2.2.2.1 r1 hrl9
  have hrr := hrl r1 hrl9
  have hon := hrr.2.1
  refine A_aload_n hg dX10_ruleLetter_5 rfl rfl ?_
  refine A_getf (v := .ref (q_h G + 25)) hg fl_RX10_40 dX10_ruleLetter_6 hc0 (by omega) rfl ?_
  refine A_iload_n hg dX10_ruleLetter_9 rfl rfl ?_
  refine A_eV (kc2 := 1) (ks2 := 6) (As := [.int (nI (r1))]) (rest := []) hg lk_RX10_198 in_X0_ruleAt se_X0_ruleAt rfl dX10_ruleLetter_10 ⟨by decide, by decide⟩ rfl rfl ⟨by decide, by decide⟩ hg_1 (by omega) rfl rfl (Nat.le_of_ble_eq_true rfl) (c_X0_ruleAt G ex n σ 25 (g 0) (g 3) (g 4) (g 5) (g 6) r1 hg_1 hg_2 (by omega) (by omega)) ?_
  refine A_getf (v := .long (lN (nm r1))) hg fl_RX10_250 dX10_ruleLetter_13 (hc_13 r1 (by omega)) (by omega) rfl ?_
  refine A_iload_n hg dX10_ruleLetter_16 rfl rfl ?_
  refine A_hS (kc2 := 1) (ks2 := 6) (As := [.long (lN (nm r1)), .int (x)]) (rest := []) hg lk_RX10_253 st_X10_letterOf dX10_ruleLetter_17 ⟨by decide, by decide⟩ rfl rfl ⟨by decide, by decide⟩ rfl rfl (Nat.le_of_ble_eq_true rfl) (c_X10_letterOfI G ex n σ (nm r1) x (x_nmr_lt hrr.1)) ?_
  rintro _ σ_17 (⟨k9, rfl, hxe, hk8, he_15⟩ | ⟨rfl, hno9, he_16⟩)
  · skip
    rw [he_15]
    refine (?_ : AJ G K Q 1 6 ex n 20 [some (.ref (q_h G + 0)), some (.int (nI (r1))), some (.int (x))] [.int (nI (x_le (nm r1) k9))] σ)
    have hle := x_nmr_le (k := k9) hrr.1
    by_cases hku : k9 < s_rule g r1 0
    · skip
      rw [hQ]
      exact A_ireturn hg (by decide) (by decide) rfl dX10_ruleLetter_20 ⟨rfl, Or.inl (⟨r1, k9, (by rw [hle, if_pos hku]), rfl, hrl9, hxe, hku, rfl⟩)⟩
    · skip
      rw [hQ]
      exact A_ireturn hg (by decide) (by decide) rfl dX10_ruleLetter_20 ⟨rfl, Or.inr ((⟨r1, (by rw [hle, if_neg hku]), rfl, hrl9, (fun j hj e => by have h8 := hrr.1.1.1; have := q_nI_inj (show k9 < 2 ^ 31 by omega) (by omega) (hxe.symm.trans e); omega), rfl⟩))⟩
  · skip
    rw [he_16]
    refine (?_ : AJ G K Q 1 6 ex n 20 [some (.ref (q_h G + 0)), some (.int (nI (r1))), some (.int (x))] [.int (nI (0))] σ)
    rw [hQ]
    exact A_ireturn hg (by decide) (by decide) rfl dX10_ruleLetter_20 ⟨rfl, Or.inr ((⟨r1, rfl, rfl, hrl9, (fun j hj e => hno9 j (by have := hrr.1.1.1; omega) e), rfl⟩))⟩
set_option maxRecDepth 100000 in
set_option maxHeartbeats 4000000 in
theorem c_X10_allows (G : GL) (ex : Bool) (n : Nat) (σ : Nat → va_E) (z1 : Int32) (z2 : Int32) (z3 : Int32) (g : Nat → Nat) (r : Int32) (k : Int32) (l : Int32) (hc0 : σ 0 = o10 G (z1) (z2) (z3)) (hn9 : 279 ≤ n) (hG : x_gm G σ 25 g) : CtX G yX10_allows cX10_allows 4 (some .boolean) ⟨8, 3, 18, 133⟩ [.ref (q_h G + 0), .int (r), .int (k), .int (l)] ex n σ (fun v9 σ2 => σ2 = σ ∧ ∃ (r1 : Nat), ∃ (a1 : Nat), ∃ (b1 : Nat), v9 = some (.int (q_b (s_al (s_rule g r1) a1 b1))) ∧ (r = nI r1) ∧ (r1 < g 0) ∧ (k = nI a1) ∧ (l = nI b1) ∧ (a1 ≤ 40) ∧ (b1 ≤ 40)) (fun E σ2 => σ2 = σ ∧ ((E = "java/lang/IndexOutOfBoundsException" ∧ (∀ j : Nat, j < g 0 → r = nI j → False)) ∨ (E = "java/lang/IllegalArgumentException" ∧ (∃ r1 : Nat, r = nI r1 ∧ r1 < g 0 ∧ (∀ a b : Nat, a ≤ 40 → b ≤ 40 → k = nI a → l = nI b → False))))) := by
  refine q_enter [some (.ref (q_h G + 0)), some (.int (r)), some (.int (k)), some (.int (l))] (by decide) (Nat.le_of_ble_eq_true rfl) rfl ?_
  intro K hg
  obtain ⟨Q, hQ⟩ : ∃ Q, Q = q_Q G K ex n 3 18 (fun v9 n' σ' => n' = n ∧ (fun v9 σ2 => σ2 = σ ∧ ∃ (r1 : Nat), ∃ (a1 : Nat), ∃ (b1 : Nat), v9 = some (.int (q_b (s_al (s_rule g r1) a1 b1))) ∧ (r = nI r1) ∧ (r1 < g 0) ∧ (k = nI a1) ∧ (l = nI b1) ∧ (a1 ≤ 40) ∧ (b1 ≤ 40)) v9 σ') (fun E σ2 => σ2 = σ ∧ ((E = "java/lang/IndexOutOfBoundsException" ∧ (∀ j : Nat, j < g 0 → r = nI j → False)) ∨ (E = "java/lang/IllegalArgumentException" ∧ (∃ r1 : Nat, r = nI r1 ∧ r1 < g 0 ∧ (∀ a b : Nat, a ≤ 40 → b ≤ 40 → k = nI a → l = nI b → False))))) := ⟨_, rfl⟩
  refine (?_ : AJ G K (q_Q G K ex n 3 18 _ _) 0 0 ex n 0 _ _ σ)
  rw [← hQ]
  obtain ⟨kd, fi, se, tf, ts, ac, tu, nm, on, sl, mo, nb, bm, ⟨hg_1, hg_2, hg_3, hg_4, hg_5, hg_6, hg_7, hg_8, hg_9, hg_10, hg_11, hg_12⟩, hgr⟩ := hG
  obtain ⟨hgw, hxp, htp, hrl, hac, htu⟩ := hgr
  have hrs := x_rl_rs hrl
  have hg0 := hgw.1
  have hg1 := hgw.2.1
  have hg2 := hgw.2.2.1
  have hg3 := hgw.2.2.2.1
  have hg6 := hgw.2.2.2.2.1
  have hnp : s_np g = g 1 + g 2 := rfl
  have hc_13 : ∀ j9 : Nat, j9 < g 0 → σ (25 + 10 + 2 * j9) = o7 G (25 + 10 + 2 * j9) (lN (nm j9)) (lN (on j9)) (nI (s_rule g j9 18)) (nI (s_rule g j9 19)) (nI (s_rule g j9 20)) := fun j9 hj => (hg_11 j9 (by omega)).trans (by rw [(hrl j9 hj).2.2.2.1, (hrl j9 hj).2.2.2.2.1, (hrl j9 hj).2.2.2.2.2.1])
  have hc_14 : ∀ j9 : Nat, j9 < g 0 → σ (25 + 10 + 2 * j9 + 1) = q_an G 5 (bm j9) := fun j9 hj => hg_12 j9 (by omega)
  refine A_aload_n hg dX10_allows_0 rfl rfl ?_
  refine A_iload_n hg dX10_allows_1 rfl rfl ?_
  refine A_pVX (kc2 := 1) (ks2 := 6) (As := [.int (r)]) (rest := []) hg lk_RX10_195 in_X10_needRule se_X10_needRule rfl dX10_allows_2 ⟨by decide, by decide⟩ rfl rfl ⟨by decide, by decide⟩ hc0 (by omega) rfl rfl (Nat.le_of_ble_eq_true rfl) (c_X10_needRule G ex n σ z1 z2 z3 (g 0) (g 3) (g 4) (g 5) (g 6) r hc0 hg_1 (by omega) (by omega)) (fun E σx hx => by rw [hQ]; exact A_out hg (by decide) (by decide) (by obtain ⟨hs, hE, hx⟩ := hx; exact ⟨hs, Or.inl (⟨hE, hx⟩)⟩)) ?_
  rintro _ ⟨r1, rfl, hre, hrl9⟩
  refine (?_ : AJ G K Q 1 6 ex n 5 [some (.ref (q_h G + 0)), some (.int (r)), some (.int (k)), some (.int (l))] [] σ)
  subst hre
  have hu := hgw.2.2.2.2.2.1 r1 hrl9
  have hrr := hrl r1 hrl9
  have hon := hrr.2.1
  refine A_iload_n hg dX10_allows_5 rfl rfl ?_
  refine A_iload_n hg dX10_allows_6 rfl rfl ?_
  refine A_pSX (kc2 := 3) (ks2 := 18) (As := [.int (k), .int (l)]) (rest := []) hg lk_RX10_292 st_X10_needHeaps dX10_allows_7 ⟨by decide, by decide⟩ rfl rfl ⟨by decide, by decide⟩ rfl rfl (Nat.le_of_ble_eq_true rfl) (c_X10_needHeaps G ex n σ k l) (fun E σx hx => by rw [hQ]; exact A_out hg (by decide) (by decide) (by obtain ⟨hs, hE, hx⟩ := hx; exact ⟨hs, Or.inr ((⟨hE, r1, rfl, hrl9, hx⟩))⟩)) ?_
  rintro _ ⟨a1, b1, rfl, hke, hle, ha9, hb9⟩
  refine (?_ : AJ G K Q 3 18 ex n 10 [some (.ref (q_h G + 0)), some (.int (nI (r1))), some (.int (k)), some (.int (l))] [] σ)
  subst hke
  subst hle
  refine A_iload_n hg dX10_allows_10 rfl rfl ?_
  refine A_iload_n hg dX10_allows_11 rfl rfl ?_
  refine A_iaddN hg dX10_allows_12 ?_
  refine A_if_leN (tgt := 36) hg dX10_allows_13 (by omega) (by decide) (fun c13 => ?_) (fun c13 => ?_)
  · skip
    refine A_iconst (v := (nI (0))) hg dX10_allows_36 (by decide) ?_
    rw [hQ]
    exact A_zreturn hg (by decide) (by decide) rfl rfl dX10_allows_37 ⟨rfl, ⟨rfl, r1, a1, b1, (q_rf (decide_eq_false (by rintro ⟨h1, h2⟩; first | omega | exact c29 h2))), rfl, hrl9, rfl, rfl, ha9, hb9⟩⟩
  · skip
    refine A_aload_n hg dX10_allows_16 rfl rfl ?_
    refine A_getf (v := .ref (q_h G + 25)) hg fl_RX10_40 dX10_allows_17 hc0 (by omega) rfl ?_
    refine A_iload_n hg dX10_allows_20 rfl rfl ?_
    refine A_eV (kc2 := 3) (ks2 := 18) (As := [.int (nI (r1))]) (rest := []) hg lk_RX10_198 in_X0_ruleAt se_X0_ruleAt rfl dX10_allows_21 ⟨by decide, by decide⟩ rfl rfl ⟨by decide, by decide⟩ hg_1 (by omega) rfl rfl (Nat.le_of_ble_eq_true rfl) (c_X0_ruleAt G ex n σ 25 (g 0) (g 3) (g 4) (g 5) (g 6) r1 hg_1 hg_2 (by omega) (by omega)) ?_
    refine A_iload_n hg dX10_allows_24 rfl rfl ?_
    refine A_iload_n hg dX10_allows_25 rfl rfl ?_
    refine A_eV (kc2 := 3) (ks2 := 18) (As := [.int (nI (a1)), .int (nI (b1))]) (rest := []) hg lk_RX10_296 in_X7_refusal se_X7_refusal rfl dX10_allows_26 ⟨by decide, by decide⟩ rfl rfl ⟨by decide, by decide⟩ (hc_13 r1 (by omega)) (by omega) rfl rfl (Nat.le_of_ble_eq_true rfl) (c_X7_refusal G ex n σ (25 + 10 + 2 * r1) (s_rule g r1) (nm r1) (on r1) (bm r1) a1 b1 (hc_13 r1 (by omega)) (hc_14 r1 (by omega)) (by omega) (x_w_of hu) hon hrr.2.2.2.2.2.2 (by omega) (by omega)) ?_
    refine A_if_neN (tgt := 36) hg dX10_allows_29 (by have := s_forb_le (s_rule g r1) a1 b1; omega) (by decide) (fun c29 => ?_) (fun c29 => ?_)
    · skip
      refine A_iconst (v := (nI (0))) hg dX10_allows_36 (by decide) ?_
      rw [hQ]
      exact A_zreturn hg (by decide) (by decide) rfl rfl dX10_allows_37 ⟨rfl, ⟨rfl, r1, a1, b1, (q_rf (decide_eq_false (by rintro ⟨h1, h2⟩; first | omega | exact c29 h2))), rfl, hrl9, rfl, rfl, ha9, hb9⟩⟩
    · skip
      refine A_iconst (v := (nI (1))) hg dX10_allows_32 (by decide) ?_
      refine A_goto (tgt := 37) hg dX10_allows_33 (by decide) ?_
      rw [hQ]
      exact A_zreturn hg (by decide) (by decide) rfl rfl dX10_allows_37 ⟨rfl, ⟨rfl, r1, a1, b1, (q_rt (decide_eq_true ⟨by omega, c29⟩)), rfl, hrl9, rfl, rfl, ha9, hb9⟩⟩
set_option maxRecDepth 100000 in
set_option maxHeartbeats 4000000 in
theorem c_X10_whyNot (G : GL) (ex : Bool) (n : Nat) (σ : Nat → va_E) (z1 : Int32) (z2 : Int32) (z3 : Int32) (g : Nat → Nat) (p : Int32) (k : Int32) (l : Int32) (hc0 : σ 0 = o10 G (z1) (z2) (z3)) (hn9 : 279 ≤ n) (hG : x_gm G σ 25 g) : CtX G yX10_whyNot cX10_whyNot 4 (some .int) ⟨7, 1, 6, 111⟩ [.ref (q_h G + 0), .int (p), .int (k), .int (l)] ex n σ (fun v9 σ2 => σ2 = σ ∧ ∃ (p1 : Nat), v9 = some (.int (nI (s_refI g p1 k l))) ∧ (p = nI p1) ∧ (p1 < s_np g)) (fun E σ2 => σ2 = σ ∧ ((E = "java/lang/IndexOutOfBoundsException" ∧ (∀ j : Nat, j < s_np g → p = nI j → False)))) := by
  refine q_enter [some (.ref (q_h G + 0)), some (.int (p)), some (.int (k)), some (.int (l))] (by decide) (Nat.le_of_ble_eq_true rfl) rfl ?_
  intro K hg
  obtain ⟨Q, hQ⟩ : ∃ Q, Q = q_Q G K ex n 1 6 (fun v9 n' σ' => n' = n ∧ (fun v9 σ2 => σ2 = σ ∧ ∃ (p1 : Nat), v9 = some (.int (nI (s_refI g p1 k l))) ∧ (p = nI p1) ∧ (p1 < s_np g)) v9 σ') (fun E σ2 => σ2 = σ ∧ ((E = "java/lang/IndexOutOfBoundsException" ∧ (∀ j : Nat, j < s_np g → p = nI j → False)))) := ⟨_, rfl⟩
  refine (?_ : AJ G K (q_Q G K ex n 1 6 _ _) 0 0 ex n 0 _ _ σ)
  rw [← hQ]
  obtain ⟨kd, fi, se, tf, ts, ac, tu, nm, on, sl, mo, nb, bm, ⟨hg_1, hg_2, hg_3, hg_4, hg_5, hg_6, hg_7, hg_8, hg_9, hg_10, hg_11, hg_12⟩, hgr⟩ := hG
  obtain ⟨hgw, hxp, htp, hrl, hac, htu⟩ := hgr
  have hrs := x_rl_rs hrl
  have hg0 := hgw.1
  have hg1 := hgw.2.1
  have hg2 := hgw.2.2.1
  have hg3 := hgw.2.2.2.1
  have hg6 := hgw.2.2.2.2.1
  have hnp : s_np g = g 1 + g 2 := rfl
  have hc_13 : ∀ j9 : Nat, j9 < g 0 → σ (25 + 10 + 2 * j9) = o7 G (25 + 10 + 2 * j9) (lN (nm j9)) (lN (on j9)) (nI (s_rule g j9 18)) (nI (s_rule g j9 19)) (nI (s_rule g j9 20)) := fun j9 hj => (hg_11 j9 (by omega)).trans (by rw [(hrl j9 hj).2.2.2.1, (hrl j9 hj).2.2.2.2.1, (hrl j9 hj).2.2.2.2.2.1])
  have hc_14 : ∀ j9 : Nat, j9 < g 0 → σ (25 + 10 + 2 * j9 + 1) = q_an G 5 (bm j9) := fun j9 hj => hg_12 j9 (by omega)
  refine A_aload_n hg dX10_whyNot_0 rfl rfl ?_
  refine A_iload_n hg dX10_whyNot_1 rfl rfl ?_
  refine A_pVX (kc2 := 1) (ks2 := 6) (As := [.int (p)]) (rest := []) hg lk_RX10_257 in_X10_needPart se_X10_needPart rfl dX10_whyNot_2 ⟨by decide, by decide⟩ rfl rfl ⟨by decide, by decide⟩ hc0 (by omega) rfl rfl (Nat.le_of_ble_eq_true rfl) (c_X10_needPart G ex n σ z1 z2 z3 (g 0) (g 3) (g 4) (g 5) (g 6) (g 1) (g 2) p hc0 hg_1 hg_3 (by omega) (by omega) (by omega)) (fun E σx hx => by rw [hQ]; exact A_out hg (by decide) (by decide) (by obtain ⟨hs, hE, hx⟩ := hx; exact ⟨hs, ⟨hE, hx⟩⟩)) ?_
  rintro _ ⟨p1, rfl, hpe, hpl9⟩
  refine (?_ : AJ G K Q 1 6 ex n 5 [some (.ref (q_h G + 0)), some (.int (p)), some (.int (k)), some (.int (l))] [] σ)
  subst hpe
  have hpp : p1 < s_np g := hpl9
  refine A_aload_n hg dX10_whyNot_5 rfl rfl ?_
  refine A_getf (v := .ref (q_h G + 25)) hg fl_RX10_40 dX10_whyNot_6 hc0 (by omega) rfl ?_
  refine A_iload_n hg dX10_whyNot_9 rfl rfl ?_
  refine A_iload_n hg dX10_whyNot_10 rfl rfl ?_
  refine A_iload_n hg dX10_whyNot_11 rfl rfl ?_
  refine A_eV (kc2 := 1) (ks2 := 6) (As := [.int (nI (p1)), .int (k), .int (l)]) (rest := []) hg lk_RX10_299 in_X0_reasonAgainst se_X0_reasonAgainst rfl dX10_whyNot_12 ⟨by decide, by decide⟩ rfl rfl ⟨by decide, by decide⟩ hg_1 (by omega) rfl rfl (Nat.le_of_ble_eq_true rfl) (c_X0_reasonAgainst G ex n σ 25 (g 0) (g 3) (g 4) (g 5) (g 6) g kd fi se nm on bm p1 k l hg_1 hg_2 hg_3 hg_4 hg_5 hg_6 hc_13 hc_14 (by omega) hgw hxp hrs (by omega)) ?_
  rw [hQ]
  exact A_ireturn hg (by decide) (by decide) rfl dX10_whyNot_15 ⟨rfl, ⟨rfl, p1, rfl, rfl, hpl9⟩⟩
end
