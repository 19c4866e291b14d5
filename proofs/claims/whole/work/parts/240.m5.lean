section
set_option maxRecDepth 100000 in
set_option maxHeartbeats 4000000 in
theorem c_X11_ofBoard (G : GL) (ex : Bool) (n : Nat) (σ : Nat → va_E) (F : Nat → Int32) (g : Nat → Nat) (b : Nat) (j : Nat) (hc0 : σ 279 = o11 G F) (hc1 : σ 280 = q_an G 265 g) (hn : 294 ≤ n) (hb : 133 + 5 * b + j < 265) : Ct G yX11_ofBoard cX11_ofBoard 3 (some .int) ⟨0, 0, 0, 0⟩ [.ref (q_h G + 279), .int (nI (b)), .int (nI (j))] ex n σ (fun v9 σ2 => σ2 = σ ∧ v9 = some (.int (nI (g (133 + 5 * b + j))))) := by
  refine q_enter [some (.ref (q_h G + 279)), some (.int (nI (b))), some (.int (nI (j)))] (by decide) (Nat.le_of_ble_eq_true rfl) rfl ?_
  intro K hg
  obtain ⟨Q, hQ⟩ : ∃ Q, Q = q_Q G K ex n 0 0 (fun v9 n' σ' => n' = n ∧ (fun v9 σ2 => σ2 = σ ∧ v9 = some (.int (nI (g (133 + 5 * b + j))))) v9 σ') q_noX := ⟨_, rfl⟩
  refine (?_ : AJ G K (q_Q G K ex n 0 0 _ _) 0 0 ex n 0 _ _ σ)
  rw [← hQ]
  refine A_aload_n hg dX11_ofBoard_0 rfl rfl ?_
  refine A_getf (v := .ref (q_h G + 280)) hg fl_RX11_7 dX11_ofBoard_1 hc0 (by omega) rfl ?_
  refine A_sipush (v := (nI (133))) hg dX11_ofBoard_4 (by decide) ?_
  refine A_iconst (v := (nI (5))) hg dX11_ofBoard_7 (by decide) ?_
  refine A_iload_n hg dX11_ofBoard_8 rfl rfl ?_
  refine A_imulN hg dX11_ofBoard_9 ?_
  refine A_iaddN hg dX11_ofBoard_10 ?_
  refine A_iload_n hg dX11_ofBoard_11 rfl rfl ?_
  refine A_iaddN hg dX11_ofBoard_12 ?_
  refine A_iald (j := ((133 + (5 * b)) + j)) hg dX11_ofBoard_13 hc1 (by omega) (by omega) (by decide) ?_
  rw [hQ]
  exact A_ireturn hg (by decide) (by decide) rfl dX11_ofBoard_14 ⟨rfl, ⟨rfl, rfl⟩⟩
set_option maxRecDepth 100000 in
set_option maxHeartbeats 4000000 in
theorem c_X11_ofStick (G : GL) (ex : Bool) (n : Nat) (σ : Nat → va_E) (F : Nat → Int32) (g : Nat → Nat) (b : Nat) (j : Nat) (hc0 : σ 279 = o11 G F) (hc1 : σ 280 = q_an G 265 g) (hn : 294 ≤ n) (hs : 153 + 3 * b + j < 265) : Ct G yX11_ofStick cX11_ofStick 3 (some .int) ⟨0, 0, 0, 0⟩ [.ref (q_h G + 279), .int (nI (b)), .int (nI (j))] ex n σ (fun v9 σ2 => σ2 = σ ∧ v9 = some (.int (nI (g (153 + 3 * b + j))))) := by
  refine q_enter [some (.ref (q_h G + 279)), some (.int (nI (b))), some (.int (nI (j)))] (by decide) (Nat.le_of_ble_eq_true rfl) rfl ?_
  intro K hg
  obtain ⟨Q, hQ⟩ : ∃ Q, Q = q_Q G K ex n 0 0 (fun v9 n' σ' => n' = n ∧ (fun v9 σ2 => σ2 = σ ∧ v9 = some (.int (nI (g (153 + 3 * b + j))))) v9 σ') q_noX := ⟨_, rfl⟩
  refine (?_ : AJ G K (q_Q G K ex n 0 0 _ _) 0 0 ex n 0 _ _ σ)
  rw [← hQ]
  refine A_aload_n hg dX11_ofStick_0 rfl rfl ?_
  refine A_getf (v := .ref (q_h G + 280)) hg fl_RX11_7 dX11_ofStick_1 hc0 (by omega) rfl ?_
  refine A_sipush (v := (nI (153))) hg dX11_ofStick_4 (by decide) ?_
  refine A_iconst (v := (nI (3))) hg dX11_ofStick_7 (by decide) ?_
  refine A_iload_n hg dX11_ofStick_8 rfl rfl ?_
  refine A_imulN hg dX11_ofStick_9 ?_
  refine A_iaddN hg dX11_ofStick_10 ?_
  refine A_iload_n hg dX11_ofStick_11 rfl rfl ?_
  refine A_iaddN hg dX11_ofStick_12 ?_
  refine A_iald (j := ((153 + (3 * b)) + j)) hg dX11_ofStick_13 hc1 (by omega) (by omega) (by decide) ?_
  rw [hQ]
  exact A_ireturn hg (by decide) (by decide) rfl dX11_ofStick_14 ⟨rfl, ⟨rfl, rfl⟩⟩
set_option maxRecDepth 100000 in
set_option maxHeartbeats 4000000 in
theorem c_X11_putsBoard (G : GL) (ex : Bool) (n : Nat) (σ : Nat → va_E) (F : Nat → Int32) (g : Nat → Nat) (b : Nat) (j : Nat) (x : Nat) (hc0 : σ 279 = o11 G F) (hc1 : σ 280 = q_an G 265 g) (hn : 294 ≤ n) (hb : 133 + 5 * b + j < 265) : Ct G yX11_putsBoard cX11_putsBoard 4 none ⟨0, 0, 0, 0⟩ [.ref (q_h G + 279), .int (nI (b)), .int (nI (j)), .int (nI (x))] ex n σ (fun v9 σ2 => v9 = none ∧ σ2 280 = q_an G 265 (va_up g (133 + 5 * b + j) x) ∧ (∀ i : Nat, i ≠ 280 → σ2 i = σ i)) := by
  refine q_enter [some (.ref (q_h G + 279)), some (.int (nI (b))), some (.int (nI (j))), some (.int (nI (x)))] (by decide) (Nat.le_of_ble_eq_true rfl) rfl ?_
  intro K hg
  obtain ⟨Q, hQ⟩ : ∃ Q, Q = q_Q G K ex n 0 0 (fun v9 n' σ' => n' = n ∧ (fun v9 σ2 => v9 = none ∧ σ2 280 = q_an G 265 (va_up g (133 + 5 * b + j) x) ∧ (∀ i : Nat, i ≠ 280 → σ2 i = σ i)) v9 σ') q_noX := ⟨_, rfl⟩
  refine (?_ : AJ G K (q_Q G K ex n 0 0 _ _) 0 0 ex n 0 _ _ σ)
  rw [← hQ]
  refine A_aload_n hg dX11_putsBoard_0 rfl rfl ?_
  refine A_getf (v := .ref (q_h G + 280)) hg fl_RX11_7 dX11_putsBoard_1 hc0 (by omega) rfl ?_
  refine A_sipush (v := (nI (133))) hg dX11_putsBoard_4 (by decide) ?_
  refine A_iconst (v := (nI (5))) hg dX11_putsBoard_7 (by decide) ?_
  refine A_iload_n hg dX11_putsBoard_8 rfl rfl ?_
  refine A_imulN hg dX11_putsBoard_9 ?_
  refine A_iaddN hg dX11_putsBoard_10 ?_
  refine A_iload_n hg dX11_putsBoard_11 rfl rfl ?_
  refine A_iaddN hg dX11_putsBoard_12 ?_
  refine A_iload_n hg dX11_putsBoard_13 rfl rfl ?_
  refine A_iast (j := ((133 + (5 * b)) + j)) (x := x) hg dX11_putsBoard_14 hc1 (by omega) (by omega) (by decide) (fun σ_1 hc_2 hf_3 => ?_)
  have hc_4 : σ_1 279 = o11 G F := (hf_3 _ (by omega)).trans hc0
  rw [hQ]
  exact A_return hg (by decide) (by decide) rfl dX11_putsBoard_15 ⟨rfl, ⟨rfl, hc_2, (fun i hi => (hf_3 i (by omega)))⟩⟩
set_option maxRecDepth 100000 in
set_option maxHeartbeats 4000000 in
theorem c_X11_putsStick (G : GL) (ex : Bool) (n : Nat) (σ : Nat → va_E) (F : Nat → Int32) (g : Nat → Nat) (b : Nat) (j : Nat) (x : Nat) (hc0 : σ 279 = o11 G F) (hc1 : σ 280 = q_an G 265 g) (hn : 294 ≤ n) (hs : 153 + 3 * b + j < 265) : Ct G yX11_putsStick cX11_putsStick 4 none ⟨0, 0, 0, 0⟩ [.ref (q_h G + 279), .int (nI (b)), .int (nI (j)), .int (nI (x))] ex n σ (fun v9 σ2 => v9 = none ∧ σ2 280 = q_an G 265 (va_up g (153 + 3 * b + j) x) ∧ (∀ i : Nat, i ≠ 280 → σ2 i = σ i)) := by
  refine q_enter [some (.ref (q_h G + 279)), some (.int (nI (b))), some (.int (nI (j))), some (.int (nI (x)))] (by decide) (Nat.le_of_ble_eq_true rfl) rfl ?_
  intro K hg
  obtain ⟨Q, hQ⟩ : ∃ Q, Q = q_Q G K ex n 0 0 (fun v9 n' σ' => n' = n ∧ (fun v9 σ2 => v9 = none ∧ σ2 280 = q_an G 265 (va_up g (153 + 3 * b + j) x) ∧ (∀ i : Nat, i ≠ 280 → σ2 i = σ i)) v9 σ') q_noX := ⟨_, rfl⟩
  refine (?_ : AJ G K (q_Q G K ex n 0 0 _ _) 0 0 ex n 0 _ _ σ)
  rw [← hQ]
  refine A_aload_n hg dX11_putsStick_0 rfl rfl ?_
  refine A_getf (v := .ref (q_h G + 280)) hg fl_RX11_7 dX11_putsStick_1 hc0 (by omega) rfl ?_
  refine A_sipush (v := (nI (153))) hg dX11_putsStick_4 (by decide) ?_
  refine A_iconst (v := (nI (3))) hg dX11_putsStick_7 (by decide) ?_
  refine A_iload_n hg dX11_putsStick_8 rfl rfl ?_
  refine A_imulN hg dX11_putsStick_9 ?_
  refine A_iaddN hg dX11_putsStick_10 ?_
  refine A_iload_n hg dX11_putsStick_11 rfl rfl ?_
  refine A_iaddN hg dX11_putsStick_12 ?_
  refine A_iload_n hg dX11_putsStick_13 rfl rfl ?_
  refine A_iast (j := ((153 + (3 * b)) + j)) (x := x) hg dX11_putsStick_14 hc1 (by omega) (by omega) (by decide) (fun σ_1 hc_2 hf_3 => ?_)
  have hc_4 : σ_1 279 = o11 G F := (hf_3 _ (by omega)).trans hc0
  rw [hQ]
  exact A_return hg (by decide) (by decide) rfl dX11_putsStick_15 ⟨rfl, ⟨rfl, hc_2, (fun i hi => (hf_3 i (by omega)))⟩⟩
set_option maxRecDepth 100000 in
set_option maxHeartbeats 4000000 in
theorem c_X11_parts (G : GL) (ex : Bool) (n : Nat) (σ : Nat → va_E) (F : Nat → Int32) (g : Nat → Nat) (hc0 : σ 279 = o11 G F) (hc1 : σ 280 = q_an G 265 g) (hn : 294 ≤ n) : Ct G yX11_parts cX11_parts 1 (some .int) ⟨0, 0, 0, 0⟩ [.ref (q_h G + 279)] ex n σ (fun v9 σ2 => σ2 = σ ∧ v9 = some (.int (nI (s_np g)))) := by
  refine q_enter [some (.ref (q_h G + 279))] (by decide) (Nat.le_of_ble_eq_true rfl) rfl ?_
  intro K hg
  obtain ⟨Q, hQ⟩ : ∃ Q, Q = q_Q G K ex n 0 0 (fun v9 n' σ' => n' = n ∧ (fun v9 σ2 => σ2 = σ ∧ v9 = some (.int (nI (s_np g)))) v9 σ') q_noX := ⟨_, rfl⟩
  refine (?_ : AJ G K (q_Q G K ex n 0 0 _ _) 0 0 ex n 0 _ _ σ)
  rw [← hQ]
  refine A_aload_n hg dX11_parts_0 rfl rfl ?_
  refine A_getf (v := .ref (q_h G + 280)) hg fl_RX11_7 dX11_parts_1 hc0 (by omega) rfl ?_
  refine A_iconst (v := (nI (1))) hg dX11_parts_4 (by decide) ?_
  refine A_iald (j := 1) hg dX11_parts_5 hc1 (by omega) (by omega) (by decide) ?_
  refine A_aload_n hg dX11_parts_6 rfl rfl ?_
  refine A_getf (v := .ref (q_h G + 280)) hg fl_RX11_7 dX11_parts_7 hc0 (by omega) rfl ?_
  refine A_iconst (v := (nI (2))) hg dX11_parts_10 (by decide) ?_
  refine A_iald (j := 2) hg dX11_parts_11 hc1 (by omega) (by omega) (by decide) ?_
  refine A_iaddN hg dX11_parts_12 ?_
  rw [hQ]
  exact A_ireturn hg (by decide) (by decide) rfl dX11_parts_13 ⟨rfl, ⟨rfl, rfl⟩⟩
set_option maxRecDepth 100000 in
set_option maxHeartbeats 4000000 in
theorem c_X11_isBoard (G : GL) (ex : Bool) (n : Nat) (σ : Nat → va_E) (F : Nat → Int32) (g : Nat → Nat) (p : Nat) (hc0 : σ 279 = o11 G F) (hc1 : σ 280 = q_an G 265 g) (hn : 294 ≤ n) (hp : p < 2 ^ 31) (h1 : g 1 ≤ 4) : Ct G yX11_isBoard cX11_isBoard 2 (some .boolean) ⟨0, 0, 0, 0⟩ [.ref (q_h G + 279), .int (nI (p))] ex n σ (fun v9 σ2 => σ2 = σ ∧ v9 = some (.int (q_b (s_isB g p)))) := by
  refine q_enter [some (.ref (q_h G + 279)), some (.int (nI (p)))] (by decide) (Nat.le_of_ble_eq_true rfl) rfl ?_
  intro K hg
  obtain ⟨Q, hQ⟩ : ∃ Q, Q = q_Q G K ex n 0 0 (fun v9 n' σ' => n' = n ∧ (fun v9 σ2 => σ2 = σ ∧ v9 = some (.int (q_b (s_isB g p)))) v9 σ') q_noX := ⟨_, rfl⟩
  refine (?_ : AJ G K (q_Q G K ex n 0 0 _ _) 0 0 ex n 0 _ _ σ)
  rw [← hQ]
  refine A_iload_n hg dX11_isBoard_0 rfl rfl ?_
  refine A_aload_n hg dX11_isBoard_1 rfl rfl ?_
  refine A_getf (v := .ref (q_h G + 280)) hg fl_RX11_7 dX11_isBoard_2 hc0 (by omega) rfl ?_
  refine A_iconst (v := (nI (1))) hg dX11_isBoard_5 (by decide) ?_
  refine A_iald (j := 1) hg dX11_isBoard_6 hc1 (by omega) (by omega) (by decide) ?_
  refine A_icmp_geN (tgt := 14) hg dX11_isBoard_7 (by omega) (by omega) (by decide) (fun c7 => ?_) (fun c7 => ?_)
  · skip
    refine A_iconst (v := (nI (0))) hg dX11_isBoard_14 (by decide) ?_
    rw [hQ]
    exact A_zreturn hg (by decide) (by decide) rfl rfl dX11_isBoard_15 ⟨rfl, ⟨rfl, (q_rf (decide_eq_false (by omega)))⟩⟩
  · skip
    refine A_iconst (v := (nI (1))) hg dX11_isBoard_10 (by decide) ?_
    refine A_goto (tgt := 15) hg dX11_isBoard_11 (by decide) ?_
    rw [hQ]
    exact A_zreturn hg (by decide) (by decide) rfl rfl dX11_isBoard_15 ⟨rfl, ⟨rfl, (q_rt (decide_eq_true (by omega)))⟩⟩
set_option maxRecDepth 100000 in
set_option maxHeartbeats 4000000 in
theorem c_X11_stickOf (G : GL) (ex : Bool) (n : Nat) (σ : Nat → va_E) (F : Nat → Int32) (g : Nat → Nat) (p : Nat) (hc0 : σ 279 = o11 G F) (hc1 : σ 280 = q_an G 265 g) (hn : 294 ≤ n) (hp : g 1 ≤ p) : Ct G yX11_stickOf cX11_stickOf 2 (some .int) ⟨0, 0, 0, 0⟩ [.ref (q_h G + 279), .int (nI (p))] ex n σ (fun v9 σ2 => σ2 = σ ∧ v9 = some (.int (nI (p - g 1)))) := by
  refine q_enter [some (.ref (q_h G + 279)), some (.int (nI (p)))] (by decide) (Nat.le_of_ble_eq_true rfl) rfl ?_
  intro K hg
  obtain ⟨Q, hQ⟩ : ∃ Q, Q = q_Q G K ex n 0 0 (fun v9 n' σ' => n' = n ∧ (fun v9 σ2 => σ2 = σ ∧ v9 = some (.int (nI (p - g 1)))) v9 σ') q_noX := ⟨_, rfl⟩
  refine (?_ : AJ G K (q_Q G K ex n 0 0 _ _) 0 0 ex n 0 _ _ σ)
  rw [← hQ]
  refine A_iload_n hg dX11_stickOf_0 rfl rfl ?_
  refine A_aload_n hg dX11_stickOf_1 rfl rfl ?_
  refine A_getf (v := .ref (q_h G + 280)) hg fl_RX11_7 dX11_stickOf_2 hc0 (by omega) rfl ?_
  refine A_iconst (v := (nI (1))) hg dX11_stickOf_5 (by decide) ?_
  refine A_iald (j := 1) hg dX11_stickOf_6 hc1 (by omega) (by omega) (by decide) ?_
  refine A_isubN hg dX11_stickOf_7 (by omega) ?_
  rw [hQ]
  exact A_ireturn hg (by decide) (by decide) rfl dX11_stickOf_8 ⟨rfl, ⟨rfl, rfl⟩⟩
set_option maxRecDepth 100000 in
set_option maxHeartbeats 4000000 in
theorem c_X11_valueAt (G : GL) (ex : Bool) (n : Nat) (σ : Nat → va_E) (F : Nat → Int32) (va : Nat → Nat) (r : Nat) (x : Nat) (y : Nat) (hc0 : σ 279 = o11 G F) (hc1 : σ 289 = q_an G 6724 va) (hn : 294 ≤ n) (hr : r < 4) (hx : x ≤ 40) (hy : y ≤ 40) : Ct G yX11_valueAt cX11_valueAt 4 (some .int) ⟨0, 0, 0, 0⟩ [.ref (q_h G + 279), .int (nI (r)), .int (nI (x)), .int (nI (y))] ex n σ (fun v9 σ2 => σ2 = σ ∧ v9 = some (.int (nI (va (1681 * r + 41 * x + y))))) := by
  refine q_enter [some (.ref (q_h G + 279)), some (.int (nI (r))), some (.int (nI (x))), some (.int (nI (y)))] (by decide) (Nat.le_of_ble_eq_true rfl) rfl ?_
  intro K hg
  obtain ⟨Q, hQ⟩ : ∃ Q, Q = q_Q G K ex n 0 0 (fun v9 n' σ' => n' = n ∧ (fun v9 σ2 => σ2 = σ ∧ v9 = some (.int (nI (va (1681 * r + 41 * x + y))))) v9 σ') q_noX := ⟨_, rfl⟩
  refine (?_ : AJ G K (q_Q G K ex n 0 0 _ _) 0 0 ex n 0 _ _ σ)
  rw [← hQ]
  refine A_aload_n hg dX11_valueAt_0 rfl rfl ?_
  refine A_getf (v := .ref (q_h G + 289)) hg fl_RX11_38 dX11_valueAt_1 hc0 (by omega) rfl ?_
  refine A_sipush (v := (nI (1681))) hg dX11_valueAt_4 (by decide) ?_
  refine A_iload_n hg dX11_valueAt_7 rfl rfl ?_
  refine A_imulN hg dX11_valueAt_8 ?_
  refine A_bipush (v := (nI (41))) hg dX11_valueAt_9 (by decide) ?_
  refine A_iload_n hg dX11_valueAt_11 rfl rfl ?_
  refine A_imulN hg dX11_valueAt_12 ?_
  refine A_iaddN hg dX11_valueAt_13 ?_
  refine A_iload_n hg dX11_valueAt_14 rfl rfl ?_
  refine A_iaddN hg dX11_valueAt_15 ?_
  refine A_iald (j := (((1681 * r) + (41 * x)) + y)) hg dX11_valueAt_16 hc1 (by omega) (by omega) (by decide) ?_
  rw [hQ]
  exact A_ireturn hg (by decide) (by decide) rfl dX11_valueAt_17 ⟨rfl, ⟨rfl, rfl⟩⟩
set_option maxRecDepth 100000 in
set_option maxHeartbeats 4000000 in
theorem c_X11_valueLess (G : GL) (ex : Bool) (n : Nat) (σ : Nat → va_E) (F : Nat → Int32) (g : Nat → Nat) (va : Nat → Nat) (p : Nat) (k : Nat) (l : Nat) (hc0 : σ 279 = o11 G F) (hc1 : σ 280 = q_an G 265 g) (hc2 : σ 289 = q_an G 6724 va) (hn : 294 ≤ n) (hg9 : s_gwf g) (hp : p < s_np g) (hCV : ∀ r : Nat, r < g 0 → ∀ q : Nat, q < 1681 → va (1681 * r + q) = s_V (s_rule g r) q) (hk : k ≤ s_x g p) (hl : l ≤ s_y g p) : Ct G yX11_valueLess cX11_valueLess 5 (some .int) ⟨1, 0, 0, 23⟩ [.ref (q_h G + 279), .int (nI (p)), .int (nI (k)), .int (nI (l))] ex n σ (fun v9 σ2 => σ2 = σ ∧ v9 = some (.int (nI (s_pv g p k l)))) := by
  refine q_enter [some (.ref (q_h G + 279)), some (.int (nI (p))), some (.int (nI (k))), some (.int (nI (l))), none] (by decide) (Nat.le_of_ble_eq_true rfl) rfl ?_
  intro K hg
  obtain ⟨Q, hQ⟩ : ∃ Q, Q = q_Q G K ex n 0 0 (fun v9 n' σ' => n' = n ∧ (fun v9 σ2 => σ2 = σ ∧ v9 = some (.int (nI (s_pv g p k l)))) v9 σ') q_noX := ⟨_, rfl⟩
  refine (?_ : AJ G K (q_Q G K ex n 0 0 _ _) 0 0 ex n 0 _ _ σ)
  rw [← hQ]
  have hnp := s_np_le hg9
  have hg1 : g 1 ≤ 4 := hg9.2.1
  have hg2 : g 2 ≤ 4 := hg9.2.2.1
  have hsp : s_np g = g 1 + g 2 := rfl
  have hbd := hg9.2.2.2.2.2.2.1 p
  have hsk := hg9.2.2.2.2.2.2.2 (p - g 1)
  refine A_aload_n hg dX11_valueLess_0 rfl rfl ?_
  refine A_iload_n hg dX11_valueLess_1 rfl rfl ?_
  refine A_eV (kc2 := 0) (ks2 := 0) (As := [.int (nI (p))]) (rest := []) hg lk_RX11_182 in_X11_isBoard se_X11_isBoard rfl dX11_valueLess_2 ⟨by decide, by decide⟩ rfl rfl ⟨by decide, by decide⟩ hc0 (by omega) rfl rfl (Nat.le_of_ble_eq_true rfl) (c_X11_isBoard G ex n σ F g p hc0 hc1 (by omega) (by omega) (by omega)) ?_
  refine A_if_eqB (tgt := 35) hg dX11_valueLess_5 (by decide) (fun c5 => ?_) (fun c5 => ?_)
  · skip
    have hib : ¬ p < g 1 := of_decide_eq_false c5
    have hsk1 := hsk (by omega)
    have hkx : k ≤ g (153 + 3 * (p - g 1) + 0) := by unfold s_x at hk; rw [if_neg hib] at hk; exact hk
    refine A_aload_n hg dX11_valueLess_35 rfl rfl ?_
    refine A_iload_n hg dX11_valueLess_36 rfl rfl ?_
    refine A_eV (kc2 := 0) (ks2 := 0) (As := [.int (nI (p))]) (rest := []) hg lk_RX11_191 in_X11_stickOf se_X11_stickOf rfl dX11_valueLess_37 ⟨by decide, by decide⟩ rfl rfl ⟨by decide, by decide⟩ hc0 (by omega) rfl rfl (Nat.le_of_ble_eq_true rfl) (c_X11_stickOf G ex n σ F g p hc0 hc1 (by omega) (by omega)) ?_
    refine A_istore hg dX11_valueLess_40 (by decide) (q_c1d rfl) ?_
    refine A_eq (ls2 := [some (.ref (q_h G + 279)), some (.int (nI (p))), some (.int (nI (k))), some (.int (nI (l))), some (.int (nI (p - g 1)))]) (st2 := []) (pc2 := 0) rfl rfl ?_
    refine A_aload_n hg dX11_valueLess_42 rfl rfl ?_
    refine A_iload hg dX11_valueLess_43 rfl ?_
    refine A_iconst (v := (nI (0))) hg dX11_valueLess_45 (by decide) ?_
    refine A_eV (kc2 := 0) (ks2 := 0) (As := [.int (nI (p - g 1)), .int (nI (0))]) (rest := []) hg lk_RX11_194 in_X11_ofStick se_X11_ofStick rfl dX11_valueLess_46 ⟨by decide, by decide⟩ rfl rfl ⟨by decide, by decide⟩ hc0 (by omega) rfl rfl (Nat.le_of_ble_eq_true rfl) (c_X11_ofStick G ex n σ F g (p - g 1) 0 hc0 hc1 (by omega) (by omega)) ?_
    refine A_iload_n hg dX11_valueLess_49 rfl rfl ?_
    refine A_isubN hg dX11_valueLess_50 (by omega) ?_
    refine A_aload_n hg dX11_valueLess_51 rfl rfl ?_
    refine A_iload hg dX11_valueLess_52 rfl ?_
    refine A_iconst (v := (nI (1))) hg dX11_valueLess_54 (by decide) ?_
    refine A_eV (kc2 := 0) (ks2 := 0) (As := [.int (nI (p - g 1)), .int (nI (1))]) (rest := [.int (nI ((g (153 + 3 * (p - g 1) + 0)) - k))]) hg lk_RX11_194 in_X11_ofStick se_X11_ofStick rfl dX11_valueLess_55 ⟨by decide, by decide⟩ rfl rfl ⟨by decide, by decide⟩ hc0 (by omega) rfl rfl (Nat.le_of_ble_eq_true rfl) (c_X11_ofStick G ex n σ F g (p - g 1) 1 hc0 hc1 (by omega) (by omega)) ?_
    refine A_iconst (v := (nI (1))) hg dX11_valueLess_58 (by decide) ?_
    refine A_iaddN hg dX11_valueLess_59 ?_
    refine A_iremN hg dX11_valueLess_60 (by omega) (by omega) (by omega) ?_
    rw [hQ]
    exact A_ireturn hg (by decide) (by decide) rfl dX11_valueLess_61 ⟨rfl, ⟨rfl, (by unfold s_pv; rw [if_neg hib])⟩⟩
  · skip
    have hib : p < g 1 := of_decide_eq_true c5
    have hbd1 := hbd hib
    have hr4 := hg9.1
    have hkx : k ≤ g (133 + 5 * p + 1) := by unfold s_x at hk; rw [if_pos hib] at hk; exact hk
    have hly : l ≤ g (133 + 5 * p + 2) := by unfold s_y at hl; rw [if_pos hib] at hl; exact hl
    refine A_aload_n hg dX11_valueLess_8 rfl rfl ?_
    refine A_aload_n hg dX11_valueLess_9 rfl rfl ?_
    refine A_iload_n hg dX11_valueLess_10 rfl rfl ?_
    refine A_iconst (v := (nI (0))) hg dX11_valueLess_11 (by decide) ?_
    refine A_eV (kc2 := 0) (ks2 := 0) (As := [.int (nI (p)), .int (nI (0))]) (rest := [.ref (q_h G + 279)]) hg lk_RX11_185 in_X11_ofBoard se_X11_ofBoard rfl dX11_valueLess_12 ⟨by decide, by decide⟩ rfl rfl ⟨by decide, by decide⟩ hc0 (by omega) rfl rfl (Nat.le_of_ble_eq_true rfl) (c_X11_ofBoard G ex n σ F g p 0 hc0 hc1 (by omega) (by omega)) ?_
    refine A_aload_n hg dX11_valueLess_15 rfl rfl ?_
    refine A_iload_n hg dX11_valueLess_16 rfl rfl ?_
    refine A_iconst (v := (nI (1))) hg dX11_valueLess_17 (by decide) ?_
    refine A_eV (kc2 := 0) (ks2 := 0) (As := [.int (nI (p)), .int (nI (1))]) (rest := [.int (nI (g (133 + 5 * p + 0))), .ref (q_h G + 279)]) hg lk_RX11_185 in_X11_ofBoard se_X11_ofBoard rfl dX11_valueLess_18 ⟨by decide, by decide⟩ rfl rfl ⟨by decide, by decide⟩ hc0 (by omega) rfl rfl (Nat.le_of_ble_eq_true rfl) (c_X11_ofBoard G ex n σ F g p 1 hc0 hc1 (by omega) (by omega)) ?_
    refine A_iload_n hg dX11_valueLess_21 rfl rfl ?_
    refine A_isubN hg dX11_valueLess_22 (by omega) ?_
    refine A_aload_n hg dX11_valueLess_23 rfl rfl ?_
    refine A_iload_n hg dX11_valueLess_24 rfl rfl ?_
    refine A_iconst (v := (nI (2))) hg dX11_valueLess_25 (by decide) ?_
    refine A_eV (kc2 := 0) (ks2 := 0) (As := [.int (nI (p)), .int (nI (2))]) (rest := [.int (nI ((g (133 + 5 * p + 1)) - k)), .int (nI (g (133 + 5 * p + 0))), .ref (q_h G + 279)]) hg lk_RX11_185 in_X11_ofBoard se_X11_ofBoard rfl dX11_valueLess_26 ⟨by decide, by decide⟩ rfl rfl ⟨by decide, by decide⟩ hc0 (by omega) rfl rfl (Nat.le_of_ble_eq_true rfl) (c_X11_ofBoard G ex n σ F g p 2 hc0 hc1 (by omega) (by omega)) ?_
    refine A_iload_n hg dX11_valueLess_29 rfl rfl ?_
    refine A_isubN hg dX11_valueLess_30 (by omega) ?_
    refine A_eV (kc2 := 0) (ks2 := 0) (As := [.int (nI (g (133 + 5 * p + 0))), .int (nI ((g (133 + 5 * p + 1)) - k)), .int (nI ((g (133 + 5 * p + 2)) - l))]) (rest := []) hg lk_RX11_188 in_X11_valueAt se_X11_valueAt rfl dX11_valueLess_31 ⟨by decide, by decide⟩ rfl rfl ⟨by decide, by decide⟩ hc0 (by omega) rfl rfl (Nat.le_of_ble_eq_true rfl) (c_X11_valueAt G ex n σ F va (g (133 + 5 * p + 0)) ((g (133 + 5 * p + 1)) - k) ((g (133 + 5 * p + 2)) - l) hc0 hc2 (by omega) (by omega) (by omega) (by omega)) ?_
    rw [hQ]
    exact A_ireturn hg (by decide) (by decide) rfl dX11_valueLess_34 ⟨rfl, ⟨rfl, (by unfold s_pv; rw [if_pos hib, ← hCV _ hbd1.1 _ (by omega), Nat.add_assoc])⟩⟩
set_option maxRecDepth 100000 in
set_option maxHeartbeats 4000000 in
theorem c_X11_total (G : GL) (ex : Bool) (n : Nat) (σ : Nat → va_E) (F : Nat → Int32) (g : Nat → Nat) (va : Nat → Nat) (hc0 : σ 279 = o11 G F) (hc1 : σ 280 = q_an G 265 g) (hc2 : σ 289 = q_an G 6724 va) (hn : 294 ≤ n) (hg9 : s_gwf g) (hCV : ∀ r : Nat, r < g 0 → ∀ q : Nat, q < 1681 → va (1681 * r + q) = s_V (s_rule g r) q) : Ct G yX11_total cX11_total 3 (some .int) ⟨2, 0, 0, 47⟩ [.ref (q_h G + 279)] ex n σ (fun v9 σ2 => σ2 = σ ∧ v9 = some (.int (nI (s_tot g)))) := by
  refine q_enter [some (.ref (q_h G + 279)), none, none] (by decide) (Nat.le_of_ble_eq_true rfl) rfl ?_
  intro K hg
  obtain ⟨Q, hQ⟩ : ∃ Q, Q = q_Q G K ex n 0 0 (fun v9 n' σ' => n' = n ∧ (fun v9 σ2 => σ2 = σ ∧ v9 = some (.int (nI (s_tot g)))) v9 σ') q_noX := ⟨_, rfl⟩
  refine (?_ : AJ G K (q_Q G K ex n 0 0 _ _) 0 0 ex n 0 _ _ σ)
  rw [← hQ]
  have hnp := s_np_le hg9
  refine A_iconst (v := (nI (0))) hg dX11_total_0 (by decide) ?_
  refine A_istore_n hg dX11_total_1 rfl (by decide) (q_c1d rfl) ?_
  refine A_eq (ls2 := [some (.ref (q_h G + 279)), some (.int (nI (0))), none]) (st2 := []) (pc2 := 0) rfl rfl ?_
  refine A_iconst (v := (nI (0))) hg dX11_total_2 (by decide) ?_
  refine A_istore_n hg dX11_total_3 rfl (by decide) (q_c1d rfl) ?_
  refine A_eq (ls2 := [some (.ref (q_h G + 279)), some (.int (nI (0))), some (.int (nI (0)))]) (st2 := []) (pc2 := 0) rfl rfl ?_
  have hL4 : ∀ (fu : Nat) (p : Nat) (t : Nat), (p ≤ s_np g) → (t = s_xs g p) → (s_np g - p) < fu → AJ G K Q 0 0 ex n 4 [some (.ref (q_h G + 279)), some (.int (nI (t))), some (.int (nI (p)))] [] σ := by
    intro fu
    induction fu with
    | zero => intro p t hp ht hm; exact absurd hm (Nat.not_lt_zero _)
    | succ fu ih4 =>
      intro p t hp ht hm4
      refine A_iload_n hg dX11_total_4 rfl rfl ?_
      refine A_aload_n hg dX11_total_5 rfl rfl ?_
      refine A_eV (kc2 := 0) (ks2 := 0) (As := []) (rest := [.int (nI (p))]) hg lk_RX11_179 in_X11_parts se_X11_parts rfl dX11_total_6 ⟨by decide, by decide⟩ rfl rfl ⟨by decide, by decide⟩ hc0 (by omega) rfl rfl (Nat.le_of_ble_eq_true rfl) (c_X11_parts G ex n σ F g hc0 hc1 (by omega)) ?_
      refine A_icmp_geN (tgt := 28) hg dX11_total_9 (by omega) (by omega) (by decide) (fun c9 => ?_) (fun c9 => ?_)
      · skip
        refine A_iload_n hg dX11_total_28 rfl rfl ?_
        rw [hQ]
        exact A_ireturn hg (by decide) (by decide) rfl dX11_total_29 ⟨rfl, ⟨rfl, (by rw [ht, show p = s_np g by omega]; rfl)⟩⟩
      · skip
        refine A_iload_n hg dX11_total_12 rfl rfl ?_
        refine A_aload_n hg dX11_total_13 rfl rfl ?_
        refine A_iload_n hg dX11_total_14 rfl rfl ?_
        refine A_iconst (v := (nI (0))) hg dX11_total_15 (by decide) ?_
        refine A_iconst (v := (nI (0))) hg dX11_total_16 (by decide) ?_
        refine A_eV (kc2 := 0) (ks2 := 0) (As := [.int (nI (p)), .int (nI (0)), .int (nI (0))]) (rest := [.int (nI (t))]) hg lk_RX11_197 in_X11_valueLess se_X11_valueLess rfl dX11_total_17 ⟨by decide, by decide⟩ rfl rfl ⟨by decide, by decide⟩ hc0 (by omega) rfl rfl (Nat.le_of_ble_eq_true rfl) (c_X11_valueLess G ex n σ F g va p 0 0 hc0 hc1 hc2 (by omega) hg9 (by omega) hCV (by omega) (by omega)) ?_
        refine A_ixorN hg dX11_total_20 ?_
        refine A_istore_n hg dX11_total_21 rfl (by decide) (q_c1d rfl) ?_
        refine A_eq (ls2 := [some (.ref (q_h G + 279)), some (.int (nI (t ^^^ (s_pv g p 0 0)))), some (.int (nI (p)))]) (st2 := []) (pc2 := 0) rfl rfl ?_
        refine A_iincN (k' := 1) hg dX11_total_22 (by decide) rfl (by decide) (q_c1d rfl) ?_
        refine A_eq (ls2 := [some (.ref (q_h G + 279)), some (.int (nI (t ^^^ (s_pv g p 0 0)))), some (.int (nI (p + 1)))]) (st2 := []) (pc2 := 0) rfl rfl ?_
        refine A_goto (tgt := 4) hg dX11_total_25 (by decide) ?_
        exact ih4 (p + 1) (t ^^^ (s_pv g p 0 0)) (by omega) (by rw [ht]; rfl) (by omega)
  exact hL4 _ 0 0 (by omega) rfl (Nat.lt_succ_self _)
set_option maxRecDepth 100000 in
set_option maxHeartbeats 4000000 in
theorem c_X11_firstHeap (G : GL) (ex : Bool) (n : Nat) (σ : Nat → va_E) (F : Nat → Int32) (g : Nat → Nat) (p : Nat) (hc0 : σ 279 = o11 G F) (hc1 : σ 280 = q_an G 265 g) (hn : 294 ≤ n) (hg9 : s_gwf g) (hp : p < s_np g) : Ct G yX11_firstHeap cX11_firstHeap 2 (some .int) ⟨1, 0, 0, 22⟩ [.ref (q_h G + 279), .int (nI (p))] ex n σ (fun v9 σ2 => σ2 = σ ∧ v9 = some (.int (nI (s_x g p)))) := by
  refine q_enter [some (.ref (q_h G + 279)), some (.int (nI (p)))] (by decide) (Nat.le_of_ble_eq_true rfl) rfl ?_
  intro K hg
  obtain ⟨Q, hQ⟩ : ∃ Q, Q = q_Q G K ex n 0 0 (fun v9 n' σ' => n' = n ∧ (fun v9 σ2 => σ2 = σ ∧ v9 = some (.int (nI (s_x g p)))) v9 σ') q_noX := ⟨_, rfl⟩
  refine (?_ : AJ G K (q_Q G K ex n 0 0 _ _) 0 0 ex n 0 _ _ σ)
  rw [← hQ]
  have hnp := s_np_le hg9
  have hg1 : g 1 ≤ 4 := hg9.2.1
  have hg2 : g 2 ≤ 4 := hg9.2.2.1
  have hsp : s_np g = g 1 + g 2 := rfl
  have hbd := hg9.2.2.2.2.2.2.1 p
  have hsk := hg9.2.2.2.2.2.2.2 (p - g 1)
  refine A_aload_n hg dX11_firstHeap_0 rfl rfl ?_
  refine A_iload_n hg dX11_firstHeap_1 rfl rfl ?_
  refine A_eV (kc2 := 0) (ks2 := 0) (As := [.int (nI (p))]) (rest := []) hg lk_RX11_182 in_X11_isBoard se_X11_isBoard rfl dX11_firstHeap_2 ⟨by decide, by decide⟩ rfl rfl ⟨by decide, by decide⟩ hc0 (by omega) rfl rfl (Nat.le_of_ble_eq_true rfl) (c_X11_isBoard G ex n σ F g p hc0 hc1 (by omega) (by omega) (by omega)) ?_
  refine A_if_eqB (tgt := 17) hg dX11_firstHeap_5 (by decide) (fun c5 => ?_) (fun c5 => ?_)
  · skip
    have hib : ¬ p < g 1 := of_decide_eq_false c5
    refine A_aload_n hg dX11_firstHeap_17 rfl rfl ?_
    refine A_aload_n hg dX11_firstHeap_18 rfl rfl ?_
    refine A_iload_n hg dX11_firstHeap_19 rfl rfl ?_
    refine A_eV (kc2 := 0) (ks2 := 0) (As := [.int (nI (p))]) (rest := [.ref (q_h G + 279)]) hg lk_RX11_191 in_X11_stickOf se_X11_stickOf rfl dX11_firstHeap_20 ⟨by decide, by decide⟩ rfl rfl ⟨by decide, by decide⟩ hc0 (by omega) rfl rfl (Nat.le_of_ble_eq_true rfl) (c_X11_stickOf G ex n σ F g p hc0 hc1 (by omega) (by omega)) ?_
    refine A_iconst (v := (nI (0))) hg dX11_firstHeap_23 (by decide) ?_
    refine A_eV (kc2 := 0) (ks2 := 0) (As := [.int (nI (p - g 1)), .int (nI (0))]) (rest := []) hg lk_RX11_194 in_X11_ofStick se_X11_ofStick rfl dX11_firstHeap_24 ⟨by decide, by decide⟩ rfl rfl ⟨by decide, by decide⟩ hc0 (by omega) rfl rfl (Nat.le_of_ble_eq_true rfl) (c_X11_ofStick G ex n σ F g (p - g 1) 0 hc0 hc1 (by omega) (by omega)) ?_
    rw [hQ]
    exact A_ireturn hg (by decide) (by decide) rfl dX11_firstHeap_27 ⟨rfl, ⟨rfl, (by unfold s_x; rw [if_neg hib])⟩⟩
  · skip
    have hib : p < g 1 := of_decide_eq_true c5
    refine A_aload_n hg dX11_firstHeap_8 rfl rfl ?_
    refine A_iload_n hg dX11_firstHeap_9 rfl rfl ?_
    refine A_iconst (v := (nI (1))) hg dX11_firstHeap_10 (by decide) ?_
    refine A_eV (kc2 := 0) (ks2 := 0) (As := [.int (nI (p)), .int (nI (1))]) (rest := []) hg lk_RX11_185 in_X11_ofBoard se_X11_ofBoard rfl dX11_firstHeap_11 ⟨by decide, by decide⟩ rfl rfl ⟨by decide, by decide⟩ hc0 (by omega) rfl rfl (Nat.le_of_ble_eq_true rfl) (c_X11_ofBoard G ex n σ F g p 1 hc0 hc1 (by omega) (by omega)) ?_
    refine A_goto (tgt := 27) hg dX11_firstHeap_14 (by decide) ?_
    rw [hQ]
    exact A_ireturn hg (by decide) (by decide) rfl dX11_firstHeap_27 ⟨rfl, ⟨rfl, (by unfold s_x; rw [if_pos hib])⟩⟩
set_option maxRecDepth 100000 in
set_option maxHeartbeats 4000000 in
theorem c_X11_secondHeap (G : GL) (ex : Bool) (n : Nat) (σ : Nat → va_E) (F : Nat → Int32) (g : Nat → Nat) (p : Nat) (hc0 : σ 279 = o11 G F) (hc1 : σ 280 = q_an G 265 g) (hn : 294 ≤ n) (hg9 : s_gwf g) (hp : p < s_np g) : Ct G yX11_secondHeap cX11_secondHeap 2 (some .int) ⟨1, 0, 0, 22⟩ [.ref (q_h G + 279), .int (nI (p))] ex n σ (fun v9 σ2 => σ2 = σ ∧ v9 = some (.int (nI (s_y g p)))) := by
  refine q_enter [some (.ref (q_h G + 279)), some (.int (nI (p)))] (by decide) (Nat.le_of_ble_eq_true rfl) rfl ?_
  intro K hg
  obtain ⟨Q, hQ⟩ : ∃ Q, Q = q_Q G K ex n 0 0 (fun v9 n' σ' => n' = n ∧ (fun v9 σ2 => σ2 = σ ∧ v9 = some (.int (nI (s_y g p)))) v9 σ') q_noX := ⟨_, rfl⟩
  refine (?_ : AJ G K (q_Q G K ex n 0 0 _ _) 0 0 ex n 0 _ _ σ)
  rw [← hQ]
  have hnp := s_np_le hg9
  have hg1 : g 1 ≤ 4 := hg9.2.1
  have hg2 : g 2 ≤ 4 := hg9.2.2.1
  have hsp : s_np g = g 1 + g 2 := rfl
  have hbd := hg9.2.2.2.2.2.2.1 p
  have hsk := hg9.2.2.2.2.2.2.2 (p - g 1)
  refine A_aload_n hg dX11_secondHeap_0 rfl rfl ?_
  refine A_iload_n hg dX11_secondHeap_1 rfl rfl ?_
  refine A_eV (kc2 := 0) (ks2 := 0) (As := [.int (nI (p))]) (rest := []) hg lk_RX11_182 in_X11_isBoard se_X11_isBoard rfl dX11_secondHeap_2 ⟨by decide, by decide⟩ rfl rfl ⟨by decide, by decide⟩ hc0 (by omega) rfl rfl (Nat.le_of_ble_eq_true rfl) (c_X11_isBoard G ex n σ F g p hc0 hc1 (by omega) (by omega) (by omega)) ?_
  refine A_if_eqB (tgt := 17) hg dX11_secondHeap_5 (by decide) (fun c5 => ?_) (fun c5 => ?_)
  · skip
    have hib : ¬ p < g 1 := of_decide_eq_false c5
    refine A_iconst (v := (nI (0))) hg dX11_secondHeap_17 (by decide) ?_
    rw [hQ]
    exact A_ireturn hg (by decide) (by decide) rfl dX11_secondHeap_18 ⟨rfl, ⟨rfl, (by unfold s_y; rw [if_neg hib])⟩⟩
  · skip
    have hib : p < g 1 := of_decide_eq_true c5
    refine A_aload_n hg dX11_secondHeap_8 rfl rfl ?_
    refine A_iload_n hg dX11_secondHeap_9 rfl rfl ?_
    refine A_iconst (v := (nI (2))) hg dX11_secondHeap_10 (by decide) ?_
    refine A_eV (kc2 := 0) (ks2 := 0) (As := [.int (nI (p)), .int (nI (2))]) (rest := []) hg lk_RX11_185 in_X11_ofBoard se_X11_ofBoard rfl dX11_secondHeap_11 ⟨by decide, by decide⟩ rfl rfl ⟨by decide, by decide⟩ hc0 (by omega) rfl rfl (Nat.le_of_ble_eq_true rfl) (c_X11_ofBoard G ex n σ F g p 2 hc0 hc1 (by omega) (by omega)) ?_
    refine A_goto (tgt := 18) hg dX11_secondHeap_14 (by decide) ?_
    rw [hQ]
    exact A_ireturn hg (by decide) (by decide) rfl dX11_secondHeap_18 ⟨rfl, ⟨rfl, (by unfold s_y; rw [if_pos hib])⟩⟩
set_option maxRecDepth 100000 in
set_option maxHeartbeats 4000000 in
theorem c_X11_refusal (G : GL) (ex : Bool) (n : Nat) (σ : Nat → va_E) (F : Nat → Int32) (g : Nat → Nat) (p : Nat) (k : Nat) (l : Nat) (hc0 : σ 279 = o11 G F) (hc1 : σ 280 = q_an G 265 g) (hn : 294 ≤ n) (hg9 : s_gwf g) (hp : p < s_np g) (hk : k < 2 ^ 31) (hl : l < 2 ^ 31) : Ct G yX11_refusal cX11_refusal 4 (some .int) ⟨3, 0, 0, 70⟩ [.ref (q_h G + 279), .int (nI (p)), .int (nI (k)), .int (nI (l))] ex n σ (fun v9 σ2 => σ2 = σ ∧ v9 = some (.int (nI (s_ref g p k l)))) := by
  refine q_enter [some (.ref (q_h G + 279)), some (.int (nI (p))), some (.int (nI (k))), some (.int (nI (l)))] (by decide) (Nat.le_of_ble_eq_true rfl) rfl ?_
  intro K hg
  obtain ⟨Q, hQ⟩ : ∃ Q, Q = q_Q G K ex n 0 0 (fun v9 n' σ' => n' = n ∧ (fun v9 σ2 => σ2 = σ ∧ v9 = some (.int (nI (s_ref g p k l)))) v9 σ') q_noX := ⟨_, rfl⟩
  refine (?_ : AJ G K (q_Q G K ex n 0 0 _ _) 0 0 ex n 0 _ _ σ)
  rw [← hQ]
  have hnp := s_np_le hg9
  have hg1 : g 1 ≤ 4 := hg9.2.1
  have hg2 : g 2 ≤ 4 := hg9.2.2.1
  have hsp : s_np g = g 1 + g 2 := rfl
  have hbd := hg9.2.2.2.2.2.2.1 p
  have hsk := hg9.2.2.2.2.2.2.2 (p - g 1)
  have hpt := s_part hg9 hp
  refine A_iload_n hg dX11_refusal_0 rfl rfl ?_
  refine A_if_ltN (tgt := 16) hg dX11_refusal_1 (by omega) (by decide) ?_
  refine A_iload_n hg dX11_refusal_4 rfl rfl ?_
  refine A_if_ltN (tgt := 16) hg dX11_refusal_5 (by omega) (by decide) ?_
  refine A_iload_n hg dX11_refusal_8 rfl rfl ?_
  refine A_if_neN (tgt := 18) hg dX11_refusal_9 (by omega) (by decide) (fun c9 => ?_) (fun c9 => ?_)
  · skip
    refine A_iload_n hg dX11_refusal_18 rfl rfl ?_
    refine A_aload_n hg dX11_refusal_19 rfl rfl ?_
    refine A_iload_n hg dX11_refusal_20 rfl rfl ?_
    refine A_eV (kc2 := 0) (ks2 := 0) (As := [.int (nI (p))]) (rest := [.int (nI (k))]) hg lk_RX11_200 in_X11_firstHeap se_X11_firstHeap rfl dX11_refusal_21 ⟨by decide, by decide⟩ rfl rfl ⟨by decide, by decide⟩ hc0 (by omega) rfl rfl (Nat.le_of_ble_eq_true rfl) (c_X11_firstHeap G ex n σ F g p hc0 hc1 (by omega) hg9 (by omega)) ?_
    refine A_icmp_gtN (tgt := 36) hg dX11_refusal_24 (by omega) (by omega) (by decide) (fun c24 => ?_) (fun c24 => ?_)
    · skip
      refine A_iconst (v := (nI (2))) hg dX11_refusal_36 (by decide) ?_
      rw [hQ]
      exact A_ireturn hg (by decide) (by decide) rfl dX11_refusal_37 ⟨rfl, ⟨rfl, (by unfold s_ref; rw [if_neg (by omega), if_pos (by omega)])⟩⟩
    · skip
      refine A_iload_n hg dX11_refusal_27 rfl rfl ?_
      refine A_aload_n hg dX11_refusal_28 rfl rfl ?_
      refine A_iload_n hg dX11_refusal_29 rfl rfl ?_
      refine A_eV (kc2 := 0) (ks2 := 0) (As := [.int (nI (p))]) (rest := [.int (nI (l))]) hg lk_RX11_203 in_X11_secondHeap se_X11_secondHeap rfl dX11_refusal_30 ⟨by decide, by decide⟩ rfl rfl ⟨by decide, by decide⟩ hc0 (by omega) rfl rfl (Nat.le_of_ble_eq_true rfl) (c_X11_secondHeap G ex n σ F g p hc0 hc1 (by omega) hg9 (by omega)) ?_
      refine A_icmp_leN (tgt := 38) hg dX11_refusal_33 (by omega) (by omega) (by decide) (fun c33 => ?_) (fun c33 => ?_)
      · skip
        refine A_aload_n hg dX11_refusal_38 rfl rfl ?_
        refine A_iload_n hg dX11_refusal_39 rfl rfl ?_
        refine A_eV (kc2 := 0) (ks2 := 0) (As := [.int (nI (p))]) (rest := []) hg lk_RX11_182 in_X11_isBoard se_X11_isBoard rfl dX11_refusal_40 ⟨by decide, by decide⟩ rfl rfl ⟨by decide, by decide⟩ hc0 (by omega) rfl rfl (Nat.le_of_ble_eq_true rfl) (c_X11_isBoard G ex n σ F g p hc0 hc1 (by omega) (by omega) (by omega)) ?_
        refine A_if_eqB (tgt := 59) hg dX11_refusal_43 (by decide) (fun c43 => ?_) (fun c43 => ?_)
        · skip
          have hib : ¬ p < g 1 := of_decide_eq_false c43
          have hsk1 := hsk (by omega)
          refine A_iload_n hg dX11_refusal_59 rfl rfl ?_
          refine A_aload_n hg dX11_refusal_60 rfl rfl ?_
          refine A_aload_n hg dX11_refusal_61 rfl rfl ?_
          refine A_iload_n hg dX11_refusal_62 rfl rfl ?_
          refine A_eV (kc2 := 0) (ks2 := 0) (As := [.int (nI (p))]) (rest := [.ref (q_h G + 279), .int (nI (k))]) hg lk_RX11_191 in_X11_stickOf se_X11_stickOf rfl dX11_refusal_63 ⟨by decide, by decide⟩ rfl rfl ⟨by decide, by decide⟩ hc0 (by omega) rfl rfl (Nat.le_of_ble_eq_true rfl) (c_X11_stickOf G ex n σ F g p hc0 hc1 (by omega) (by omega)) ?_
          refine A_iconst (v := (nI (1))) hg dX11_refusal_66 (by decide) ?_
          refine A_eV (kc2 := 0) (ks2 := 0) (As := [.int (nI (p - g 1)), .int (nI (1))]) (rest := [.int (nI (k))]) hg lk_RX11_194 in_X11_ofStick se_X11_ofStick rfl dX11_refusal_67 ⟨by decide, by decide⟩ rfl rfl ⟨by decide, by decide⟩ hc0 (by omega) rfl rfl (Nat.le_of_ble_eq_true rfl) (c_X11_ofStick G ex n σ F g (p - g 1) 1 hc0 hc1 (by omega) (by omega)) ?_
          refine A_icmp_leN (tgt := 77) hg dX11_refusal_70 (by omega) (by omega) (by decide) (fun c70 => ?_) (fun c70 => ?_)
          · skip
            refine A_iconst (v := (nI (0))) hg dX11_refusal_77 (by decide) ?_
            rw [hQ]
            exact A_ireturn hg (by decide) (by decide) rfl dX11_refusal_78 ⟨rfl, ⟨rfl, (by unfold s_ref; rw [if_neg (by omega), if_neg (by omega), if_neg hib, if_neg (by omega)])⟩⟩
          · skip
            refine A_iconst (v := (nI (3))) hg dX11_refusal_73 (by decide) ?_
            refine A_goto (tgt := 78) hg dX11_refusal_74 (by decide) ?_
            rw [hQ]
            exact A_ireturn hg (by decide) (by decide) rfl dX11_refusal_78 ⟨rfl, ⟨rfl, (by unfold s_ref; rw [if_neg (by omega), if_neg (by omega), if_neg hib, if_pos (by omega)])⟩⟩
        · skip
          have hib : p < g 1 := of_decide_eq_true c43
          have hbd1 := hbd hib
          have hr4 := hg9.1
          refine A_aload_n hg dX11_refusal_46 rfl rfl ?_
          refine A_aload_n hg dX11_refusal_47 rfl rfl ?_
          refine A_iload_n hg dX11_refusal_48 rfl rfl ?_
          refine A_iconst (v := (nI (0))) hg dX11_refusal_49 (by decide) ?_
          refine A_eV (kc2 := 0) (ks2 := 0) (As := [.int (nI (p)), .int (nI (0))]) (rest := [.ref (q_h G + 279)]) hg lk_RX11_185 in_X11_ofBoard se_X11_ofBoard rfl dX11_refusal_50 ⟨by decide, by decide⟩ rfl rfl ⟨by decide, by decide⟩ hc0 (by omega) rfl rfl (Nat.le_of_ble_eq_true rfl) (c_X11_ofBoard G ex n σ F g p 0 hc0 hc1 (by omega) (by omega)) ?_
          refine A_iload_n hg dX11_refusal_53 rfl rfl ?_
          refine A_iload_n hg dX11_refusal_54 rfl rfl ?_
          refine A_eV (kc2 := 0) (ks2 := 0) (As := [.int (nI (g (133 + 5 * p + 0))), .int (nI (k)), .int (nI (l))]) (rest := []) hg lk_RX11_106 in_X11_forbids se_X11_forbids rfl dX11_refusal_55 ⟨by decide, by decide⟩ rfl rfl ⟨by decide, by decide⟩ hc0 (by omega) rfl rfl (Nat.le_of_ble_eq_true rfl) (c_X11_forbids G ex n σ F g (g (133 + 5 * p + 0)) k l hc0 hc1 (by omega) (by omega) (hg9.2.2.2.2.2.1 _ hbd1.1) (by omega) (by omega)) ?_
          rw [hQ]
          exact A_ireturn hg (by decide) (by decide) rfl dX11_refusal_58 ⟨rfl, ⟨rfl, (by unfold s_ref; rw [if_neg (by omega), if_neg (by omega), if_pos hib])⟩⟩
      · skip
        refine A_iconst (v := (nI (2))) hg dX11_refusal_36 (by decide) ?_
        rw [hQ]
        exact A_ireturn hg (by decide) (by decide) rfl dX11_refusal_37 ⟨rfl, ⟨rfl, (by unfold s_ref; rw [if_neg (by omega), if_pos (by omega)])⟩⟩
  · skip
    refine A_iload_n hg dX11_refusal_12 rfl rfl ?_
    refine A_if_neN (tgt := 18) hg dX11_refusal_13 (by omega) (by decide) (fun c13 => ?_) (fun c13 => ?_)
    · skip
      refine A_iload_n hg dX11_refusal_18 rfl rfl ?_
      refine A_aload_n hg dX11_refusal_19 rfl rfl ?_
      refine A_iload_n hg dX11_refusal_20 rfl rfl ?_
      refine A_eV (kc2 := 0) (ks2 := 0) (As := [.int (nI (p))]) (rest := [.int (nI (k))]) hg lk_RX11_200 in_X11_firstHeap se_X11_firstHeap rfl dX11_refusal_21 ⟨by decide, by decide⟩ rfl rfl ⟨by decide, by decide⟩ hc0 (by omega) rfl rfl (Nat.le_of_ble_eq_true rfl) (c_X11_firstHeap G ex n σ F g p hc0 hc1 (by omega) hg9 (by omega)) ?_
      refine A_icmp_gtN (tgt := 36) hg dX11_refusal_24 (by omega) (by omega) (by decide) (fun c24 => ?_) (fun c24 => ?_)
      · skip
        refine A_iconst (v := (nI (2))) hg dX11_refusal_36 (by decide) ?_
        rw [hQ]
        exact A_ireturn hg (by decide) (by decide) rfl dX11_refusal_37 ⟨rfl, ⟨rfl, (by unfold s_ref; rw [if_neg (by omega), if_pos (by omega)])⟩⟩
      · skip
        refine A_iload_n hg dX11_refusal_27 rfl rfl ?_
        refine A_aload_n hg dX11_refusal_28 rfl rfl ?_
        refine A_iload_n hg dX11_refusal_29 rfl rfl ?_
        refine A_eV (kc2 := 0) (ks2 := 0) (As := [.int (nI (p))]) (rest := [.int (nI (l))]) hg lk_RX11_203 in_X11_secondHeap se_X11_secondHeap rfl dX11_refusal_30 ⟨by decide, by decide⟩ rfl rfl ⟨by decide, by decide⟩ hc0 (by omega) rfl rfl (Nat.le_of_ble_eq_true rfl) (c_X11_secondHeap G ex n σ F g p hc0 hc1 (by omega) hg9 (by omega)) ?_
        refine A_icmp_leN (tgt := 38) hg dX11_refusal_33 (by omega) (by omega) (by decide) (fun c33 => ?_) (fun c33 => ?_)
        · skip
          refine A_aload_n hg dX11_refusal_38 rfl rfl ?_
          refine A_iload_n hg dX11_refusal_39 rfl rfl ?_
          refine A_eV (kc2 := 0) (ks2 := 0) (As := [.int (nI (p))]) (rest := []) hg lk_RX11_182 in_X11_isBoard se_X11_isBoard rfl dX11_refusal_40 ⟨by decide, by decide⟩ rfl rfl ⟨by decide, by decide⟩ hc0 (by omega) rfl rfl (Nat.le_of_ble_eq_true rfl) (c_X11_isBoard G ex n σ F g p hc0 hc1 (by omega) (by omega) (by omega)) ?_
          refine A_if_eqB (tgt := 59) hg dX11_refusal_43 (by decide) (fun c43 => ?_) (fun c43 => ?_)
          · skip
            have hib : ¬ p < g 1 := of_decide_eq_false c43
            have hsk1 := hsk (by omega)
            refine A_iload_n hg dX11_refusal_59 rfl rfl ?_
            refine A_aload_n hg dX11_refusal_60 rfl rfl ?_
            refine A_aload_n hg dX11_refusal_61 rfl rfl ?_
            refine A_iload_n hg dX11_refusal_62 rfl rfl ?_
            refine A_eV (kc2 := 0) (ks2 := 0) (As := [.int (nI (p))]) (rest := [.ref (q_h G + 279), .int (nI (k))]) hg lk_RX11_191 in_X11_stickOf se_X11_stickOf rfl dX11_refusal_63 ⟨by decide, by decide⟩ rfl rfl ⟨by decide, by decide⟩ hc0 (by omega) rfl rfl (Nat.le_of_ble_eq_true rfl) (c_X11_stickOf G ex n σ F g p hc0 hc1 (by omega) (by omega)) ?_
            refine A_iconst (v := (nI (1))) hg dX11_refusal_66 (by decide) ?_
            refine A_eV (kc2 := 0) (ks2 := 0) (As := [.int (nI (p - g 1)), .int (nI (1))]) (rest := [.int (nI (k))]) hg lk_RX11_194 in_X11_ofStick se_X11_ofStick rfl dX11_refusal_67 ⟨by decide, by decide⟩ rfl rfl ⟨by decide, by decide⟩ hc0 (by omega) rfl rfl (Nat.le_of_ble_eq_true rfl) (c_X11_ofStick G ex n σ F g (p - g 1) 1 hc0 hc1 (by omega) (by omega)) ?_
            refine A_icmp_leN (tgt := 77) hg dX11_refusal_70 (by omega) (by omega) (by decide) (fun c70 => ?_) (fun c70 => ?_)
            · skip
              refine A_iconst (v := (nI (0))) hg dX11_refusal_77 (by decide) ?_
              rw [hQ]
              exact A_ireturn hg (by decide) (by decide) rfl dX11_refusal_78 ⟨rfl, ⟨rfl, (by unfold s_ref; rw [if_neg (by omega), if_neg (by omega), if_neg hib, if_neg (by omega)])⟩⟩
            · skip
              refine A_iconst (v := (nI (3))) hg dX11_refusal_73 (by decide) ?_
              refine A_goto (tgt := 78) hg dX11_refusal_74 (by decide) ?_
              rw [hQ]
              exact A_ireturn hg (by decide) (by decide) rfl dX11_refusal_78 ⟨rfl, ⟨rfl, (by unfold s_ref; rw [if_neg (by omega), if_neg (by omega), if_neg hib, if_pos (by omega)])⟩⟩
          · skip
            have hib : p < g 1 := of_decide_eq_true c43
            have hbd1 := hbd hib
            have hr4 := hg9.1
            refine A_aload_n hg dX11_refusal_46 rfl rfl ?_
            refine A_aload_n hg dX11_refusal_47 rfl rfl ?_
            refine A_iload_n hg dX11_refusal_48 rfl rfl ?_
            refine A_iconst (v := (nI (0))) hg dX11_refusal_49 (by decide) ?_
            refine A_eV (kc2 := 0) (ks2 := 0) (As := [.int (nI (p)), .int (nI (0))]) (rest := [.ref (q_h G + 279)]) hg lk_RX11_185 in_X11_ofBoard se_X11_ofBoard rfl dX11_refusal_50 ⟨by decide, by decide⟩ rfl rfl ⟨by decide, by decide⟩ hc0 (by omega) rfl rfl (Nat.le_of_ble_eq_true rfl) (c_X11_ofBoard G ex n σ F g p 0 hc0 hc1 (by omega) (by omega)) ?_
            refine A_iload_n hg dX11_refusal_53 rfl rfl ?_
            refine A_iload_n hg dX11_refusal_54 rfl rfl ?_
            refine A_eV (kc2 := 0) (ks2 := 0) (As := [.int (nI (g (133 + 5 * p + 0))), .int (nI (k)), .int (nI (l))]) (rest := []) hg lk_RX11_106 in_X11_forbids se_X11_forbids rfl dX11_refusal_55 ⟨by decide, by decide⟩ rfl rfl ⟨by decide, by decide⟩ hc0 (by omega) rfl rfl (Nat.le_of_ble_eq_true rfl) (c_X11_forbids G ex n σ F g (g (133 + 5 * p + 0)) k l hc0 hc1 (by omega) (by omega) (hg9.2.2.2.2.2.1 _ hbd1.1) (by omega) (by omega)) ?_
            rw [hQ]
            exact A_ireturn hg (by decide) (by decide) rfl dX11_refusal_58 ⟨rfl, ⟨rfl, (by unfold s_ref; rw [if_neg (by omega), if_neg (by omega), if_pos hib])⟩⟩
        · skip
          refine A_iconst (v := (nI (2))) hg dX11_refusal_36 (by decide) ?_
          rw [hQ]
          exact A_ireturn hg (by decide) (by decide) rfl dX11_refusal_37 ⟨rfl, ⟨rfl, (by unfold s_ref; rw [if_neg (by omega), if_pos (by omega)])⟩⟩
    · skip
      refine A_iconst (v := (nI (1))) hg dX11_refusal_16 (by decide) ?_
      rw [hQ]
      exact A_ireturn hg (by decide) (by decide) rfl dX11_refusal_17 ⟨rfl, ⟨rfl, (by unfold s_ref; rw [if_pos ⟨by omega, by omega⟩])⟩⟩
end
