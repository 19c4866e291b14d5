section
set_option maxRecDepth 100000 in
set_option maxHeartbeats 4000000 in
theorem c_X11_errorCode (G : GL) (ex : Bool) (n : Nat) (σ : Nat → va_E) (F : Nat → Int32) (hc0 : σ 279 = o11 G F) (hn : 294 ≤ n) : Ct G yX11_errorCode cX11_errorCode 1 (some .int) ⟨0, 0, 0, 0⟩ [.ref (q_h G + 279)] ex n σ (fun v9 σ2 => v9 = some (.int (F 22)) ∧ σ2 279 = o11 G (upd F 7 (nI (0))) ∧ (∀ i : Nat, i ≠ 279 → σ2 i = σ i)) := by
  refine q_enter [some (.ref (q_h G + 279))] (by decide) (Nat.le_of_ble_eq_true rfl) rfl ?_
  intro K hg
  obtain ⟨Q, hQ⟩ : ∃ Q, Q = q_Q G K ex n 0 0 (fun v9 n' σ' => n' = n ∧ (fun v9 σ2 => v9 = some (.int (F 22)) ∧ σ2 279 = o11 G (upd F 7 (nI (0))) ∧ (∀ i : Nat, i ≠ 279 → σ2 i = σ i)) v9 σ') q_noX := ⟨_, rfl⟩
  refine (?_ : AJ G K (q_Q G K ex n 0 0 _ _) 0 0 ex n 0 _ _ σ)
  rw [← hQ]
  refine A_aload_n hg dX11_errorCode_0 rfl rfl ?_
  refine A_iconst (v := (nI (0))) hg dX11_errorCode_1 (by decide) ?_
  refine A_putf hg fl_RX11_67 dX11_errorCode_2 hc0 (by omega) (Nat.le_of_ble_eq_true rfl) rfl rfl rfl (fun σ_1 hc_2 hf_3 => ?_)
  have hc_2 : σ_1 279 = o11 G (upd F 7 (nI (0))) := hc_2
  refine A_aload_n hg dX11_errorCode_5 rfl rfl ?_
  refine A_getf (v := .int (F 22)) hg fl_RX11_383 dX11_errorCode_6 hc_2 (by omega) rfl ?_
  rw [hQ]
  exact A_ireturn hg (by decide) (by decide) rfl dX11_errorCode_9 ⟨rfl, ⟨rfl, hc_2, (fun i hi => (hf_3 i (by omega)))⟩⟩
set_option maxRecDepth 100000 in
set_option maxHeartbeats 4000000 in
theorem c_X11_errorOffset (G : GL) (ex : Bool) (n : Nat) (σ : Nat → va_E) (F : Nat → Int32) (hc0 : σ 279 = o11 G F) (hn : 294 ≤ n) : Ct G yX11_errorOffset cX11_errorOffset 1 (some .int) ⟨0, 0, 0, 0⟩ [.ref (q_h G + 279)] ex n σ (fun v9 σ2 => v9 = some (.int (F 23)) ∧ σ2 279 = o11 G (upd F 7 (nI (0))) ∧ (∀ i : Nat, i ≠ 279 → σ2 i = σ i)) := by
  refine q_enter [some (.ref (q_h G + 279))] (by decide) (Nat.le_of_ble_eq_true rfl) rfl ?_
  intro K hg
  obtain ⟨Q, hQ⟩ : ∃ Q, Q = q_Q G K ex n 0 0 (fun v9 n' σ' => n' = n ∧ (fun v9 σ2 => v9 = some (.int (F 23)) ∧ σ2 279 = o11 G (upd F 7 (nI (0))) ∧ (∀ i : Nat, i ≠ 279 → σ2 i = σ i)) v9 σ') q_noX := ⟨_, rfl⟩
  refine (?_ : AJ G K (q_Q G K ex n 0 0 _ _) 0 0 ex n 0 _ _ σ)
  rw [← hQ]
  refine A_aload_n hg dX11_errorOffset_0 rfl rfl ?_
  refine A_iconst (v := (nI (0))) hg dX11_errorOffset_1 (by decide) ?_
  refine A_putf hg fl_RX11_67 dX11_errorOffset_2 hc0 (by omega) (Nat.le_of_ble_eq_true rfl) rfl rfl rfl (fun σ_1 hc_2 hf_3 => ?_)
  have hc_2 : σ_1 279 = o11 G (upd F 7 (nI (0))) := hc_2
  refine A_aload_n hg dX11_errorOffset_5 rfl rfl ?_
  refine A_getf (v := .int (F 23)) hg fl_RX11_50 dX11_errorOffset_6 hc_2 (by omega) rfl ?_
  rw [hQ]
  exact A_ireturn hg (by decide) (by decide) rfl dX11_errorOffset_9 ⟨rfl, ⟨rfl, hc_2, (fun i hi => (hf_3 i (by omega)))⟩⟩
set_option maxRecDepth 100000 in
set_option maxHeartbeats 4000000 in
theorem c_X11_outputByte (G : GL) (ex : Bool) (n : Nat) (σ : Nat → va_E) (F : Nat → Int32) (f : Nat → Nat) (m : Nat) (x : Int32) (hc0 : σ 279 = o11 G F) (hc1 : σ 293 = q_an G 300 f) (hn : 294 ≤ n) (hF33 : F 33 = nI m) (hm : m ≤ 300) : Ct G yX11_outputByte cX11_outputByte 2 (some .int) ⟨1, 0, 0, 22⟩ [.ref (q_h G + 279), .int (x)] ex n σ (fun v9 σ2 => (∃ (x1 : Nat), v9 = some (.int (nI (f x1))) ∧ (x = nI x1) ∧ (x1 < m) ∧ σ2 279 = o11 G (upd F 7 (nI (0))) ∧ (∀ i : Nat, i ≠ 279 → σ2 i = σ i)) ∨ (v9 = some (.int (q_d (0))) ∧ (∀ j : Nat, j < m → x = nI j → False) ∧ σ2 279 = o11 G (upd F 7 (nI (0))) ∧ (∀ i : Nat, i ≠ 279 → σ2 i = σ i))) := by
  refine q_enter [some (.ref (q_h G + 279)), some (.int (x))] (by decide) (Nat.le_of_ble_eq_true rfl) rfl ?_
  intro K hg
  obtain ⟨Q, hQ⟩ : ∃ Q, Q = q_Q G K ex n 0 0 (fun v9 n' σ' => n' = n ∧ (fun v9 σ2 => (∃ (x1 : Nat), v9 = some (.int (nI (f x1))) ∧ (x = nI x1) ∧ (x1 < m) ∧ σ2 279 = o11 G (upd F 7 (nI (0))) ∧ (∀ i : Nat, i ≠ 279 → σ2 i = σ i)) ∨ (v9 = some (.int (q_d (0))) ∧ (∀ j : Nat, j < m → x = nI j → False) ∧ σ2 279 = o11 G (upd F 7 (nI (0))) ∧ (∀ i : Nat, i ≠ 279 → σ2 i = σ i))) v9 σ') q_noX := ⟨_, rfl⟩
  refine (?_ : AJ G K (q_Q G K ex n 0 0 _ _) 0 0 ex n 0 _ _ σ)
  rw [← hQ]
  refine A_aload_n hg dX11_outputByte_0 rfl rfl ?_
  refine A_iconst (v := (nI (0))) hg dX11_outputByte_1 (by decide) ?_
  refine A_putf hg fl_RX11_67 dX11_outputByte_2 hc0 (by omega) (Nat.le_of_ble_eq_true rfl) rfl rfl rfl (fun σ_1 hc_2 hf_3 => ?_)
  have hc_2 : σ_1 279 = o11 G (upd F 7 (nI (0))) := hc_2
  have hc_4 : σ_1 293 = q_an G 300 f := (hf_3 _ (by omega)).trans hc1
  refine A_iload_n hg dX11_outputByte_5 rfl rfl ?_
  refine A_iconst (v := (nI (0))) hg dX11_outputByte_6 (by decide) ?_
  refine A_aload_n hg dX11_outputByte_7 rfl rfl ?_
  refine A_getf (v := .int (nI (m))) hg fl_RX11_472 dX11_outputByte_8 hc_2 (by omega) (congrArg (fun z => some (Value.int z)) hF33) ?_
  refine A_iconst (v := (nI (1))) hg dX11_outputByte_11 (by decide) ?_
  refine A_isub hg dX11_outputByte_12 ?_
  refine A_eS (kc2 := 0) (ks2 := 0) (As := [.int (x), .int (nI (0)), .int ((nI (m)) - (nI (1)))]) (rest := []) hg lk_RX11_77 st_X11_inRange dX11_outputByte_13 ⟨by decide, by decide⟩ rfl rfl ⟨by decide, by decide⟩ rfl rfl (Nat.le_of_ble_eq_true rfl) (c_X11_inRange G ex n σ_1 x (nI (0)) ((nI (m)) - (nI (1)))) ?_
  refine A_if_eqB (tgt := 28) hg dX11_outputByte_16 (by decide) (fun c16 => ?_) (fun c16 => ?_)
  · skip
    refine A_iconst (v := (q_d (0))) hg dX11_outputByte_28 (by decide) ?_
    rw [hQ]
    exact A_ireturn hg (by decide) (by decide) rfl dX11_outputByte_29 ⟨rfl, Or.inr ((⟨rfl, (q_below_f (by omega) c16), hc_2, (fun i hi => (hf_3 i (by omega)))⟩))⟩
  · skip
    obtain ⟨x1, hxe, hxl⟩ := q_below_t (by omega) c16
    subst hxe
    refine A_aload_n hg dX11_outputByte_19 rfl rfl ?_
    refine A_getf (v := .ref (q_h G + 293)) hg fl_RX11_54 dX11_outputByte_20 hc_2 (by omega) rfl ?_
    refine A_iload_n hg dX11_outputByte_23 rfl rfl ?_
    refine A_iald (j := x1) hg dX11_outputByte_24 hc_4 (by omega) (by omega) (by decide) ?_
    refine A_goto (tgt := 29) hg dX11_outputByte_25 (by decide) ?_
    rw [hQ]
    exact A_ireturn hg (by decide) (by decide) rfl dX11_outputByte_29 ⟨rfl, Or.inl (⟨x1, rfl, (by first | rfl | assumption | omega), (by first | rfl | assumption | omega), hc_2, (fun i hi => (hf_3 i (by omega)))⟩)⟩
set_option maxRecDepth 100000 in
set_option maxHeartbeats 4000000 in
theorem c_X11_truncateInput (G : GL) (ex : Bool) (n : Nat) (σ : Nat → va_E) (F : Nat → Int32) (m : Nat) (x : Int32) (hc0 : σ 279 = o11 G F) (hn : 294 ≤ n) (hF21 : F 21 = nI m) (hm : m ≤ 600) : Ct G yX11_truncateInput cX11_truncateInput 2 (some .boolean) ⟨1, 0, 0, 22⟩ [.ref (q_h G + 279), .int (x)] ex n σ (fun v9 σ2 => (v9 = some (.int (nI (0))) ∧ (∀ j : Nat, 0 ≤ j → j ≤ m → x = nI j → False) ∧ σ2 279 = o11 G (upd F 7 (nI (0))) ∧ (∀ i : Nat, i ≠ 279 → σ2 i = σ i)) ∨ (∃ (x1 : Nat), v9 = some (.int (nI (1))) ∧ (x = nI x1) ∧ (x1 ≤ m) ∧ σ2 279 = o11 G (upd (upd F 7 (nI (0))) 21 (nI (x1))) ∧ (∀ i : Nat, i ≠ 279 → σ2 i = σ i))) := by
  refine q_enter [some (.ref (q_h G + 279)), some (.int (x))] (by decide) (Nat.le_of_ble_eq_true rfl) rfl ?_
  intro K hg
  obtain ⟨Q, hQ⟩ : ∃ Q, Q = q_Q G K ex n 0 0 (fun v9 n' σ' => n' = n ∧ (fun v9 σ2 => (v9 = some (.int (nI (0))) ∧ (∀ j : Nat, 0 ≤ j → j ≤ m → x = nI j → False) ∧ σ2 279 = o11 G (upd F 7 (nI (0))) ∧ (∀ i : Nat, i ≠ 279 → σ2 i = σ i)) ∨ (∃ (x1 : Nat), v9 = some (.int (nI (1))) ∧ (x = nI x1) ∧ (x1 ≤ m) ∧ σ2 279 = o11 G (upd (upd F 7 (nI (0))) 21 (nI (x1))) ∧ (∀ i : Nat, i ≠ 279 → σ2 i = σ i))) v9 σ') q_noX := ⟨_, rfl⟩
  refine (?_ : AJ G K (q_Q G K ex n 0 0 _ _) 0 0 ex n 0 _ _ σ)
  rw [← hQ]
  refine A_aload_n hg dX11_truncateInput_0 rfl rfl ?_
  refine A_iconst (v := (nI (0))) hg dX11_truncateInput_1 (by decide) ?_
  refine A_putf hg fl_RX11_67 dX11_truncateInput_2 hc0 (by omega) (Nat.le_of_ble_eq_true rfl) rfl rfl rfl (fun σ_1 hc_2 hf_3 => ?_)
  have hc_2 : σ_1 279 = o11 G (upd F 7 (nI (0))) := hc_2
  refine A_iload_n hg dX11_truncateInput_5 rfl rfl ?_
  refine A_iconst (v := (nI (0))) hg dX11_truncateInput_6 (by decide) ?_
  refine A_aload_n hg dX11_truncateInput_7 rfl rfl ?_
  refine A_getf (v := .int (nI (m))) hg fl_RX11_253 dX11_truncateInput_8 hc_2 (by omega) (congrArg (fun z => some (Value.int z)) hF21) ?_
  refine A_eS (kc2 := 0) (ks2 := 0) (As := [.int (x), .int (nI (0)), .int (nI (m))]) (rest := []) hg lk_RX11_77 st_X11_inRange dX11_truncateInput_11 ⟨by decide, by decide⟩ rfl rfl ⟨by decide, by decide⟩ rfl rfl (Nat.le_of_ble_eq_true rfl) (c_X11_inRange G ex n σ_1 x (nI (0)) (nI (m))) ?_
  refine A_if_neB (tgt := 19) hg dX11_truncateInput_14 (by decide) (fun c14 => ?_) (fun c14 => ?_)
  · skip
    obtain ⟨x1, hxe, -, hxl⟩ := q_in_nat (by omega) c14 (by decide)
    subst hxe
    refine A_aload_n hg dX11_truncateInput_19 rfl rfl ?_
    refine A_iload_n hg dX11_truncateInput_20 rfl rfl ?_
    refine A_putf hg fl_RX11_253 dX11_truncateInput_21 hc_2 (by omega) (Nat.le_of_ble_eq_true rfl) rfl rfl rfl (fun σ_4 hc_5 hf_6 => ?_)
    have hc_5 : σ_4 279 = o11 G (upd (upd F 7 (nI (0))) 21 (nI (x1))) := hc_5
    refine A_iconst (v := (nI (1))) hg dX11_truncateInput_24 (by decide) ?_
    rw [hQ]
    exact A_zreturn hg (by decide) (by decide) rfl rfl dX11_truncateInput_25 ⟨rfl, Or.inr ((⟨x1, rfl, (by first | rfl | assumption | omega), (by first | rfl | assumption | omega), hc_5, (fun i hi => ((hf_6 i (by omega)).trans (hf_3 i (by omega))))⟩))⟩
  · skip
    refine A_iconst (v := (nI (0))) hg dX11_truncateInput_17 (by decide) ?_
    rw [hQ]
    exact A_zreturn hg (by decide) (by decide) rfl rfl dX11_truncateInput_18 ⟨rfl, Or.inl (⟨rfl, (q_range_f (by omega) c14), hc_2, (fun i hi => (hf_3 i (by omega)))⟩)⟩
set_option maxRecDepth 100000 in
set_option maxHeartbeats 4000000 in
theorem c_X11_byteAt (G : GL) (ex : Bool) (n : Nat) (σ : Nat → va_E) (F : Nat → Int32) (f : Nat → Nat) (m : Nat) (k : Nat) (hc0 : σ 279 = o11 G F) (hc1 : σ 292 = q_an G 600 f) (hn : 294 ≤ n) (hk : k < 2 ^ 31) (hF21 : F 21 = nI m) (hm : m ≤ 600) : Ct G yX11_byteAt cX11_byteAt 2 (some .int) ⟨0, 0, 0, 0⟩ [.ref (q_h G + 279), .int (nI (k))] ex n σ (fun v9 σ2 => σ2 = σ ∧ v9 = some (.int (q_d (s_byte f m k)))) := by
  refine q_enter [some (.ref (q_h G + 279)), some (.int (nI (k)))] (by decide) (Nat.le_of_ble_eq_true rfl) rfl ?_
  intro K hg
  obtain ⟨Q, hQ⟩ : ∃ Q, Q = q_Q G K ex n 0 0 (fun v9 n' σ' => n' = n ∧ (fun v9 σ2 => σ2 = σ ∧ v9 = some (.int (q_d (s_byte f m k)))) v9 σ') q_noX := ⟨_, rfl⟩
  refine (?_ : AJ G K (q_Q G K ex n 0 0 _ _) 0 0 ex n 0 _ _ σ)
  rw [← hQ]
  refine A_iload_n hg dX11_byteAt_0 rfl rfl ?_
  refine A_aload_n hg dX11_byteAt_1 rfl rfl ?_
  refine A_getf (v := .int (nI (m))) hg fl_RX11_253 dX11_byteAt_2 hc0 (by omega) (congrArg (fun z => some (Value.int z)) hF21) ?_
  refine A_icmp_geN (tgt := 17) hg dX11_byteAt_5 (by omega) (by omega) (by decide) (fun c5 => ?_) (fun c5 => ?_)
  · skip
    refine A_iconst (v := (q_d (0))) hg dX11_byteAt_17 (by decide) ?_
    rw [hQ]
    exact A_ireturn hg (by decide) (by decide) rfl dX11_byteAt_18 ⟨rfl, ⟨rfl, (by unfold s_byte; rw [if_neg (by omega)])⟩⟩
  · skip
    refine A_aload_n hg dX11_byteAt_8 rfl rfl ?_
    refine A_getf (v := .ref (q_h G + 292)) hg fl_RX11_47 dX11_byteAt_9 hc0 (by omega) rfl ?_
    refine A_iload_n hg dX11_byteAt_12 rfl rfl ?_
    refine A_iald (j := k) hg dX11_byteAt_13 hc1 (by omega) (by omega) (by decide) ?_
    refine A_goto (tgt := 18) hg dX11_byteAt_14 (by decide) ?_
    rw [hQ]
    exact A_ireturn hg (by decide) (by decide) rfl dX11_byteAt_18 ⟨rfl, ⟨rfl, (by unfold s_byte; rw [if_pos (by omega), q_dS])⟩⟩
set_option maxRecDepth 100000 in
set_option maxHeartbeats 4000000 in
theorem c_X11_isLetter (G : GL) (ex : Bool) (n : Nat) (σ : Nat → va_E) (F : Nat → Int32) (f : Nat → Nat) (m : Nat) (k : Nat) (hc0 : σ 279 = o11 G F) (hc1 : σ 292 = q_an G 600 f) (hn : 294 ≤ n) (hk : k < 2 ^ 31) (hF21 : F 21 = nI m) (hm : m ≤ 600) : Ct G yX11_isLetter cX11_isLetter 2 (some .boolean) ⟨1, 0, 0, 22⟩ [.ref (q_h G + 279), .int (nI (k))] ex n σ (fun v9 σ2 => σ2 = σ ∧ v9 = some (.int (q_b (q_in (q_d (s_byte f m k)) (nI 97) (nI 122))))) := by
  refine q_enter [some (.ref (q_h G + 279)), some (.int (nI (k)))] (by decide) (Nat.le_of_ble_eq_true rfl) rfl ?_
  intro K hg
  obtain ⟨Q, hQ⟩ : ∃ Q, Q = q_Q G K ex n 0 0 (fun v9 n' σ' => n' = n ∧ (fun v9 σ2 => σ2 = σ ∧ v9 = some (.int (q_b (q_in (q_d (s_byte f m k)) (nI 97) (nI 122))))) v9 σ') q_noX := ⟨_, rfl⟩
  refine (?_ : AJ G K (q_Q G K ex n 0 0 _ _) 0 0 ex n 0 _ _ σ)
  rw [← hQ]
  refine A_aload_n hg dX11_isLetter_0 rfl rfl ?_
  refine A_iload_n hg dX11_isLetter_1 rfl rfl ?_
  refine A_eV (kc2 := 0) (ks2 := 0) (As := [.int (nI (k))]) (rest := []) hg lk_RX11_259 in_X11_byteAt se_X11_byteAt rfl dX11_isLetter_2 ⟨by decide, by decide⟩ rfl rfl ⟨by decide, by decide⟩ hc0 (by omega) rfl rfl (Nat.le_of_ble_eq_true rfl) (c_X11_byteAt G ex n σ F f m k hc0 hc1 (by omega) (by omega) hF21 (by omega)) ?_
  refine A_bipush (v := (nI (97))) hg dX11_isLetter_5 (by decide) ?_
  refine A_bipush (v := (nI (122))) hg dX11_isLetter_7 (by decide) ?_
  refine A_eS (kc2 := 0) (ks2 := 0) (As := [.int (q_d (s_byte f m k)), .int (nI (97)), .int (nI (122))]) (rest := []) hg lk_RX11_77 st_X11_inRange dX11_isLetter_9 ⟨by decide, by decide⟩ rfl rfl ⟨by decide, by decide⟩ rfl rfl (Nat.le_of_ble_eq_true rfl) (c_X11_inRange G ex n σ (q_d (s_byte f m k)) (nI (97)) (nI (122))) ?_
  rw [hQ]
  exact A_zreturnB hg rfl (by decide) (by decide) dX11_isLetter_12 ⟨rfl, ⟨rfl, rfl⟩⟩
end
