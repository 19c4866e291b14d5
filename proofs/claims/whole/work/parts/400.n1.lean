section
set_option maxRecDepth 100000 in
set_option maxHeartbeats 4000000 in
theorem c_X11_appendWord (G : GL) (ex : Bool) (n : Nat) (σ : Nat → va_E) (F : Nat → Int32) (f : Nat → Nat) (m : Nat) (x : Int32) (hc0 : σ 279 = o11 G F) (hc1 : σ 292 = q_an G 600 f) (hn : 294 ≤ n) (hF21 : F 21 = nI m) (hm : m + 4 ≤ 600) : Ct G yX11_appendWord cX11_appendWord 3 none ⟨0, 0, 0, 0⟩ [.ref (q_h G + 279), .int (x)] ex n σ (fun v9 σ2 => v9 = none ∧ σ2 279 = o11 G (upd F 21 (nI (m + 4))) ∧ σ2 292 = q_an G 600 (s_apw f m x) ∧ (∀ i : Nat, i ≠ 279 ∧ i ≠ 292 → σ2 i = σ i)) := by
  refine q_enter [some (.ref (q_h G + 279)), some (.int (x)), none] (by decide) (Nat.le_of_ble_eq_true rfl) rfl ?_
  intro K hg
  obtain ⟨Q, hQ⟩ : ∃ Q, Q = q_Q G K ex n 0 0 (fun v9 n' σ' => n' = n ∧ (fun v9 σ2 => v9 = none ∧ σ2 279 = o11 G (upd F 21 (nI (m + 4))) ∧ σ2 292 = q_an G 600 (s_apw f m x) ∧ (∀ i : Nat, i ≠ 279 ∧ i ≠ 292 → σ2 i = σ i)) v9 σ') q_noX := ⟨_, rfl⟩
  refine (?_ : AJ G K (q_Q G K ex n 0 0 _ _) 0 0 ex n 0 _ _ σ)
  rw [← hQ]
  refine A_bipush (v := (nI (24))) hg dX11_appendWord_0 (by decide) ?_
  refine A_istore_n hg dX11_appendWord_2 rfl (by decide) (q_c1d rfl) ?_
  refine A_eq (ls2 := [some (.ref (q_h G + 279)), some (.int (x)), some (.int (nI (24)))]) (st2 := []) (pc2 := 0) rfl rfl ?_
  refine A_iload_n hg dX11_appendWord_3 rfl rfl ?_
  refine A_if_ltN (tgt := 39) hg dX11_appendWord_4 (by decide) (by decide) ?_
  refine A_aload_n hg dX11_appendWord_7 rfl rfl ?_
  refine A_getf (v := .ref (q_h G + 292)) hg fl_RX11_47 dX11_appendWord_8 hc0 (by omega) rfl ?_
  refine A_aload_n hg dX11_appendWord_11 rfl rfl ?_
  refine A_getf (v := .int (nI (m))) hg fl_RX11_253 dX11_appendWord_12 hc0 (by omega) (congrArg (fun z => some (Value.int z)) hF21) ?_
  refine A_iload_n hg dX11_appendWord_15 rfl rfl ?_
  refine A_iload_n hg dX11_appendWord_16 rfl rfl ?_
  refine A_ishr hg dX11_appendWord_17 ?_
  refine A_sipush (v := (nI (255))) hg dX11_appendWord_18 (by decide) ?_
  refine A_iand hg dX11_appendWord_21 ?_
  refine A_top (w := .int (nI (s_by x 24))) (congrArg Value.int (s_by_eq x 24).1) ?_
  refine A_iast (j := m) (x := (s_by x 24)) hg dX11_appendWord_22 hc1 (by omega) (by omega) (by decide) (fun σ_1 hc_2 hf_3 => ?_)
  have hc_4 : σ_1 279 = o11 G F := (hf_3 _ (by omega)).trans hc0
  refine A_aload_n hg dX11_appendWord_23 rfl rfl ?_
  refine A_dup hg dX11_appendWord_24 rfl ?_
  refine A_getf (v := .int (nI (m))) hg fl_RX11_253 dX11_appendWord_25 hc_4 (by omega) (congrArg (fun z => some (Value.int z)) hF21) ?_
  refine A_iconst (v := (nI (1))) hg dX11_appendWord_28 (by decide) ?_
  refine A_iaddN hg dX11_appendWord_29 ?_
  refine A_putf hg fl_RX11_253 dX11_appendWord_30 hc_4 (by omega) (Nat.le_of_ble_eq_true rfl) rfl rfl rfl (fun σ_5 hc_6 hf_7 => ?_)
  have hc_6 : σ_5 279 = o11 G (upd F 21 (nI (m + 1))) := hc_6
  have hc_8 : σ_5 292 = q_an G 600 (va_up f m (s_by x 24)) := (hf_7 _ (by omega)).trans hc_2
  refine A_iinc (v := (nI (16))) hg dX11_appendWord_33 rfl (by decide) (by decide) (q_c1d rfl) ?_
  refine A_eq (ls2 := [some (.ref (q_h G + 279)), some (.int (x)), some (.int (nI (16)))]) (st2 := []) (pc2 := 0) rfl rfl ?_
  refine A_goto (tgt := 3) hg dX11_appendWord_36 (by decide) ?_
  refine A_iload_n hg dX11_appendWord_3 rfl rfl ?_
  refine A_if_ltN (tgt := 39) hg dX11_appendWord_4 (by decide) (by decide) ?_
  refine A_aload_n hg dX11_appendWord_7 rfl rfl ?_
  refine A_getf (v := .ref (q_h G + 292)) hg fl_RX11_47 dX11_appendWord_8 hc_6 (by omega) rfl ?_
  refine A_aload_n hg dX11_appendWord_11 rfl rfl ?_
  refine A_getf (v := .int (nI (m + 1))) hg fl_RX11_253 dX11_appendWord_12 hc_6 (by omega) rfl ?_
  refine A_iload_n hg dX11_appendWord_15 rfl rfl ?_
  refine A_iload_n hg dX11_appendWord_16 rfl rfl ?_
  refine A_ishr hg dX11_appendWord_17 ?_
  refine A_sipush (v := (nI (255))) hg dX11_appendWord_18 (by decide) ?_
  refine A_iand hg dX11_appendWord_21 ?_
  refine A_top (w := .int (nI (s_by x 16))) (congrArg Value.int (s_by_eq x 16).1) ?_
  refine A_iast (j := (m + 1)) (x := (s_by x 16)) hg dX11_appendWord_22 hc_8 (by omega) (by omega) (by decide) (fun σ_9 hc_10 hf_11 => ?_)
  have hc_12 : σ_9 279 = o11 G (upd F 21 (nI (m + 1))) := (hf_11 _ (by omega)).trans hc_6
  refine A_aload_n hg dX11_appendWord_23 rfl rfl ?_
  refine A_dup hg dX11_appendWord_24 rfl ?_
  refine A_getf (v := .int (nI (m + 1))) hg fl_RX11_253 dX11_appendWord_25 hc_12 (by omega) rfl ?_
  refine A_iconst (v := (nI (1))) hg dX11_appendWord_28 (by decide) ?_
  refine A_iaddN hg dX11_appendWord_29 ?_
  refine A_putf hg fl_RX11_253 dX11_appendWord_30 hc_12 (by omega) (Nat.le_of_ble_eq_true rfl) rfl rfl rfl (fun σ_13 hc_14 hf_15 => ?_)
  have hc_14 : σ_13 279 = o11 G (upd F 21 (nI ((m + 1) + 1))) := hc_14
  have hc_16 : σ_13 292 = q_an G 600 (va_up (va_up f m (s_by x 24)) (m + 1) (s_by x 16)) := (hf_15 _ (by omega)).trans hc_10
  refine A_iinc (v := (nI (8))) hg dX11_appendWord_33 rfl (by decide) (by decide) (q_c1d rfl) ?_
  refine A_eq (ls2 := [some (.ref (q_h G + 279)), some (.int (x)), some (.int (nI (8)))]) (st2 := []) (pc2 := 0) rfl rfl ?_
  refine A_goto (tgt := 3) hg dX11_appendWord_36 (by decide) ?_
  refine A_iload_n hg dX11_appendWord_3 rfl rfl ?_
  refine A_if_ltN (tgt := 39) hg dX11_appendWord_4 (by decide) (by decide) ?_
  refine A_aload_n hg dX11_appendWord_7 rfl rfl ?_
  refine A_getf (v := .ref (q_h G + 292)) hg fl_RX11_47 dX11_appendWord_8 hc_14 (by omega) rfl ?_
  refine A_aload_n hg dX11_appendWord_11 rfl rfl ?_
  refine A_getf (v := .int (nI ((m + 1) + 1))) hg fl_RX11_253 dX11_appendWord_12 hc_14 (by omega) rfl ?_
  refine A_iload_n hg dX11_appendWord_15 rfl rfl ?_
  refine A_iload_n hg dX11_appendWord_16 rfl rfl ?_
  refine A_ishr hg dX11_appendWord_17 ?_
  refine A_sipush (v := (nI (255))) hg dX11_appendWord_18 (by decide) ?_
  refine A_iand hg dX11_appendWord_21 ?_
  refine A_top (w := .int (nI (s_by x 8))) (congrArg Value.int (s_by_eq x 8).1) ?_
  refine A_iast (j := ((m + 1) + 1)) (x := (s_by x 8)) hg dX11_appendWord_22 hc_16 (by omega) (by omega) (by decide) (fun σ_17 hc_18 hf_19 => ?_)
  have hc_20 : σ_17 279 = o11 G (upd F 21 (nI ((m + 1) + 1))) := (hf_19 _ (by omega)).trans hc_14
  refine A_aload_n hg dX11_appendWord_23 rfl rfl ?_
  refine A_dup hg dX11_appendWord_24 rfl ?_
  refine A_getf (v := .int (nI ((m + 1) + 1))) hg fl_RX11_253 dX11_appendWord_25 hc_20 (by omega) rfl ?_
  refine A_iconst (v := (nI (1))) hg dX11_appendWord_28 (by decide) ?_
  refine A_iaddN hg dX11_appendWord_29 ?_
  refine A_putf hg fl_RX11_253 dX11_appendWord_30 hc_20 (by omega) (Nat.le_of_ble_eq_true rfl) rfl rfl rfl (fun σ_21 hc_22 hf_23 => ?_)
  have hc_22 : σ_21 279 = o11 G (upd F 21 (nI (((m + 1) + 1) + 1))) := hc_22
  have hc_24 : σ_21 292 = q_an G 600 (va_up (va_up (va_up f m (s_by x 24)) (m + 1) (s_by x 16)) ((m + 1) + 1) (s_by x 8)) := (hf_23 _ (by omega)).trans hc_18
  refine A_iinc (v := (nI (0))) hg dX11_appendWord_33 rfl (by decide) (by decide) (q_c1d rfl) ?_
  refine A_eq (ls2 := [some (.ref (q_h G + 279)), some (.int (x)), some (.int (nI (0)))]) (st2 := []) (pc2 := 0) rfl rfl ?_
  refine A_goto (tgt := 3) hg dX11_appendWord_36 (by decide) ?_
  refine A_iload_n hg dX11_appendWord_3 rfl rfl ?_
  refine A_if_ltN (tgt := 39) hg dX11_appendWord_4 (by decide) (by decide) ?_
  refine A_aload_n hg dX11_appendWord_7 rfl rfl ?_
  refine A_getf (v := .ref (q_h G + 292)) hg fl_RX11_47 dX11_appendWord_8 hc_22 (by omega) rfl ?_
  refine A_aload_n hg dX11_appendWord_11 rfl rfl ?_
  refine A_getf (v := .int (nI (((m + 1) + 1) + 1))) hg fl_RX11_253 dX11_appendWord_12 hc_22 (by omega) rfl ?_
  refine A_iload_n hg dX11_appendWord_15 rfl rfl ?_
  refine A_iload_n hg dX11_appendWord_16 rfl rfl ?_
  refine A_ishr hg dX11_appendWord_17 ?_
  refine A_sipush (v := (nI (255))) hg dX11_appendWord_18 (by decide) ?_
  refine A_iand hg dX11_appendWord_21 ?_
  refine A_top (w := .int (nI (s_by x 0))) (congrArg Value.int (s_by_eq x 0).1) ?_
  refine A_iast (j := (((m + 1) + 1) + 1)) (x := (s_by x 0)) hg dX11_appendWord_22 hc_24 (by omega) (by omega) (by decide) (fun σ_25 hc_26 hf_27 => ?_)
  have hc_28 : σ_25 279 = o11 G (upd F 21 (nI (((m + 1) + 1) + 1))) := (hf_27 _ (by omega)).trans hc_22
  refine A_aload_n hg dX11_appendWord_23 rfl rfl ?_
  refine A_dup hg dX11_appendWord_24 rfl ?_
  refine A_getf (v := .int (nI (((m + 1) + 1) + 1))) hg fl_RX11_253 dX11_appendWord_25 hc_28 (by omega) rfl ?_
  refine A_iconst (v := (nI (1))) hg dX11_appendWord_28 (by decide) ?_
  refine A_iaddN hg dX11_appendWord_29 ?_
  refine A_putf hg fl_RX11_253 dX11_appendWord_30 hc_28 (by omega) (Nat.le_of_ble_eq_true rfl) rfl rfl rfl (fun σ_29 hc_30 hf_31 => ?_)
  have hc_30 : σ_29 279 = o11 G (upd F 21 (nI ((((m + 1) + 1) + 1) + 1))) := hc_30
  have hc_32 : σ_29 292 = q_an G 600 (va_up (va_up (va_up (va_up f m (s_by x 24)) (m + 1) (s_by x 16)) ((m + 1) + 1) (s_by x 8)) (((m + 1) + 1) + 1) (s_by x 0)) := (hf_31 _ (by omega)).trans hc_26
  refine A_iinc (v := ((-8))) hg dX11_appendWord_33 rfl (by decide) (by decide) (q_c1d rfl) ?_
  refine A_eq (ls2 := [some (.ref (q_h G + 279)), some (.int (x)), some (.int ((-8)))]) (st2 := []) (pc2 := 0) rfl rfl ?_
  refine A_goto (tgt := 3) hg dX11_appendWord_36 (by decide) ?_
  refine A_iload_n hg dX11_appendWord_3 rfl rfl ?_
  refine A_if_lt (tgt := 39) hg dX11_appendWord_4 (by decide) (fun _ => ?_) (fun z => absurd (by decide) z)
  refine A_canon (s_apw f m x) hc_32 (fun _ _ => rfl) (fun σ_33 hc_34 hf_35 => ?_)
  have hc_36 : σ_33 279 = o11 G (upd F 21 (nI ((((m + 1) + 1) + 1) + 1))) := (hf_35 _ (by omega)).trans hc_30
  rw [hQ]
  exact A_return hg (by decide) (by decide) rfl dX11_appendWord_39 ⟨rfl, ⟨rfl, hc_36, hc_34, (fun i hi => ((hf_35 i (by omega)).trans ((hf_31 i (by omega)).trans ((hf_27 i (by omega)).trans ((hf_23 i (by omega)).trans ((hf_19 i (by omega)).trans ((hf_15 i (by omega)).trans ((hf_11 i (by omega)).trans ((hf_7 i (by omega)).trans (hf_3 i (by omega)))))))))))⟩⟩
set_option maxRecDepth 100000 in
set_option maxHeartbeats 4000000 in
theorem c_X11_appendInput (G : GL) (ex : Bool) (n : Nat) (σ : Nat → va_E) (F : Nat → Int32) (f : Nat → Nat) (m : Nat) (a : Int32) (b : Int32) (c : Int32) (d : Int32) (e : Int32) (hc0 : σ 279 = o11 G F) (hc1 : σ 292 = q_an G 600 f) (hn : 294 ≤ n) (hF21 : F 21 = nI m) (hm : m ≤ 600) : Ct G yX11_appendInput cX11_appendInput 6 (some .int) ⟨1, 0, 0, 22⟩ [.ref (q_h G + 279), .int (a), .int (b), .int (c), .int (d), .int (e)] ex n σ (fun v9 σ2 => (v9 = some (.int (q_d (0))) ∧ (¬ m + 20 ≤ 600) ∧ σ2 279 = o11 G (upd F 7 (nI (0))) ∧ (∀ i : Nat, i ≠ 279 → σ2 i = σ i)) ∨ (v9 = some (.int (nI (m + 20))) ∧ (m + 20 ≤ 600) ∧ σ2 279 = o11 G (upd (upd F 7 (nI (0))) 21 (nI (m + 20))) ∧ σ2 292 = q_an G 600 (s_apI f m a b c d e) ∧ (∀ i : Nat, i ≠ 279 ∧ i ≠ 292 → σ2 i = σ i))) := by
  refine q_enter [some (.ref (q_h G + 279)), some (.int (a)), some (.int (b)), some (.int (c)), some (.int (d)), some (.int (e))] (by decide) (Nat.le_of_ble_eq_true rfl) rfl ?_
  intro K hg
  obtain ⟨Q, hQ⟩ : ∃ Q, Q = q_Q G K ex n 0 0 (fun v9 n' σ' => n' = n ∧ (fun v9 σ2 => (v9 = some (.int (q_d (0))) ∧ (¬ m + 20 ≤ 600) ∧ σ2 279 = o11 G (upd F 7 (nI (0))) ∧ (∀ i : Nat, i ≠ 279 → σ2 i = σ i)) ∨ (v9 = some (.int (nI (m + 20))) ∧ (m + 20 ≤ 600) ∧ σ2 279 = o11 G (upd (upd F 7 (nI (0))) 21 (nI (m + 20))) ∧ σ2 292 = q_an G 600 (s_apI f m a b c d e) ∧ (∀ i : Nat, i ≠ 279 ∧ i ≠ 292 → σ2 i = σ i))) v9 σ') q_noX := ⟨_, rfl⟩
  refine (?_ : AJ G K (q_Q G K ex n 0 0 _ _) 0 0 ex n 0 _ _ σ)
  rw [← hQ]
  refine A_aload_n hg dX11_appendInput_0 rfl rfl ?_
  refine A_iconst (v := (nI (0))) hg dX11_appendInput_1 (by decide) ?_
  refine A_putf hg fl_RX11_67 dX11_appendInput_2 hc0 (by omega) (Nat.le_of_ble_eq_true rfl) rfl rfl rfl (fun σ_1 hc_2 hf_3 => ?_)
  have hc_2 : σ_1 279 = o11 G (upd F 7 (nI (0))) := hc_2
  have hc_4 : σ_1 292 = q_an G 600 f := (hf_3 _ (by omega)).trans hc1
  refine A_aload_n hg dX11_appendInput_5 rfl rfl ?_
  refine A_getf (v := .int (nI (m))) hg fl_RX11_253 dX11_appendInput_6 hc_2 (by omega) (congrArg (fun z => some (Value.int z)) hF21) ?_
  refine A_bipush (v := (nI (20))) hg dX11_appendInput_9 (by decide) ?_
  refine A_iaddN hg dX11_appendInput_11 ?_
  refine A_sipush (v := (nI (600))) hg dX11_appendInput_12 (by decide) ?_
  refine A_icmp_leN (tgt := 20) hg dX11_appendInput_15 (by omega) (by decide) (by decide) (fun c15 => ?_) (fun c15 => ?_)
  · skip
    refine A_aload_n hg dX11_appendInput_20 rfl rfl ?_
    refine A_iload_n hg dX11_appendInput_21 rfl rfl ?_
    refine A_vV (kc2 := 0) (ks2 := 0) (As := [.int (a)]) (rest := []) hg lk_RX11_256 in_X11_appendWord se_X11_appendWord rfl dX11_appendInput_22 ⟨by decide, by decide⟩ rfl rfl ⟨by decide, by decide⟩ hc_2 (by omega) rfl rfl (Nat.le_of_ble_eq_true rfl) (c_X11_appendWord G ex n σ_1 (upd F 7 (nI (0))) f m a hc_2 hc_4 (by omega) hF21 (by omega)) ?_
    rintro σ_8 ⟨hc_5, hc_6, hf_7⟩
    have hc_5 : σ_8 279 = o11 G (upd (upd F 7 (nI (0))) 21 (nI (m + 4))) := hc_5
    refine A_aload_n hg dX11_appendInput_25 rfl rfl ?_
    refine A_iload_n hg dX11_appendInput_26 rfl rfl ?_
    refine A_vV (kc2 := 0) (ks2 := 0) (As := [.int (b)]) (rest := []) hg lk_RX11_256 in_X11_appendWord se_X11_appendWord rfl dX11_appendInput_27 ⟨by decide, by decide⟩ rfl rfl ⟨by decide, by decide⟩ hc_5 (by omega) rfl rfl (Nat.le_of_ble_eq_true rfl) (c_X11_appendWord G ex n σ_8 (upd (upd F 7 (nI (0))) 21 (nI (m + 4))) (s_apw f m a) (m + 4) b hc_5 hc_6 (by omega) rfl (by omega)) ?_
    rintro σ_12 ⟨hc_9, hc_10, hf_11⟩
    have hc_9 : σ_12 279 = o11 G (upd (upd F 7 (nI (0))) 21 (nI ((m + 4) + 4))) := hc_9
    refine A_aload_n hg dX11_appendInput_30 rfl rfl ?_
    refine A_iload_n hg dX11_appendInput_31 rfl rfl ?_
    refine A_vV (kc2 := 0) (ks2 := 0) (As := [.int (c)]) (rest := []) hg lk_RX11_256 in_X11_appendWord se_X11_appendWord rfl dX11_appendInput_32 ⟨by decide, by decide⟩ rfl rfl ⟨by decide, by decide⟩ hc_9 (by omega) rfl rfl (Nat.le_of_ble_eq_true rfl) (c_X11_appendWord G ex n σ_12 (upd (upd F 7 (nI (0))) 21 (nI ((m + 4) + 4))) (s_apw (s_apw f m a) (m + 4) b) ((m + 4) + 4) c hc_9 hc_10 (by omega) rfl (by omega)) ?_
    rintro σ_16 ⟨hc_13, hc_14, hf_15⟩
    have hc_13 : σ_16 279 = o11 G (upd (upd F 7 (nI (0))) 21 (nI (((m + 4) + 4) + 4))) := hc_13
    refine A_aload_n hg dX11_appendInput_35 rfl rfl ?_
    refine A_iload hg dX11_appendInput_36 rfl ?_
    refine A_vV (kc2 := 0) (ks2 := 0) (As := [.int (d)]) (rest := []) hg lk_RX11_256 in_X11_appendWord se_X11_appendWord rfl dX11_appendInput_38 ⟨by decide, by decide⟩ rfl rfl ⟨by decide, by decide⟩ hc_13 (by omega) rfl rfl (Nat.le_of_ble_eq_true rfl) (c_X11_appendWord G ex n σ_16 (upd (upd F 7 (nI (0))) 21 (nI (((m + 4) + 4) + 4))) (s_apw (s_apw (s_apw f m a) (m + 4) b) ((m + 4) + 4) c) (((m + 4) + 4) + 4) d hc_13 hc_14 (by omega) rfl (by omega)) ?_
    rintro σ_20 ⟨hc_17, hc_18, hf_19⟩
    have hc_17 : σ_20 279 = o11 G (upd (upd F 7 (nI (0))) 21 (nI ((((m + 4) + 4) + 4) + 4))) := hc_17
    refine A_aload_n hg dX11_appendInput_41 rfl rfl ?_
    refine A_iload hg dX11_appendInput_42 rfl ?_
    refine A_vV (kc2 := 0) (ks2 := 0) (As := [.int (e)]) (rest := []) hg lk_RX11_256 in_X11_appendWord se_X11_appendWord rfl dX11_appendInput_44 ⟨by decide, by decide⟩ rfl rfl ⟨by decide, by decide⟩ hc_17 (by omega) rfl rfl (Nat.le_of_ble_eq_true rfl) (c_X11_appendWord G ex n σ_20 (upd (upd F 7 (nI (0))) 21 (nI ((((m + 4) + 4) + 4) + 4))) (s_apw (s_apw (s_apw (s_apw f m a) (m + 4) b) ((m + 4) + 4) c) (((m + 4) + 4) + 4) d) ((((m + 4) + 4) + 4) + 4) e hc_17 hc_18 (by omega) rfl (by omega)) ?_
    rintro σ_24 ⟨hc_21, hc_22, hf_23⟩
    have hc_21 : σ_24 279 = o11 G (upd (upd F 7 (nI (0))) 21 (nI (((((m + 4) + 4) + 4) + 4) + 4))) := hc_21
    refine A_aload_n hg dX11_appendInput_47 rfl rfl ?_
    refine A_getf (v := .int (nI (((((m + 4) + 4) + 4) + 4) + 4))) hg fl_RX11_253 dX11_appendInput_48 hc_21 (by omega) rfl ?_
    refine A_canon (s_apI f m a b c d e) hc_22 (fun _ _ => rfl) (fun σ_25 hc_26 hf_27 => ?_)
    have hc_28 : σ_25 279 = o11 G (upd (upd F 7 (nI (0))) 21 (nI (((((m + 4) + 4) + 4) + 4) + 4))) := (hf_27 _ (by omega)).trans hc_21
    rw [hQ]
    exact A_ireturn hg (by decide) (by decide) rfl dX11_appendInput_51 ⟨rfl, Or.inr ((⟨rfl, (by first | rfl | assumption | omega), hc_28, hc_26, (fun i hi => ((hf_27 i (by omega)).trans ((hf_23 i (by omega)).trans ((hf_19 i (by omega)).trans ((hf_15 i (by omega)).trans ((hf_11 i (by omega)).trans ((hf_7 i (by omega)).trans (hf_3 i (by omega)))))))))⟩))⟩
  · skip
    refine A_iconst (v := (q_d (0))) hg dX11_appendInput_18 (by decide) ?_
    rw [hQ]
    exact A_ireturn hg (by decide) (by decide) rfl dX11_appendInput_19 ⟨rfl, Or.inl (⟨rfl, (by first | rfl | assumption | omega), hc_2, (fun i hi => (hf_3 i (by omega)))⟩)⟩
end
