section
set_option maxRecDepth 100000 in
set_option maxHeartbeats 4000000 in
theorem c_X11_laysAllowed (G : GL) (ex : Bool) (n : Nat) (σ : Nat → va_E) (F : Nat → Int32) (g : Nat → Nat) (r : Nat) (f : Nat → Nat) (hc0 : σ 279 = o11 G F) (hc1 : σ 280 = q_an G 265 g) (hc2 : σ 285 = q_bn G 1681 f) (hn : 294 ≤ n) (hr : r < 4) (hw : s_rwf (s_rule g r)) : Ct G yX11_laysAllowed cX11_laysAllowed 3 none ⟨4, 0, 0, 93⟩ [.ref (q_h G + 279), .int (nI (r))] ex n σ (fun v9 σ2 => v9 = none ∧ ∃ (f' : Nat → Nat), (∀ q : Nat, q < 1681 → f' q = s_bo (s_A (s_rule g r) q)) ∧ σ2 285 = q_bn G 1681 f' ∧ (∀ i : Nat, i ≠ 285 → σ2 i = σ i)) := by
  refine q_enter [some (.ref (q_h G + 279)), some (.int (nI (r))), none] (by decide) (Nat.le_of_ble_eq_true rfl) rfl ?_
  intro K hg
  obtain ⟨Q, hQ⟩ : ∃ Q, Q = q_Q G K ex n 0 0 (fun v9 n' σ' => n' = n ∧ (fun v9 σ2 => v9 = none ∧ ∃ (f' : Nat → Nat), (∀ q : Nat, q < 1681 → f' q = s_bo (s_A (s_rule g r) q)) ∧ σ2 285 = q_bn G 1681 f' ∧ (∀ i : Nat, i ≠ 285 → σ2 i = σ i)) v9 σ') q_noX := ⟨_, rfl⟩
  refine (?_ : AJ G K (q_Q G K ex n 0 0 _ _) 0 0 ex n 0 _ _ σ)
  rw [← hQ]
  refine A_iconst (v := (nI (0))) hg dX11_laysAllowed_0 (by decide) ?_
  refine A_istore_n hg dX11_laysAllowed_1 rfl (by decide) (q_c1d rfl) ?_
  refine A_eq (ls2 := [some (.ref (q_h G + 279)), some (.int (nI (r))), some (.int (nI (0)))]) (st2 := []) (pc2 := 0) rfl rfl ?_
  have hL2 : ∀ (fu : Nat) (p : Nat) (f1 : Nat → Nat) (σ_1 : Nat → va_E), (σ_1 279 = o11 G F) → (σ_1 280 = q_an G 265 g) → (σ_1 285 = q_bn G 1681 f1) → (∀ i : Nat, i ≠ 285 → σ_1 i = σ i) → (p ≤ 1681) → (∀ j : Nat, j < p → f1 j = s_bo (s_A (s_rule g r) j)) → (1681 - p) < fu → AJ G K Q 0 0 ex n 2 [some (.ref (q_h G + 279)), some (.int (nI (r))), some (.int (nI (p)))] [] σ_1 := by
    intro fu
    induction fu with
    | zero => intro p f1 σ_1 hc_2 hc_3 hc_4 hf_5 hp hf hm; exact absurd hm (Nat.not_lt_zero _)
    | succ fu ih2 =>
      intro p f1 σ_1 hc_2 hc_3 hc_4 hf_5 hp hf hm2
      refine A_iload_n hg dX11_laysAllowed_2 rfl rfl ?_
      refine A_sipush (v := (nI (1681))) hg dX11_laysAllowed_3 (by decide) ?_
      refine A_icmp_geN (tgt := 34) hg dX11_laysAllowed_6 (by omega) (by decide) (by decide) (fun c6 => ?_) (fun c6 => ?_)
      · skip
        rw [hQ]
        exact A_return hg (by decide) (by decide) rfl dX11_laysAllowed_34 ⟨rfl, ⟨rfl, f1, (fun q hq => hf q (by omega)), hc_4, (fun i hi => (hf_5 i (by omega)))⟩⟩
      · skip
        refine A_aload_n hg dX11_laysAllowed_9 rfl rfl ?_
        refine A_getf (v := .ref (q_h G + 285)) hg fl_RX11_25 dX11_laysAllowed_10 hc_2 (by omega) rfl ?_
        refine A_iload_n hg dX11_laysAllowed_13 rfl rfl ?_
        refine A_aload_n hg dX11_laysAllowed_14 rfl rfl ?_
        refine A_iload_n hg dX11_laysAllowed_15 rfl rfl ?_
        refine A_iload_n hg dX11_laysAllowed_16 rfl rfl ?_
        refine A_bipush (v := (nI (41))) hg dX11_laysAllowed_17 (by decide) ?_
        refine A_idivN hg dX11_laysAllowed_19 (by omega) (by decide) (by decide) ?_
        refine A_iload_n hg dX11_laysAllowed_20 rfl rfl ?_
        refine A_bipush (v := (nI (41))) hg dX11_laysAllowed_21 (by decide) ?_
        refine A_iremN hg dX11_laysAllowed_23 (by omega) (by decide) (by decide) ?_
        refine A_eV (kc2 := 0) (ks2 := 0) (As := [.int (nI (r)), .int (nI (p / 41)), .int (nI (p % 41))]) (rest := [.int (nI (p)), .ref (q_h G + 285)]) hg lk_RX11_109 in_X11_allowsMove se_X11_allowsMove rfl dX11_laysAllowed_24 ⟨by decide, by decide⟩ rfl rfl ⟨by decide, by decide⟩ hc_2 (by omega) rfl rfl (Nat.le_of_ble_eq_true rfl) (c_X11_allowsMove G ex n σ_1 F g r (p / 41) (p % 41) hc_2 hc_3 (by omega) (by omega) (by omega) (by omega) (by omega)) ?_
        refine A_top (w := .int (nI (if (s_al (s_rule g r) (p / 41) (p % 41)) = true then 1 else 0))) (congrArg Value.int (q_bN _)) ?_
        refine A_bast (j := p) (x := (if (s_al (s_rule g r) (p / 41) (p % 41)) = true then 1 else 0)) hg dX11_laysAllowed_27 hc_4 (by omega) (by omega) (by decide) (by split <;> decide) (fun σ_6 hc_7 hf_8 => ?_)
        have hc_9 : σ_6 279 = o11 G F := (hf_8 _ (by omega)).trans hc_2
        have hc_10 : σ_6 280 = q_an G 265 g := (hf_8 _ (by omega)).trans hc_3
        refine A_iincN (k' := 1) hg dX11_laysAllowed_28 (by decide) rfl (by decide) (q_c1d rfl) ?_
        refine A_eq (ls2 := [some (.ref (q_h G + 279)), some (.int (nI (r))), some (.int (nI (p + 1)))]) (st2 := []) (pc2 := 0) rfl rfl ?_
        refine A_goto (tgt := 2) hg dX11_laysAllowed_31 (by decide) ?_
        exact ih2 (p + 1) (va_up f1 p (if (s_al (s_rule g r) (p / 41) (p % 41)) = true then 1 else 0)) σ_6 hc_9 hc_10 hc_7 (fun i hi => ((hf_8 i (by omega)).trans (hf_5 i (by omega)))) (by omega) (q_fill hf rfl) (by omega)
  exact hL2 _ 0 f σ hc0 hc1 hc2 (fun _ _ => rfl) (Nat.zero_le _) (fun j h => absurd h (Nat.not_lt_zero j)) (Nat.lt_succ_self _)
set_option maxRecDepth 100000 in
set_option maxHeartbeats 4000000 in
theorem c_X11_marksMoves (G : GL) (ex : Bool) (n : Nat) (σ : Nat → va_E) (F : Nat → Int32) (A : Nat → Bool) (f : Nat → Nat) (nv : Nat → Nat) (mk : Nat → Nat) (x : Nat) (y : Nat) (mc : Nat) (hc0 : σ 279 = o11 G F) (hc1 : σ 285 = q_bn G 1681 f) (hc2 : σ 286 = q_an G 1681 nv) (hc3 : σ 288 = q_an G 2000 mk) (hn : 294 ≤ n) (hx : x ≤ 40) (hy : y ≤ 40) (hF12 : F 12 = nI mc) (hmc : mc + 1 < 2 ^ 31) (hA : ∀ q : Nat, q < 1681 → f q = s_bo (A q)) (hA0 : A 0 = false) (hnv : ∀ j : Nat, j < 41 * x + y → nv j < 2000) (hmk : ∀ v : Nat, v < 2000 → mk v ≤ mc) : Ct G yX11_marksMoves cX11_marksMoves 5 none ⟨0, 0, 0, 0⟩ [.ref (q_h G + 279), .int (nI (x)), .int (nI (y))] ex n σ (fun v9 σ2 => v9 = none ∧ ∃ (mk' : Nat → Nat), (s_mkd A nv (41 * x + y) 1681 (mc + 1) mk') ∧ σ2 279 = o11 G (upd F 12 (nI (mc + 1))) ∧ σ2 288 = q_an G 2000 mk' ∧ (∀ i : Nat, i ≠ 279 ∧ i ≠ 288 → σ2 i = σ i)) := by
  refine q_enter [some (.ref (q_h G + 279)), some (.int (nI (x))), some (.int (nI (y))), none, none] (by decide) (Nat.le_of_ble_eq_true rfl) rfl ?_
  intro K hg
  obtain ⟨Q, hQ⟩ : ∃ Q, Q = q_Q G K ex n 0 0 (fun v9 n' σ' => n' = n ∧ (fun v9 σ2 => v9 = none ∧ ∃ (mk' : Nat → Nat), (s_mkd A nv (41 * x + y) 1681 (mc + 1) mk') ∧ σ2 279 = o11 G (upd F 12 (nI (mc + 1))) ∧ σ2 288 = q_an G 2000 mk' ∧ (∀ i : Nat, i ≠ 279 ∧ i ≠ 288 → σ2 i = σ i)) v9 σ') q_noX := ⟨_, rfl⟩
  refine (?_ : AJ G K (q_Q G K ex n 0 0 _ _) 0 0 ex n 0 _ _ σ)
  rw [← hQ]
  refine A_aload_n hg dX11_marksMoves_0 rfl rfl ?_
  refine A_dup hg dX11_marksMoves_1 rfl ?_
  refine A_getf (v := .int (nI (mc))) hg fl_RX11_112 dX11_marksMoves_2 hc0 (by omega) (congrArg (fun z => some (Value.int z)) hF12) ?_
  refine A_iconst (v := (nI (1))) hg dX11_marksMoves_5 (by decide) ?_
  refine A_iaddN hg dX11_marksMoves_6 ?_
  refine A_putf hg fl_RX11_112 dX11_marksMoves_7 hc0 (by omega) (Nat.le_of_ble_eq_true rfl) rfl rfl rfl (fun σ_1 hc_2 hf_3 => ?_)
  have hc_2 : σ_1 279 = o11 G (upd F 12 (nI (mc + 1))) := hc_2
  have hc_4 : σ_1 285 = q_bn G 1681 f := (hf_3 _ (by omega)).trans hc1
  have hc_5 : σ_1 286 = q_an G 1681 nv := (hf_3 _ (by omega)).trans hc2
  have hc_6 : σ_1 288 = q_an G 2000 mk := (hf_3 _ (by omega)).trans hc3
  refine A_iconst (v := (nI (0))) hg dX11_marksMoves_10 (by decide) ?_
  refine A_istore_n hg dX11_marksMoves_11 rfl (by decide) (q_c1d rfl) ?_
  refine A_eq (ls2 := [some (.ref (q_h G + 279)), some (.int (nI (x))), some (.int (nI (y))), some (.int (nI (0))), none]) (st2 := []) (pc2 := 0) rfl rfl ?_
  have hL12 : ∀ (fu : Nat) (k : Nat) (mk1 : Nat → Nat) (σ_7 : Nat → va_E), (σ_7 285 = q_bn G 1681 f) → (σ_7 286 = q_an G 1681 nv) → (σ_7 288 = q_an G 2000 mk1) → (σ_7 279 = o11 G (upd F 12 (nI (mc + 1)))) → (∀ i : Nat, i ≠ 279 ∧ i ≠ 288 → σ_7 i = σ i) → (k ≤ x + 1) → (s_mkd A nv (41 * x + y) (41 * k) (mc + 1) mk1) → (x + 1 - k) < fu → AJ G K Q 0 0 ex n 12 [some (.ref (q_h G + 279)), some (.int (nI (x))), some (.int (nI (y))), some (.int (nI (k))), none] [] σ_7 := by
    intro fu
    induction fu with
    | zero => intro k mk1 σ_7 hc_8 hc_9 hc_10 hc_11 hf_12 hk hm1 hm; exact absurd hm (Nat.not_lt_zero _)
    | succ fu ih12 =>
      intro k mk1 σ_7 hc_8 hc_9 hc_10 hc_11 hf_12 hk hm1 hm12
      refine A_iload_n hg dX11_marksMoves_12 rfl rfl ?_
      refine A_iload_n hg dX11_marksMoves_13 rfl rfl ?_
      refine A_icmp_gtN (tgt := 78) hg dX11_marksMoves_14 (by omega) (by omega) (by decide) (fun c14 => ?_) (fun c14 => ?_)
      · skip
        rw [hQ]
        exact A_return hg (by decide) (by decide) rfl dX11_marksMoves_78 ⟨rfl, ⟨rfl, mk1, (q_mk_skip hm1 (by omega) (fun q h1 h2 => q_end_gap hy (by omega))), hc_11, hc_10, (fun i hi => (hf_12 i (by omega)))⟩⟩
      · skip
        refine A_iconst (v := (nI (0))) hg dX11_marksMoves_17 (by decide) ?_
        refine A_istore hg dX11_marksMoves_18 (by decide) (q_c1d rfl) ?_
        refine A_eq (ls2 := [some (.ref (q_h G + 279)), some (.int (nI (x))), some (.int (nI (y))), some (.int (nI (k))), some (.int (nI (0)))]) (st2 := []) (pc2 := 0) rfl rfl ?_
        have hL20 : ∀ (fu : Nat) (l : Nat) (mk2 : Nat → Nat) (σ_13 : Nat → va_E), (σ_13 285 = q_bn G 1681 f) → (σ_13 286 = q_an G 1681 nv) → (σ_13 288 = q_an G 2000 mk2) → (σ_13 279 = o11 G (upd F 12 (nI (mc + 1)))) → (∀ i : Nat, i ≠ 279 ∧ i ≠ 288 → σ_13 i = σ i) → (l ≤ y + 1) → (s_mkd A nv (41 * x + y) (41 * k + l) (mc + 1) mk2) → (y + 1 - l) < fu → AJ G K Q 0 0 ex n 20 [some (.ref (q_h G + 279)), some (.int (nI (x))), some (.int (nI (y))), some (.int (nI (k))), some (.int (nI (l)))] [] σ_13 := by
          intro fu
          induction fu with
          | zero => intro l mk2 σ_13 hc_14 hc_15 hc_16 hc_17 hf_18 hl hm2 hm; exact absurd hm (Nat.not_lt_zero _)
          | succ fu ih20 =>
            intro l mk2 σ_13 hc_14 hc_15 hc_16 hc_17 hf_18 hl hm2 hm20
            refine A_iload hg dX11_marksMoves_20 rfl ?_
            refine A_iload_n hg dX11_marksMoves_22 rfl rfl ?_
            refine A_icmp_gtN (tgt := 72) hg dX11_marksMoves_23 (by omega) (by omega) (by decide) (fun c23 => ?_) (fun c23 => ?_)
            · skip
              refine A_iincN (k' := 1) hg dX11_marksMoves_72 (by decide) rfl (by decide) (q_c1d rfl) ?_
              refine A_eq (ls2 := [some (.ref (q_h G + 279)), some (.int (nI (x))), some (.int (nI (y))), some (.int (nI (k + 1))), some (.int (nI (l)))]) (st2 := []) (pc2 := 0) rfl rfl ?_
              refine A_goto (tgt := 12) hg dX11_marksMoves_75 (by decide) ?_
              refine A_drop 4 ?_
              exact ih12 (k + 1) mk2 σ_13 hc_14 hc_15 hc_16 hc_17 (fun i hi => (hf_18 i (by omega))) (by omega) (q_mk_skip hm2 (by omega) (fun q h1 h2 => q_row_gap (k := k) hy (by omega) (by omega))) (by omega)
            · skip
              have hAk := hA (41 * k + l) (by omega)
              have hAb : f (41 * k + l) < 2 ^ 31 := by rw [hAk]; unfold s_bo; split <;> decide
              refine A_aload_n hg dX11_marksMoves_26 rfl rfl ?_
              refine A_getf (v := .ref (q_h G + 285)) hg fl_RX11_25 dX11_marksMoves_27 hc_17 (by omega) rfl ?_
              refine A_bipush (v := (nI (41))) hg dX11_marksMoves_30 (by decide) ?_
              refine A_iload_n hg dX11_marksMoves_32 rfl rfl ?_
              refine A_imulN hg dX11_marksMoves_33 ?_
              refine A_iload hg dX11_marksMoves_34 rfl ?_
              refine A_iaddN hg dX11_marksMoves_36 ?_
              refine A_bald (j := ((41 * k) + l)) hg dX11_marksMoves_37 hc_14 (by omega) (by omega) (by decide) ?_
              refine A_top (w := .int (nI (s_bo (A (41 * k + l))))) (by rw [hAk]) ?_
              refine A_if_eqN (tgt := 66) hg dX11_marksMoves_38 (by rw [← hAk]; exact hAb) (by decide) (fun c38 => ?_) (fun c38 => ?_)
              · skip
                refine A_iincN (k' := 1) hg dX11_marksMoves_66 (by decide) rfl (by decide) (q_c1d rfl) ?_
                refine A_eq (ls2 := [some (.ref (q_h G + 279)), some (.int (nI (x))), some (.int (nI (y))), some (.int (nI (k))), some (.int (nI (l + 1)))]) (st2 := []) (pc2 := 0) rfl rfl ?_
                refine A_goto (tgt := 20) hg dX11_marksMoves_69 (by decide) ?_
                exact ih20 (l + 1) mk2 σ_13 hc_14 hc_15 hc_16 hc_17 (fun i hi => (hf_18 i (by omega))) (by omega) (q_mk_skip hm2 (by omega) (fun q h1 h2 => by rw [show q = 41 * k + l by omega]; exact q_mv_f hy (by omega) (s_bo_0.mp c38))) (by omega)
              · skip
                have hq0 : 0 < 41 * k + l := by
                  rcases Nat.eq_zero_or_pos (41 * k + l) with e | e
                  · exfalso; rw [e, hA0] at c38; exact c38 rfl
                  · exact e
                have hnv1 := hnv (41 * (x - k) + y - l) (by omega)
                refine A_aload_n hg dX11_marksMoves_41 rfl rfl ?_
                refine A_getf (v := .ref (q_h G + 288)) hg fl_RX11_35 dX11_marksMoves_42 hc_17 (by omega) rfl ?_
                refine A_aload_n hg dX11_marksMoves_45 rfl rfl ?_
                refine A_getf (v := .ref (q_h G + 286)) hg fl_RX11_29 dX11_marksMoves_46 hc_17 (by omega) rfl ?_
                refine A_bipush (v := (nI (41))) hg dX11_marksMoves_49 (by decide) ?_
                refine A_iload_n hg dX11_marksMoves_51 rfl rfl ?_
                refine A_iload_n hg dX11_marksMoves_52 rfl rfl ?_
                refine A_isubN hg dX11_marksMoves_53 (by omega) ?_
                refine A_imulN hg dX11_marksMoves_54 ?_
                refine A_iload_n hg dX11_marksMoves_55 rfl rfl ?_
                refine A_iaddN hg dX11_marksMoves_56 ?_
                refine A_iload hg dX11_marksMoves_57 rfl ?_
                refine A_isubN hg dX11_marksMoves_59 (by omega) ?_
                refine A_iald (j := (((41 * (x - k)) + y) - l)) hg dX11_marksMoves_60 hc_15 (by omega) (by omega) (by decide) ?_
                refine A_aload_n hg dX11_marksMoves_61 rfl rfl ?_
                refine A_getf (v := .int (nI (mc + 1))) hg fl_RX11_112 dX11_marksMoves_62 hc_17 (by omega) rfl ?_
                refine A_iast (j := (nv (((41 * (x - k)) + y) - l))) (x := (mc + 1)) hg dX11_marksMoves_65 hc_16 (by omega) (by omega) (by decide) (fun σ_19 hc_20 hf_21 => ?_)
                have hc_22 : σ_19 285 = q_bn G 1681 f := (hf_21 _ (by omega)).trans hc_14
                have hc_23 : σ_19 286 = q_an G 1681 nv := (hf_21 _ (by omega)).trans hc_15
                have hc_24 : σ_19 279 = o11 G (upd F 12 (nI (mc + 1))) := (hf_21 _ (by omega)).trans hc_17
                refine A_iincN (k' := 1) hg dX11_marksMoves_66 (by decide) rfl (by decide) (q_c1d rfl) ?_
                refine A_eq (ls2 := [some (.ref (q_h G + 279)), some (.int (nI (x))), some (.int (nI (y))), some (.int (nI (k))), some (.int (nI (l + 1)))]) (st2 := []) (pc2 := 0) rfl rfl ?_
                refine A_goto (tgt := 20) hg dX11_marksMoves_69 (by decide) ?_
                exact ih20 (l + 1) (va_up mk2 (nv (((41 * (x - k)) + y) - l)) (mc + 1)) σ_19 hc_22 hc_23 hc_20 hc_24 (fun i hi => ((hf_21 i (by omega)).trans (hf_18 i (by omega)))) (by omega) (q_mk_step (m := 41 * k + l) hm2 (q_mv_t hy (by omega) (by omega) (s_bo_n c38)) (congrArg nv (by omega))) (by omega)
        exact hL20 _ 0 mk1 σ_7 hc_8 hc_9 hc_10 hc_11 (fun i hi => (hf_12 i (by omega))) (Nat.zero_le _) hm1 (Nat.lt_succ_self _)
  exact hL12 _ 0 mk σ_1 hc_4 hc_5 hc_6 hc_2 (fun i hi => (hf_3 i (by omega))) (Nat.zero_le _) (q_mk_0 hmk) (Nat.lt_succ_self _)
set_option maxRecDepth 100000 in
set_option maxHeartbeats 4000000 in
theorem c_X11_leastUnmarked (G : GL) (ex : Bool) (n : Nat) (σ : Nat → va_E) (F : Nat → Int32) (mk : Nat → Nat) (mc : Nat) (P : Nat → Bool) (w : Nat) (m : Nat) (hc0 : σ 279 = o11 G F) (hc1 : σ 288 = q_an G 2000 mk) (hn : 294 ≤ n) (hF12 : F 12 = nI mc) (hmc : mc < 2 ^ 31) (hm : ∀ v : Nat, v < 2000 → mk v ≤ mc ∧ (mk v = mc ↔ P v = true)) (hwm : w < m ∧ m ≤ 2000) (hPw : P w = false) : Ct G yX11_leastUnmarked cX11_leastUnmarked 2 (some .int) ⟨0, 0, 0, 0⟩ [.ref (q_h G + 279)] ex n σ (fun v9 σ2 => σ2 = σ ∧ v9 = some (.int (nI (s_first (fun v => !(P v)) m)))) := by
  refine q_enter [some (.ref (q_h G + 279)), none] (by decide) (Nat.le_of_ble_eq_true rfl) rfl ?_
  intro K hg
  obtain ⟨Q, hQ⟩ : ∃ Q, Q = q_Q G K ex n 0 0 (fun v9 n' σ' => n' = n ∧ (fun v9 σ2 => σ2 = σ ∧ v9 = some (.int (nI (s_first (fun v => !(P v)) m)))) v9 σ') q_noX := ⟨_, rfl⟩
  refine (?_ : AJ G K (q_Q G K ex n 0 0 _ _) 0 0 ex n 0 _ _ σ)
  rw [← hQ]
  refine A_iconst (v := (nI (0))) hg dX11_leastUnmarked_0 (by decide) ?_
  refine A_istore_n hg dX11_leastUnmarked_1 rfl (by decide) (q_c1d rfl) ?_
  refine A_eq (ls2 := [some (.ref (q_h G + 279)), some (.int (nI (0)))]) (st2 := []) (pc2 := 0) rfl rfl ?_
  have hL2 : ∀ (fu : Nat) (v : Nat), (v ≤ w) → (∀ j : Nat, j < v → P j = true) → (w + 1 - v) < fu → AJ G K Q 0 0 ex n 2 [some (.ref (q_h G + 279)), some (.int (nI (v)))] [] σ := by
    intro fu
    induction fu with
    | zero => intro v hv hno hm; exact absurd hm (Nat.not_lt_zero _)
    | succ fu ih2 =>
      intro v hv hno hm2
      have hmv := hm v (by omega)
      refine A_aload_n hg dX11_leastUnmarked_2 rfl rfl ?_
      refine A_getf (v := .ref (q_h G + 288)) hg fl_RX11_35 dX11_leastUnmarked_3 hc0 (by omega) rfl ?_
      refine A_iload_n hg dX11_leastUnmarked_6 rfl rfl ?_
      refine A_iald (j := v) hg dX11_leastUnmarked_7 hc1 (by omega) (by omega) (by decide) ?_
      refine A_aload_n hg dX11_leastUnmarked_8 rfl rfl ?_
      refine A_getf (v := .int (nI (mc))) hg fl_RX11_112 dX11_leastUnmarked_9 hc0 (by omega) (congrArg (fun z => some (Value.int z)) hF12) ?_
      refine A_icmp_neN (tgt := 21) hg dX11_leastUnmarked_12 (by omega) (by omega) (by decide) (fun c12 => ?_) (fun c12 => ?_)
      · skip
        refine A_iload_n hg dX11_leastUnmarked_21 rfl rfl ?_
        rw [hQ]
        exact A_ireturn hg (by decide) (by decide) rfl dX11_leastUnmarked_22 ⟨rfl, ⟨rfl, (by rw [s_first_eq (k := v) (by omega) (by cases h : P v with | false => rfl | true => exact absurd (hmv.2.mpr h) c12) (fun j hj => by rw [hno j hj]; rfl)])⟩⟩
      · skip
        have hvw : v < w := by
          rcases Nat.lt_or_ge v w with e | e
          · exact e
          · have h1 := hmv.2.mp c12
            rw [show v = w by omega, hPw] at h1; cases h1
        refine A_iincN (k' := 1) hg dX11_leastUnmarked_15 (by decide) rfl (by decide) (q_c1d rfl) ?_
        refine A_eq (ls2 := [some (.ref (q_h G + 279)), some (.int (nI (v + 1)))]) (st2 := []) (pc2 := 0) rfl rfl ?_
        refine A_goto (tgt := 2) hg dX11_leastUnmarked_18 (by decide) ?_
        exact ih2 (v + 1) (by omega) (lt_s hno (hmv.2.mp c12)) (by omega)
  exact hL2 _ 0 (Nat.zero_le _) (fun j h => absurd h (Nat.not_lt_zero j)) (Nat.lt_succ_self _)
set_option maxRecDepth 100000 in
set_option maxHeartbeats 4000000 in
theorem c_X11_laysValues (G : GL) (ex : Bool) (n : Nat) (σ : Nat → va_E) (F : Nat → Int32) (A : Nat → Bool) (f : Nat → Nat) (nv : Nat → Nat) (mk : Nat → Nat) (mc : Nat) (hc0 : σ 279 = o11 G F) (hc1 : σ 285 = q_bn G 1681 f) (hc2 : σ 286 = q_an G 1681 nv) (hc3 : σ 288 = q_an G 2000 mk) (hn : 294 ≤ n) (hF12 : F 12 = nI mc) (hmc : mc + 1681 < 2 ^ 31) (hA : ∀ q : Nat, q < 1681 → f q = s_bo (A q)) (hA0 : A 0 = false) (hmk : ∀ v : Nat, v < 2000 → mk v ≤ mc) : Ct G yX11_laysValues cX11_laysValues 3 none ⟨1, 0, 0, 24⟩ [.ref (q_h G + 279)] ex n σ (fun v9 σ2 => v9 = none ∧ ∃ (nv' : Nat → Nat), ∃ (mk' : Nat → Nat), (∀ j : Nat, j < 1681 → nv' j = s_val A j) ∧ (∀ v : Nat, v < 2000 → mk' v ≤ mc + 1681) ∧ σ2 279 = o11 G (upd F 12 (nI (mc + 1681))) ∧ σ2 286 = q_an G 1681 nv' ∧ σ2 288 = q_an G 2000 mk' ∧ (∀ i : Nat, i ≠ 279 ∧ i ≠ 286 ∧ i ≠ 288 → σ2 i = σ i)) := by
  refine q_enter [some (.ref (q_h G + 279)), none, none] (by decide) (Nat.le_of_ble_eq_true rfl) rfl ?_
  intro K hg
  obtain ⟨Q, hQ⟩ : ∃ Q, Q = q_Q G K ex n 0 0 (fun v9 n' σ' => n' = n ∧ (fun v9 σ2 => v9 = none ∧ ∃ (nv' : Nat → Nat), ∃ (mk' : Nat → Nat), (∀ j : Nat, j < 1681 → nv' j = s_val A j) ∧ (∀ v : Nat, v < 2000 → mk' v ≤ mc + 1681) ∧ σ2 279 = o11 G (upd F 12 (nI (mc + 1681))) ∧ σ2 286 = q_an G 1681 nv' ∧ σ2 288 = q_an G 2000 mk' ∧ (∀ i : Nat, i ≠ 279 ∧ i ≠ 286 ∧ i ≠ 288 → σ2 i = σ i)) v9 σ') q_noX := ⟨_, rfl⟩
  refine (?_ : AJ G K (q_Q G K ex n 0 0 _ _) 0 0 ex n 0 _ _ σ)
  rw [← hQ]
  refine A_iconst (v := (nI (0))) hg dX11_laysValues_0 (by decide) ?_
  refine A_istore_n hg dX11_laysValues_1 rfl (by decide) (q_c1d rfl) ?_
  refine A_eq (ls2 := [some (.ref (q_h G + 279)), some (.int (nI (0))), none]) (st2 := []) (pc2 := 0) rfl rfl ?_
  have hL2 : ∀ (fu : Nat) (x : Nat) (nv1 : Nat → Nat) (mk1 : Nat → Nat) (m1 : Nat) (σ_1 : Nat → va_E), (σ_1 279 = o11 G (upd F 12 (nI (m1)))) → (σ_1 285 = q_bn G 1681 f) → (σ_1 286 = q_an G 1681 nv1) → (σ_1 288 = q_an G 2000 mk1) → (∀ i : Nat, i ≠ 279 ∧ i ≠ 286 ∧ i ≠ 288 → σ_1 i = σ i) → (x ≤ 41) → (m1 = mc + 41 * x) → (∀ j : Nat, j < 41 * x → nv1 j = s_val A j) → (∀ v : Nat, v < 2000 → mk1 v ≤ m1) → (41 - x) < fu → AJ G K Q 0 0 ex n 2 [some (.ref (q_h G + 279)), some (.int (nI (x))), none] [] σ_1 := by
    intro fu
    induction fu with
    | zero => intro x nv1 mk1 m1 σ_1 hc_2 hc_3 hc_4 hc_5 hf_6 hx hm1 hv1 hk1 hm; exact absurd hm (Nat.not_lt_zero _)
    | succ fu ih2 =>
      intro x nv1 mk1 m1 σ_1 hc_2 hc_3 hc_4 hc_5 hf_6 hx hm1 hv1 hk1 hm2
      refine A_iload_n hg dX11_laysValues_2 rfl rfl ?_
      refine A_bipush (v := (nI (40))) hg dX11_laysValues_3 (by decide) ?_
      refine A_icmp_gtN (tgt := 49) hg dX11_laysValues_5 (by omega) (by decide) (by decide) (fun c5 => ?_) (fun c5 => ?_)
      · skip
        have hz : σ_1 279 = o11 G (upd F 12 (nI (mc + 1681))) := by
          rw [← (show m1 = mc + 1681 by omega)]; exact hc_2
        rw [hQ]
        exact A_return hg (by decide) (by decide) rfl dX11_laysValues_49 ⟨rfl, ⟨rfl, nv1, mk1, (fun j hj => hv1 j (by omega)), (fun v hv => by have := hk1 v hv; omega), hz, hc_4, hc_5, (fun i hi => (hf_6 i (by omega)))⟩⟩
      · skip
        refine A_iconst (v := (nI (0))) hg dX11_laysValues_8 (by decide) ?_
        refine A_istore_n hg dX11_laysValues_9 rfl (by decide) (q_c1d rfl) ?_
        refine A_eq (ls2 := [some (.ref (q_h G + 279)), some (.int (nI (x))), some (.int (nI (0)))]) (st2 := []) (pc2 := 0) rfl rfl ?_
        have hL10 : ∀ (fu : Nat) (y : Nat) (nv2 : Nat → Nat) (mk2 : Nat → Nat) (m2 : Nat) (σ_7 : Nat → va_E), (σ_7 279 = o11 G (upd F 12 (nI (m2)))) → (σ_7 285 = q_bn G 1681 f) → (σ_7 286 = q_an G 1681 nv2) → (σ_7 288 = q_an G 2000 mk2) → (∀ i : Nat, i ≠ 279 ∧ i ≠ 286 ∧ i ≠ 288 → σ_7 i = σ i) → (y ≤ 41) → (m2 = mc + 41 * x + y) → (∀ j : Nat, j < 41 * x + y → nv2 j = s_val A j) → (∀ v : Nat, v < 2000 → mk2 v ≤ m2) → (41 - y) < fu → AJ G K Q 0 0 ex n 10 [some (.ref (q_h G + 279)), some (.int (nI (x))), some (.int (nI (y)))] [] σ_7 := by
          intro fu
          induction fu with
          | zero => intro y nv2 mk2 m2 σ_7 hc_8 hc_9 hc_10 hc_11 hf_12 hy hm2 hv2 hk2 hm; exact absurd hm (Nat.not_lt_zero _)
          | succ fu ih10 =>
            intro y nv2 mk2 m2 σ_7 hc_8 hc_9 hc_10 hc_11 hf_12 hy hm2 hv2 hk2 hm10
            refine A_iload_n hg dX11_laysValues_10 rfl rfl ?_
            refine A_bipush (v := (nI (40))) hg dX11_laysValues_11 (by decide) ?_
            refine A_icmp_gtN (tgt := 43) hg dX11_laysValues_13 (by omega) (by decide) (by decide) (fun c13 => ?_) (fun c13 => ?_)
            · skip
              refine A_iincN (k' := 1) hg dX11_laysValues_43 (by decide) rfl (by decide) (q_c1d rfl) ?_
              refine A_eq (ls2 := [some (.ref (q_h G + 279)), some (.int (nI (x + 1))), some (.int (nI (y)))]) (st2 := []) (pc2 := 0) rfl rfl ?_
              refine A_goto (tgt := 2) hg dX11_laysValues_46 (by decide) ?_
              refine A_drop 2 ?_
              exact ih2 (x + 1) nv2 mk2 m2 σ_7 hc_8 hc_9 hc_10 hc_11 (fun i hi => (hf_12 i (by omega))) (by omega) (by omega) (fun j hj => hv2 j (by omega)) hk2 (by omega)
            · skip
              have hmx : s_mex A nv2 (41 * x + y) = s_val A (41 * x + y) := s_mex_eq hA0 hv2
              refine A_aload_n hg dX11_laysValues_16 rfl rfl ?_
              refine A_iload_n hg dX11_laysValues_17 rfl rfl ?_
              refine A_iload_n hg dX11_laysValues_18 rfl rfl ?_
              refine A_vV (kc2 := 0) (ks2 := 0) (As := [.int (nI (x)), .int (nI (y))]) (rest := []) hg lk_RX11_115 in_X11_marksMoves se_X11_marksMoves rfl dX11_laysValues_19 ⟨by decide, by decide⟩ rfl rfl ⟨by decide, by decide⟩ hc_8 (by omega) rfl rfl (Nat.le_of_ble_eq_true rfl) (c_X11_marksMoves G ex n σ_7 (upd F 12 (nI (m2))) A f nv2 mk2 x y m2 hc_8 hc_9 hc_10 hc_11 (by omega) (by omega) (by omega) rfl (by omega) hA hA0 (fun j hj => by rw [hv2 j hj]; have := s_val_le hA0 j (by omega); omega) hk2) ?_
              rintro σ_16 ⟨mk3, hmm, hc_13, hc_14, hf_15⟩
              have hc_13 : σ_16 279 = o11 G (upd F 12 (nI (m2 + 1))) := hc_13
              have hc_17 : σ_16 285 = q_bn G 1681 f := (hf_15 _ (by omega)).trans hc_9
              have hc_18 : σ_16 286 = q_an G 1681 nv2 := (hf_15 _ (by omega)).trans hc_10
              refine A_aload_n hg dX11_laysValues_22 rfl rfl ?_
              refine A_getf (v := .ref (q_h G + 286)) hg fl_RX11_29 dX11_laysValues_23 hc_13 (by omega) rfl ?_
              refine A_bipush (v := (nI (41))) hg dX11_laysValues_26 (by decide) ?_
              refine A_iload_n hg dX11_laysValues_28 rfl rfl ?_
              refine A_imulN hg dX11_laysValues_29 ?_
              refine A_iload_n hg dX11_laysValues_30 rfl rfl ?_
              refine A_iaddN hg dX11_laysValues_31 ?_
              refine A_aload_n hg dX11_laysValues_32 rfl rfl ?_
              refine A_eV (kc2 := 0) (ks2 := 0) (As := []) (rest := [.int (nI ((41 * x) + y)), .ref (q_h G + 286)]) hg lk_RX11_119 in_X11_leastUnmarked se_X11_leastUnmarked rfl dX11_laysValues_33 ⟨by decide, by decide⟩ rfl rfl ⟨by decide, by decide⟩ hc_13 (by omega) rfl rfl (Nat.le_of_ble_eq_true rfl) (c_X11_leastUnmarked G ex n σ_16 (upd F 12 (nI (m2 + 1))) mk3 (m2 + 1) (s_rch A nv2 (41 * x + y) 1681) (s_mex A nv2 (41 * x + y)) 1681 hc_13 hc_14 (by omega) rfl (by omega) hmm (⟨by rw [hmx]; have := s_val_le hA0 (41 * x + y) (by omega); omega, by decide⟩) (by have h := s_first_yes (fun v => !(s_rch A nv2 (41 * x + y) 1681 v)) 1681 (by show s_mex A nv2 (41 * x + y) < 1681; rw [hmx]; have := s_val_le hA0 (41 * x + y) (by omega); omega); show s_rch A nv2 (41 * x + y) 1681 (s_first (fun v => !(s_rch A nv2 (41 * x + y) 1681 v)) 1681) = false; simpa using h)) ?_
              refine A_iast (j := ((41 * x) + y)) (x := (s_first (fun v => !((s_rch A nv2 (41 * x + y) 1681) v)) 1681)) hg dX11_laysValues_36 hc_18 (by omega) (by omega) (by decide) (fun σ_19 hc_20 hf_21 => ?_)
              have hc_22 : σ_19 285 = q_bn G 1681 f := (hf_21 _ (by omega)).trans hc_17
              have hc_23 : σ_19 279 = o11 G (upd F 12 (nI (m2 + 1))) := (hf_21 _ (by omega)).trans hc_13
              have hc_24 : σ_19 288 = q_an G 2000 mk3 := (hf_21 _ (by omega)).trans hc_14
              refine A_iincN (k' := 1) hg dX11_laysValues_37 (by decide) rfl (by decide) (q_c1d rfl) ?_
              refine A_eq (ls2 := [some (.ref (q_h G + 279)), some (.int (nI (x))), some (.int (nI (y + 1)))]) (st2 := []) (pc2 := 0) rfl rfl ?_
              refine A_goto (tgt := 10) hg dX11_laysValues_40 (by decide) ?_
              exact ih10 (y + 1) (va_up nv2 ((41 * x) + y) (s_first (fun v => !((s_rch A nv2 (41 * x + y) 1681) v)) 1681)) mk3 (m2 + 1) σ_19 hc_23 hc_22 hc_20 hc_24 (fun i hi => ((hf_21 i (by omega)).trans ((hf_15 i (by omega)).trans (hf_12 i (by omega))))) (by omega) (by omega) (q_fill (p := 41 * x + y) hv2 hmx) (fun v hv => (hmm v hv).1) (by omega)
        exact hL10 _ 0 nv1 mk1 m1 σ_1 hc_2 hc_3 hc_4 hc_5 (fun i hi => (hf_6 i (by omega))) (by omega) (by omega) (fun j hj => hv1 j (by omega)) hk1 (Nat.lt_succ_self _)
  have hc_25 : σ 279 = o11 G (upd F 12 (nI (mc))) := by rw [hc0, q_updF hF12]
  exact hL2 _ 0 nv mk mc σ hc_25 hc1 hc2 hc3 (fun _ _ => rfl) (by omega) rfl (fun j h => absurd h (by omega)) hmk (Nat.lt_succ_self _)
end
