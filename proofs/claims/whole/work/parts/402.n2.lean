section
set_option maxRecDepth 100000 in
set_option maxHeartbeats 4000000 in
theorem c_X11_advanceToken (G : GL) (ex : Bool) (n : Nat) (σ : Nat → va_E) (F : Nat → Int32) (f : Nat → Nat) (m : Nat) (k : Nat) (hc0 : σ 279 = o11 G F) (hc1 : σ 292 = q_an G 600 f) (hn : 294 ≤ n) (hF21 : F 21 = nI m) (hm : m ≤ 600) (hbb : ∀ k : Nat, s_byte f m k ≤ 256) (hk : k ≤ m) (hF26 : F 26 = nI k) : Ct G yX11_advanceToken cX11_advanceToken 2 none ⟨2, 0, 0, 43⟩ [.ref (q_h G + 279)] ex n σ (fun v9 σ2 => v9 = none ∧ ∃ (F' : Nat → Int32), ∃ (t' : Nat), (t' = tk_st f m k) ∧ (t' ≤ m) ∧ (∀ j : Nat, j ≠ 26 ∧ j ≠ 27 ∧ j ≠ 28 ∧ j ≠ 30 → F' j = F j) ∧ (F' 26 = nI (tk_be f m t')) ∧ (F' 27 = nI t') ∧ (F' 28 = nI (tk_vl f m t')) ∧ (F' 30 = nI (tk_kd f m t')) ∧ σ2 279 = o11 G F' ∧ (∀ i : Nat, i ≠ 279 → σ2 i = σ i)) := by
  refine q_enter [some (.ref (q_h G + 279)), none] (by decide) (Nat.le_of_ble_eq_true rfl) rfl ?_
  intro K hg
  obtain ⟨Q, hQ⟩ : ∃ Q, Q = q_Q G K ex n 0 0 (fun v9 n' σ' => n' = n ∧ (fun v9 σ2 => v9 = none ∧ ∃ (F' : Nat → Int32), ∃ (t' : Nat), (t' = tk_st f m k) ∧ (t' ≤ m) ∧ (∀ j : Nat, j ≠ 26 ∧ j ≠ 27 ∧ j ≠ 28 ∧ j ≠ 30 → F' j = F j) ∧ (F' 26 = nI (tk_be f m t')) ∧ (F' 27 = nI t') ∧ (F' 28 = nI (tk_vl f m t')) ∧ (F' 30 = nI (tk_kd f m t')) ∧ σ2 279 = o11 G F' ∧ (∀ i : Nat, i ≠ 279 → σ2 i = σ i)) v9 σ') q_noX := ⟨_, rfl⟩
  refine (?_ : AJ G K (q_Q G K ex n 0 0 _ _) 0 0 ex n 0 _ _ σ)
  rw [← hQ]
  have hfb : ∀ k : Nat, s_byte f m k < 2 ^ 31 := fun k => Nat.lt_of_le_of_lt (hbb k) (by decide)
  have hL0 : ∀ (fu : Nat) (k1 : Nat) (F1 : Nat → Int32) (σ_1 : Nat → va_E), (σ_1 279 = o11 G F1) → (σ_1 292 = q_an G 600 f) → (∀ i : Nat, i ≠ 279 → σ_1 i = σ i) → (F1 26 = nI k1) → (∀ j : Nat, j ≠ 26 → F1 j = F j) → (k ≤ k1 ∧ k1 ≤ m) → (∀ j : Nat, k ≤ j → j < k1 → tk_ws f m j = true) → (m - k1) < fu → AJ G K Q 0 0 ex n 0 [some (.ref (q_h G + 279)), none] [] σ_1 := by
    intro fu
    induction fu with
    | zero => intro k1 F1 σ_1 hc_2 hc_3 hf_4 h1_26 hfr1 hk1 hall hm; exact absurd hm (Nat.not_lt_zero _)
    | succ fu ih0 =>
      intro k1 F1 σ_1 hc_2 hc_3 hf_4 h1_26 hfr1 hk1 hall hm0
      refine A_aload_n hg dX11_advanceToken_0 rfl rfl ?_
      refine A_aload_n hg dX11_advanceToken_1 rfl rfl ?_
      refine A_getf (v := .int (nI (k1))) hg fl_RX11_262 dX11_advanceToken_2 hc_2 (by omega) (congrArg (fun z => some (Value.int z)) h1_26) ?_
      refine A_eV (kc2 := 0) (ks2 := 0) (As := [.int (nI (k1))]) (rest := []) hg lk_RX11_259 in_X11_byteAt se_X11_byteAt rfl dX11_advanceToken_5 ⟨by decide, by decide⟩ rfl rfl ⟨by decide, by decide⟩ hc_2 (by omega) rfl rfl (Nat.le_of_ble_eq_true rfl) (c_X11_byteAt G ex n σ_1 F1 f m k1 hc_2 hc_3 (by omega) (by omega) ((hfr1 21 (by decide)).trans hF21) (by omega)) ?_
      refine A_bipush (v := (nI (32))) hg dX11_advanceToken_8 (by decide) ?_
      refine A_top (w := .int (q_d 33)) rfl ?_
      refine A_icmp_eqM (tgt := 26) hg dX11_advanceToken_10 (hfb _) (by decide) (by decide) (fun c10 => ?_) (fun c10 => ?_)
      · skip
        have hws : tk_ws f m k1 = true := tk_ws_t (by first | exact Or.inl c10 | exact Or.inr c23)
        refine A_aload_n hg dX11_advanceToken_26 rfl rfl ?_
        refine A_dup hg dX11_advanceToken_27 rfl ?_
        refine A_getf (v := .int (nI (k1))) hg fl_RX11_262 dX11_advanceToken_28 hc_2 (by omega) (congrArg (fun z => some (Value.int z)) h1_26) ?_
        refine A_iconst (v := (nI (1))) hg dX11_advanceToken_31 (by decide) ?_
        refine A_iaddN hg dX11_advanceToken_32 ?_
        refine A_putf hg fl_RX11_262 dX11_advanceToken_33 hc_2 (by omega) (Nat.le_of_ble_eq_true rfl) rfl rfl rfl (fun σ_5 hc_6 hf_7 => ?_)
        have hc_6 : σ_5 279 = o11 G (upd F1 26 (nI (k1 + 1))) := hc_6
        have hc_8 : σ_5 292 = q_an G 600 f := (hf_7 _ (by omega)).trans hc_3
        refine A_goto (tgt := 0) hg dX11_advanceToken_36 (by decide) ?_
        exact ih0 (k1 + 1) (upd F1 26 (nI (k1 + 1))) σ_5 hc_6 hc_8 (fun i hi => ((hf_7 i (by omega)).trans (hf_4 i (by omega)))) rfl (fun j hj => (q_upn (by omega)).trans ((hfr1 j hj))) (⟨by omega, tk_ws_m hws⟩) (tk_hall hall hws) (by have := tk_ws_m hws; omega)
      · skip
        refine A_aload_n hg dX11_advanceToken_13 rfl rfl ?_
        refine A_aload_n hg dX11_advanceToken_14 rfl rfl ?_
        refine A_getf (v := .int (nI (k1))) hg fl_RX11_262 dX11_advanceToken_15 hc_2 (by omega) (congrArg (fun z => some (Value.int z)) h1_26) ?_
        refine A_eV (kc2 := 0) (ks2 := 0) (As := [.int (nI (k1))]) (rest := []) hg lk_RX11_259 in_X11_byteAt se_X11_byteAt rfl dX11_advanceToken_18 ⟨by decide, by decide⟩ rfl rfl ⟨by decide, by decide⟩ hc_2 (by omega) rfl rfl (Nat.le_of_ble_eq_true rfl) (c_X11_byteAt G ex n σ_1 F1 f m k1 hc_2 hc_3 (by omega) (by omega) ((hfr1 21 (by decide)).trans hF21) (by omega)) ?_
        refine A_bipush (v := (nI (10))) hg dX11_advanceToken_21 (by decide) ?_
        refine A_top (w := .int (q_d 11)) rfl ?_
        refine A_icmp_neM (tgt := 39) hg dX11_advanceToken_23 (hfb _) (by decide) (by decide) (fun c23 => ?_) (fun c23 => ?_)
        · skip
          have hst : k1 = tk_st f m k := (tk_run_eq hk1.2 hk1.1 hall (tk_ws_f c10 c23)).symm
          refine A_aload_n hg dX11_advanceToken_39 rfl rfl ?_
          refine A_aload_n hg dX11_advanceToken_40 rfl rfl ?_
          refine A_getf (v := .int (nI (k1))) hg fl_RX11_262 dX11_advanceToken_41 hc_2 (by omega) (congrArg (fun z => some (Value.int z)) h1_26) ?_
          refine A_putf hg fl_RX11_265 dX11_advanceToken_44 hc_2 (by omega) (Nat.le_of_ble_eq_true rfl) rfl rfl rfl (fun σ_9 hc_10 hf_11 => ?_)
          have hc_10 : σ_9 279 = o11 G (upd F1 27 (nI (k1))) := hc_10
          have hc_12 : σ_9 292 = q_an G 600 f := (hf_11 _ (by omega)).trans hc_3
          refine A_aload_n hg dX11_advanceToken_47 rfl rfl ?_
          refine A_aload_n hg dX11_advanceToken_48 rfl rfl ?_
          refine A_getf (v := .int (nI (k1))) hg fl_RX11_262 dX11_advanceToken_49 hc_10 (by omega) (congrArg (fun z => some (Value.int z)) h1_26) ?_
          refine A_eV (kc2 := 0) (ks2 := 0) (As := [.int (nI (k1))]) (rest := []) hg lk_RX11_259 in_X11_byteAt se_X11_byteAt rfl dX11_advanceToken_52 ⟨by decide, by decide⟩ rfl rfl ⟨by decide, by decide⟩ hc_10 (by omega) rfl rfl (Nat.le_of_ble_eq_true rfl) (c_X11_byteAt G ex n σ_9 (upd F1 27 (nI (k1))) f m k1 hc_10 hc_12 (by omega) (by omega) ((hfr1 21 (by decide)).trans hF21) (by omega)) ?_
          refine A_istore_n hg dX11_advanceToken_55 rfl (by decide) (q_c1d rfl) ?_
          refine A_eq (ls2 := [some (.ref (q_h G + 279)), some (.int (q_d (s_byte f m k1)))]) (st2 := []) (pc2 := 0) rfl rfl ?_
          refine A_aload_n hg dX11_advanceToken_56 rfl rfl ?_
          refine A_iconst (v := (nI (0))) hg dX11_advanceToken_57 (by decide) ?_
          refine A_putf hg fl_RX11_268 dX11_advanceToken_58 hc_10 (by omega) (Nat.le_of_ble_eq_true rfl) rfl rfl rfl (fun σ_13 hc_14 hf_15 => ?_)
          have hc_14 : σ_13 279 = o11 G (upd (upd F1 27 (nI (k1))) 28 (nI (0))) := hc_14
          have hc_16 : σ_13 292 = q_an G 600 f := (hf_15 _ (by omega)).trans hc_12
          refine A_iload_n hg dX11_advanceToken_61 rfl rfl ?_
          refine A_iconst (v := (q_d (0))) hg dX11_advanceToken_62 (by decide) ?_
          refine A_icmp_neM (tgt := 74) hg dX11_advanceToken_63 (hfb _) (by decide) (by decide) (fun c63 => ?_) (fun c63 => ?_)
          · skip
            refine A_aload_n hg dX11_advanceToken_74 rfl rfl ?_
            refine A_aload_n hg dX11_advanceToken_75 rfl rfl ?_
            refine A_getf (v := .int (nI (k1))) hg fl_RX11_262 dX11_advanceToken_76 hc_14 (by omega) (congrArg (fun z => some (Value.int z)) h1_26) ?_
            refine A_eV (kc2 := 0) (ks2 := 0) (As := [.int (nI (k1))]) (rest := []) hg lk_RX11_274 in_X11_isLetter se_X11_isLetter rfl dX11_advanceToken_79 ⟨by decide, by decide⟩ rfl rfl ⟨by decide, by decide⟩ hc_14 (by omega) rfl rfl (Nat.le_of_ble_eq_true rfl) (c_X11_isLetter G ex n σ_13 (upd (upd F1 27 (nI (k1))) 28 (nI (0))) f m k1 hc_14 hc_16 (by omega) (by omega) ((hfr1 21 (by decide)).trans hF21) (by omega)) ?_
            refine A_top (w := .int (q_b (tk_let f m k1))) (by rw [tk_inL (hfb _)]) ?_
            refine A_if_eqB (tgt := 114) hg dX11_advanceToken_82 (by decide) (fun c82 => ?_) (fun c82 => ?_)
            · skip
              refine A_iload_n hg dX11_advanceToken_114 rfl rfl ?_
              refine A_bipush (v := (nI (48))) hg dX11_advanceToken_115 (by decide) ?_
              refine A_bipush (v := (nI (57))) hg dX11_advanceToken_117 (by decide) ?_
              refine A_eS (kc2 := 0) (ks2 := 0) (As := [.int (q_d (s_byte f m k1)), .int (nI (48)), .int (nI (57))]) (rest := []) hg lk_RX11_77 st_X11_inRange dX11_advanceToken_119 ⟨by decide, by decide⟩ rfl rfl ⟨by decide, by decide⟩ rfl rfl (Nat.le_of_ble_eq_true rfl) (c_X11_inRange G ex n σ_13 (q_d (s_byte f m k1)) (nI (48)) (nI (57))) ?_
              refine A_top (w := .int (q_b (tk_dig f m k1))) (by rw [tk_inD (hfb _)]) ?_
              refine A_if_eqB (tgt := 204) hg dX11_advanceToken_122 (by decide) (fun c122 => ?_) (fun c122 => ?_)
              · skip
                refine A_aload_n hg dX11_advanceToken_204 rfl rfl ?_
                refine A_iload_n hg dX11_advanceToken_205 rfl rfl ?_
                refine A_bipush (v := (nI (59))) hg dX11_advanceToken_206 (by decide) ?_
                refine A_top (w := .int (q_d 60)) rfl ?_
                refine A_icmp_neM (tgt := 215) hg dX11_advanceToken_208 (hfb _) (by decide) (by decide) (fun c208 => ?_) (fun c208 => ?_)
                · skip
                  refine A_iconst (v := (nI (4))) hg dX11_advanceToken_215 (by decide) ?_
                  refine A_putf hg fl_RX11_271 dX11_advanceToken_216 hc_14 (by omega) (Nat.le_of_ble_eq_true rfl) rfl rfl rfl (fun σ_17 hc_18 hf_19 => ?_)
                  have hc_18 : σ_17 279 = o11 G (upd (upd (upd F1 27 (nI (k1))) 28 (nI (0))) 30 (nI (4))) := hc_18
                  have hc_20 : σ_17 292 = q_an G 600 f := (hf_19 _ (by omega)).trans hc_16
                  refine A_aload_n hg dX11_advanceToken_219 rfl rfl ?_
                  refine A_dup hg dX11_advanceToken_220 rfl ?_
                  refine A_getf (v := .int (nI (k1))) hg fl_RX11_262 dX11_advanceToken_221 hc_18 (by omega) (congrArg (fun z => some (Value.int z)) h1_26) ?_
                  refine A_iconst (v := (nI (1))) hg dX11_advanceToken_224 (by decide) ?_
                  refine A_iaddN hg dX11_advanceToken_225 ?_
                  refine A_putf hg fl_RX11_262 dX11_advanceToken_226 hc_18 (by omega) (Nat.le_of_ble_eq_true rfl) rfl rfl rfl (fun σ_21 hc_22 hf_23 => ?_)
                  have hc_22 : σ_21 279 = o11 G (upd (upd (upd (upd F1 26 (nI (k1 + 1))) 27 (nI (k1))) 28 (nI (0))) 30 (nI (4))) := hc_22
                  have hc_24 : σ_21 292 = q_an G 600 f := (hf_23 _ (by omega)).trans hc_20
                  have hK := tk_k34 c63 c82 c122
                  rw [hQ]
                  exact A_return hg (by decide) (by decide) rfl dX11_advanceToken_229 ⟨rfl, ⟨rfl, (upd (upd (upd (upd F1 26 (nI (k1 + 1))) 27 (nI (k1))) 28 (nI (0))) 30 (nI (4))), k1, hst, hk1.2, (fun j hj => ((q_upn (by omega)).trans ((q_upn (by omega)).trans ((q_upn (by omega)).trans ((q_upn (by omega)).trans (hfr1 j (by omega))))))), (Eq.trans (b := (nI (k1 + 1))) rfl (by rw [hK.2.1])), rfl, (Eq.trans (b := (nI (0))) rfl (by rw [hK.2.2])), (Eq.trans (b := (nI (4))) rfl (by rw [hK.1, if_neg c208])), hc_22, (fun i hi => ((hf_23 i (by omega)).trans ((hf_19 i (by omega)).trans ((hf_15 i (by omega)).trans ((hf_11 i (by omega)).trans (hf_4 i (by omega)))))))⟩⟩
                · skip
                  refine A_iconst (v := (nI (3))) hg dX11_advanceToken_211 (by decide) ?_
                  refine A_goto (tgt := 216) hg dX11_advanceToken_212 (by decide) ?_
                  refine A_putf hg fl_RX11_271 dX11_advanceToken_216 hc_14 (by omega) (Nat.le_of_ble_eq_true rfl) rfl rfl rfl (fun σ_25 hc_26 hf_27 => ?_)
                  have hc_26 : σ_25 279 = o11 G (upd (upd (upd F1 27 (nI (k1))) 28 (nI (0))) 30 (nI (3))) := hc_26
                  have hc_28 : σ_25 292 = q_an G 600 f := (hf_27 _ (by omega)).trans hc_16
                  refine A_aload_n hg dX11_advanceToken_219 rfl rfl ?_
                  refine A_dup hg dX11_advanceToken_220 rfl ?_
                  refine A_getf (v := .int (nI (k1))) hg fl_RX11_262 dX11_advanceToken_221 hc_26 (by omega) (congrArg (fun z => some (Value.int z)) h1_26) ?_
                  refine A_iconst (v := (nI (1))) hg dX11_advanceToken_224 (by decide) ?_
                  refine A_iaddN hg dX11_advanceToken_225 ?_
                  refine A_putf hg fl_RX11_262 dX11_advanceToken_226 hc_26 (by omega) (Nat.le_of_ble_eq_true rfl) rfl rfl rfl (fun σ_29 hc_30 hf_31 => ?_)
                  have hc_30 : σ_29 279 = o11 G (upd (upd (upd (upd F1 26 (nI (k1 + 1))) 27 (nI (k1))) 28 (nI (0))) 30 (nI (3))) := hc_30
                  have hc_32 : σ_29 292 = q_an G 600 f := (hf_31 _ (by omega)).trans hc_28
                  have hK := tk_k34 c63 c82 c122
                  rw [hQ]
                  exact A_return hg (by decide) (by decide) rfl dX11_advanceToken_229 ⟨rfl, ⟨rfl, (upd (upd (upd (upd F1 26 (nI (k1 + 1))) 27 (nI (k1))) 28 (nI (0))) 30 (nI (3))), k1, hst, hk1.2, (fun j hj => ((q_upn (by omega)).trans ((q_upn (by omega)).trans ((q_upn (by omega)).trans ((q_upn (by omega)).trans (hfr1 j (by omega))))))), (Eq.trans (b := (nI (k1 + 1))) rfl (by rw [hK.2.1])), rfl, (Eq.trans (b := (nI (0))) rfl (by rw [hK.2.2])), (Eq.trans (b := (nI (3))) rfl (by rw [hK.1, if_pos c208])), hc_30, (fun i hi => ((hf_31 i (by omega)).trans ((hf_27 i (by omega)).trans ((hf_15 i (by omega)).trans ((hf_11 i (by omega)).trans (hf_4 i (by omega)))))))⟩⟩
              · skip
                refine A_aload_n hg dX11_advanceToken_125 rfl rfl ?_
                refine A_iconst (v := (nI (2))) hg dX11_advanceToken_126 (by decide) ?_
                refine A_putf hg fl_RX11_271 dX11_advanceToken_127 hc_14 (by omega) (Nat.le_of_ble_eq_true rfl) rfl rfl rfl (fun σ_33 hc_34 hf_35 => ?_)
                have hc_34 : σ_33 279 = o11 G (upd (upd (upd F1 27 (nI (k1))) 28 (nI (0))) 30 (nI (2))) := hc_34
                have hc_36 : σ_33 292 = q_an G 600 f := (hf_35 _ (by omega)).trans hc_16
                have hL130 : ∀ (fu : Nat) (k2 : Nat) (F2 : Nat → Int32) (σ_37 : Nat → va_E), (σ_37 292 = q_an G 600 f) → (σ_37 279 = o11 G F2) → (∀ i : Nat, i ≠ 279 → σ_37 i = σ i) → (F2 26 = nI k2) → (∀ j : Nat, j ≠ 26 ∧ j ≠ 28 → F2 j = (upd (upd (upd F1 27 (nI (k1))) 28 (nI (0))) 30 (nI (2))) j) → (k1 ≤ k2 ∧ k2 ≤ m) → (∀ j : Nat, k1 ≤ j → j < k2 → tk_dig f m j = true) → (F2 28 = nI (tk_dv f k1 (k2 - k1))) → (m - k2) < fu → AJ G K Q 0 0 ex n 130 [some (.ref (q_h G + 279)), some (.int (q_d (s_byte f m k1)))] [] σ_37 := by
                  intro fu
                  induction fu with
                  | zero => intro k2 F2 σ_37 hc_38 hc_39 hf_40 h2_26 hfr2 hk2 hall2 h2_28 hm; exact absurd hm (Nat.not_lt_zero _)
                  | succ fu ih130 =>
                    intro k2 F2 σ_37 hc_38 hc_39 hf_40 h2_26 hfr2 hk2 hall2 h2_28 hm130
                    refine A_aload_n hg dX11_advanceToken_130 rfl rfl ?_
                    refine A_aload_n hg dX11_advanceToken_131 rfl rfl ?_
                    refine A_getf (v := .int (nI (k2))) hg fl_RX11_262 dX11_advanceToken_132 hc_39 (by omega) (congrArg (fun z => some (Value.int z)) h2_26) ?_
                    refine A_eV (kc2 := 0) (ks2 := 0) (As := [.int (nI (k2))]) (rest := []) hg lk_RX11_259 in_X11_byteAt se_X11_byteAt rfl dX11_advanceToken_135 ⟨by decide, by decide⟩ rfl rfl ⟨by decide, by decide⟩ hc_39 (by omega) rfl rfl (Nat.le_of_ble_eq_true rfl) (c_X11_byteAt G ex n σ_37 F2 f m k2 hc_39 hc_38 (by omega) (by omega) ((hfr2 21 (by decide)).trans ((hfr1 21 (by decide)).trans hF21)) (by omega)) ?_
                    refine A_bipush (v := (nI (48))) hg dX11_advanceToken_138 (by decide) ?_
                    refine A_bipush (v := (nI (57))) hg dX11_advanceToken_140 (by decide) ?_
                    refine A_eS (kc2 := 0) (ks2 := 0) (As := [.int (q_d (s_byte f m k2)), .int (nI (48)), .int (nI (57))]) (rest := []) hg lk_RX11_77 st_X11_inRange dX11_advanceToken_142 ⟨by decide, by decide⟩ rfl rfl ⟨by decide, by decide⟩ rfl rfl (Nat.le_of_ble_eq_true rfl) (c_X11_inRange G ex n σ_37 (q_d (s_byte f m k2)) (nI (48)) (nI (57))) ?_
                    refine A_top (w := .int (q_b (tk_dig f m k2))) (by rw [tk_inD (hfb _)]) ?_
                    refine A_if_eqB (tgt := 229) hg dX11_advanceToken_145 (by decide) (fun c145 => ?_) (fun c145 => ?_)
                    · skip
                      have hK := tk_k2 c122 hk2.2 hk2.1 hall2 c145
                      rw [hQ]
                      exact A_return hg (by decide) (by decide) rfl dX11_advanceToken_229 ⟨rfl, ⟨rfl, F2, k1, hst, hk1.2, (fun j hj => ((hfr2 j (by omega)).trans ((q_upn (by omega)).trans ((q_upn (by omega)).trans ((q_upn (by omega)).trans (hfr1 j (by omega))))))), (Eq.trans (b := (nI (k2))) h2_26 (by rw [hK.2.1])), ((hfr2 27 (by decide)).trans rfl), (Eq.trans (b := (nI (tk_dv f k1 (k2 - k1)))) h2_28 (by rw [hK.2.2])), (Eq.trans (b := (nI (2))) ((hfr2 30 (by decide)).trans rfl) (by rw [hK.1])), hc_39, (fun i hi => (hf_40 i (by omega)))⟩⟩
                    · skip
                      have hP2 := c145
                      have hd := tk_dig_f hP2
                      refine A_aload_n hg dX11_advanceToken_148 rfl rfl ?_
                      refine A_aload_n hg dX11_advanceToken_149 rfl rfl ?_
                      refine A_getf (v := .int (nI (k2))) hg fl_RX11_262 dX11_advanceToken_150 hc_39 (by omega) (congrArg (fun z => some (Value.int z)) h2_26) ?_
                      refine A_aload_n hg dX11_advanceToken_153 rfl rfl ?_
                      refine A_getf (v := .int (nI (k1))) hg fl_RX11_265 dX11_advanceToken_154 hc_39 (by omega) (congrArg (fun z => some (Value.int z)) ((hfr2 27 (by decide)).trans rfl)) ?_
                      refine A_isubN hg dX11_advanceToken_157 (by omega) ?_
                      refine A_iconst (v := (nI (3))) hg dX11_advanceToken_158 (by decide) ?_
                      refine A_icmp_geN (tgt := 184) hg dX11_advanceToken_159 (by omega) (by decide) (by decide) (fun c159 => ?_) (fun c159 => ?_)
                      · skip
                        refine A_aload_n hg dX11_advanceToken_184 rfl rfl ?_
                        refine A_getf (v := .int (nI (tk_dv f k1 (k2 - k1)))) hg fl_RX11_268 dX11_advanceToken_185 hc_39 (by omega) (congrArg (fun z => some (Value.int z)) h2_28) ?_
                        refine A_putf hg fl_RX11_268 dX11_advanceToken_188 hc_39 (by omega) (Nat.le_of_ble_eq_true rfl) rfl rfl rfl (fun σ_41 hc_42 hf_43 => ?_)
                        have hc_42 : σ_41 279 = o11 G (upd F2 28 (nI (tk_dv f k1 (k2 - k1)))) := hc_42
                        have hc_44 : σ_41 292 = q_an G 600 f := (hf_43 _ (by omega)).trans hc_38
                        refine A_aload_n hg dX11_advanceToken_191 rfl rfl ?_
                        refine A_dup hg dX11_advanceToken_192 rfl ?_
                        refine A_getf (v := .int (nI (k2))) hg fl_RX11_262 dX11_advanceToken_193 hc_42 (by omega) (congrArg (fun z => some (Value.int z)) h2_26) ?_
                        refine A_iconst (v := (nI (1))) hg dX11_advanceToken_196 (by decide) ?_
                        refine A_iaddN hg dX11_advanceToken_197 ?_
                        refine A_putf hg fl_RX11_262 dX11_advanceToken_198 hc_42 (by omega) (Nat.le_of_ble_eq_true rfl) rfl rfl rfl (fun σ_45 hc_46 hf_47 => ?_)
                        have hc_46 : σ_45 279 = o11 G (upd (upd F2 26 (nI (k2 + 1))) 28 (nI (tk_dv f k1 (k2 - k1)))) := hc_46
                        have hc_48 : σ_45 292 = q_an G 600 f := (hf_47 _ (by omega)).trans hc_44
                        refine A_goto (tgt := 130) hg dX11_advanceToken_201 (by decide) ?_
                        exact ih130 (k2 + 1) (upd (upd F2 26 (nI (k2 + 1))) 28 (nI (tk_dv f k1 (k2 - k1)))) σ_45 hc_48 hc_46 (fun i hi => ((hf_47 i (by omega)).trans ((hf_43 i (by omega)).trans (hf_40 i (by omega))))) rfl (fun j hj => (q_upn (by omega)).trans ((q_upn (by omega)).trans ((hfr2 j hj)))) (⟨by omega, (tk_dig_f hP2).1⟩) (tk_hall hall2 hP2) (Eq.trans (b := (nI (tk_dv f k1 (k2 - k1)))) rfl (congrArg nI (by first | exact (tk_dv_t hk2.1 (by omega)).symm | exact (tk_dv_f hk2.1 (by omega)).symm))) (by have := (tk_dig_f hP2).1; omega)
                      · skip
                        refine A_bipush (v := (nI (10))) hg dX11_advanceToken_162 (by decide) ?_
                        refine A_aload_n hg dX11_advanceToken_164 rfl rfl ?_
                        refine A_getf (v := .int (nI (tk_dv f k1 (k2 - k1)))) hg fl_RX11_268 dX11_advanceToken_165 hc_39 (by omega) (congrArg (fun z => some (Value.int z)) h2_28) ?_
                        refine A_imulN hg dX11_advanceToken_168 ?_
                        refine A_aload_n hg dX11_advanceToken_169 rfl rfl ?_
                        refine A_aload_n hg dX11_advanceToken_170 rfl rfl ?_
                        refine A_getf (v := .int (nI (k2))) hg fl_RX11_262 dX11_advanceToken_171 hc_39 (by omega) (congrArg (fun z => some (Value.int z)) h2_26) ?_
                        refine A_eV (kc2 := 0) (ks2 := 0) (As := [.int (nI (k2))]) (rest := [.int (nI (10 * (tk_dv f k1 (k2 - k1)))), .ref (q_h G + 279)]) hg lk_RX11_259 in_X11_byteAt se_X11_byteAt rfl dX11_advanceToken_174 ⟨by decide, by decide⟩ rfl rfl ⟨by decide, by decide⟩ hc_39 (by omega) rfl rfl (Nat.le_of_ble_eq_true rfl) (c_X11_byteAt G ex n σ_37 F2 f m k2 hc_39 hc_38 (by omega) (by omega) ((hfr2 21 (by decide)).trans ((hfr1 21 (by decide)).trans hF21)) (by omega)) ?_
                        refine A_top (w := .int (nI (f k2))) (by rw [hd.2.2.2]; exact congrArg Value.int (q_dS _)) ?_
                        refine A_iaddN hg dX11_advanceToken_177 ?_
                        refine A_bipush (v := (nI (48))) hg dX11_advanceToken_178 (by decide) ?_
                        refine A_isubN hg dX11_advanceToken_180 (by omega) ?_
                        refine A_goto (tgt := 188) hg dX11_advanceToken_181 (by decide) ?_
                        refine A_putf hg fl_RX11_268 dX11_advanceToken_188 hc_39 (by omega) (Nat.le_of_ble_eq_true rfl) rfl rfl rfl (fun σ_49 hc_50 hf_51 => ?_)
                        have hc_50 : σ_49 279 = o11 G (upd F2 28 (nI (((10 * (tk_dv f k1 (k2 - k1))) + (f k2)) - 48))) := hc_50
                        have hc_52 : σ_49 292 = q_an G 600 f := (hf_51 _ (by omega)).trans hc_38
                        refine A_aload_n hg dX11_advanceToken_191 rfl rfl ?_
                        refine A_dup hg dX11_advanceToken_192 rfl ?_
                        refine A_getf (v := .int (nI (k2))) hg fl_RX11_262 dX11_advanceToken_193 hc_50 (by omega) (congrArg (fun z => some (Value.int z)) h2_26) ?_
                        refine A_iconst (v := (nI (1))) hg dX11_advanceToken_196 (by decide) ?_
                        refine A_iaddN hg dX11_advanceToken_197 ?_
                        refine A_putf hg fl_RX11_262 dX11_advanceToken_198 hc_50 (by omega) (Nat.le_of_ble_eq_true rfl) rfl rfl rfl (fun σ_53 hc_54 hf_55 => ?_)
                        have hc_54 : σ_53 279 = o11 G (upd (upd F2 26 (nI (k2 + 1))) 28 (nI (((10 * (tk_dv f k1 (k2 - k1))) + (f k2)) - 48))) := hc_54
                        have hc_56 : σ_53 292 = q_an G 600 f := (hf_55 _ (by omega)).trans hc_52
                        refine A_goto (tgt := 130) hg dX11_advanceToken_201 (by decide) ?_
                        exact ih130 (k2 + 1) (upd (upd F2 26 (nI (k2 + 1))) 28 (nI (((10 * (tk_dv f k1 (k2 - k1))) + (f k2)) - 48))) σ_53 hc_56 hc_54 (fun i hi => ((hf_55 i (by omega)).trans ((hf_51 i (by omega)).trans (hf_40 i (by omega))))) rfl (fun j hj => (q_upn (by omega)).trans ((q_upn (by omega)).trans ((hfr2 j hj)))) (⟨by omega, (tk_dig_f hP2).1⟩) (tk_hall hall2 hP2) (Eq.trans (b := (nI (((10 * (tk_dv f k1 (k2 - k1))) + (f k2)) - 48))) rfl (congrArg nI (by first | exact (tk_dv_t hk2.1 (by omega)).symm | exact (tk_dv_f hk2.1 (by omega)).symm))) (by have := (tk_dig_f hP2).1; omega)
                exact hL130 _ k1 (upd (upd (upd F1 27 (nI (k1))) 28 (nI (0))) 30 (nI (2))) σ_33 hc_36 hc_34 (fun i hi => ((hf_35 i (by omega)).trans ((hf_15 i (by omega)).trans ((hf_11 i (by omega)).trans (hf_4 i (by omega)))))) h1_26 (fun _ _ => rfl) (⟨Nat.le_refl _, hk1.2⟩) (fun j h1 h2 => absurd h2 (by omega)) (by rw [Nat.sub_self]; rfl) (Nat.lt_succ_self _)
            · skip
              refine A_aload_n hg dX11_advanceToken_85 rfl rfl ?_
              refine A_iconst (v := (nI (1))) hg dX11_advanceToken_86 (by decide) ?_
              refine A_putf hg fl_RX11_271 dX11_advanceToken_87 hc_14 (by omega) (Nat.le_of_ble_eq_true rfl) rfl rfl rfl (fun σ_57 hc_58 hf_59 => ?_)
              have hc_58 : σ_57 279 = o11 G (upd (upd (upd F1 27 (nI (k1))) 28 (nI (0))) 30 (nI (1))) := hc_58
              have hc_60 : σ_57 292 = q_an G 600 f := (hf_59 _ (by omega)).trans hc_16
              have hL90 : ∀ (fu : Nat) (k2 : Nat) (F2 : Nat → Int32) (σ_61 : Nat → va_E), (σ_61 292 = q_an G 600 f) → (σ_61 279 = o11 G F2) → (∀ i : Nat, i ≠ 279 → σ_61 i = σ i) → (F2 26 = nI k2) → (∀ j : Nat, j ≠ 26 → F2 j = (upd (upd (upd F1 27 (nI (k1))) 28 (nI (0))) 30 (nI (1))) j) → (k1 ≤ k2 ∧ k2 ≤ m) → (∀ j : Nat, k1 ≤ j → j < k2 → tk_let f m j = true) → (m - k2) < fu → AJ G K Q 0 0 ex n 90 [some (.ref (q_h G + 279)), some (.int (q_d (s_byte f m k1)))] [] σ_61 := by
                intro fu
                induction fu with
                | zero => intro k2 F2 σ_61 hc_62 hc_63 hf_64 h2_26 hfr2 hk2 hall2 hm; exact absurd hm (Nat.not_lt_zero _)
                | succ fu ih90 =>
                  intro k2 F2 σ_61 hc_62 hc_63 hf_64 h2_26 hfr2 hk2 hall2 hm90
                  refine A_aload_n hg dX11_advanceToken_90 rfl rfl ?_
                  refine A_aload_n hg dX11_advanceToken_91 rfl rfl ?_
                  refine A_getf (v := .int (nI (k2))) hg fl_RX11_262 dX11_advanceToken_92 hc_63 (by omega) (congrArg (fun z => some (Value.int z)) h2_26) ?_
                  refine A_eV (kc2 := 0) (ks2 := 0) (As := [.int (nI (k2))]) (rest := []) hg lk_RX11_274 in_X11_isLetter se_X11_isLetter rfl dX11_advanceToken_95 ⟨by decide, by decide⟩ rfl rfl ⟨by decide, by decide⟩ hc_63 (by omega) rfl rfl (Nat.le_of_ble_eq_true rfl) (c_X11_isLetter G ex n σ_61 F2 f m k2 hc_63 hc_62 (by omega) (by omega) ((hfr2 21 (by decide)).trans ((hfr1 21 (by decide)).trans hF21)) (by omega)) ?_
                  refine A_top (w := .int (q_b (tk_let f m k2))) (by rw [tk_inL (hfb _)]) ?_
                  refine A_if_eqB (tgt := 229) hg dX11_advanceToken_98 (by decide) (fun c98 => ?_) (fun c98 => ?_)
                  · skip
                    have hK := tk_k1 c82 hk2.2 hk2.1 hall2 c98
                    rw [hQ]
                    exact A_return hg (by decide) (by decide) rfl dX11_advanceToken_229 ⟨rfl, ⟨rfl, F2, k1, hst, hk1.2, (fun j hj => ((hfr2 j (by omega)).trans ((q_upn (by omega)).trans ((q_upn (by omega)).trans ((q_upn (by omega)).trans (hfr1 j (by omega))))))), (Eq.trans (b := (nI (k2))) h2_26 (by rw [hK.2.1])), ((hfr2 27 (by decide)).trans rfl), (Eq.trans (b := (nI (0))) ((hfr2 28 (by decide)).trans rfl) (by rw [hK.2.2])), (Eq.trans (b := (nI (1))) ((hfr2 30 (by decide)).trans rfl) (by rw [hK.1])), hc_63, (fun i hi => (hf_64 i (by omega)))⟩⟩
                  · skip
                    have hP2 := c98
                    refine A_aload_n hg dX11_advanceToken_101 rfl rfl ?_
                    refine A_dup hg dX11_advanceToken_102 rfl ?_
                    refine A_getf (v := .int (nI (k2))) hg fl_RX11_262 dX11_advanceToken_103 hc_63 (by omega) (congrArg (fun z => some (Value.int z)) h2_26) ?_
                    refine A_iconst (v := (nI (1))) hg dX11_advanceToken_106 (by decide) ?_
                    refine A_iaddN hg dX11_advanceToken_107 ?_
                    refine A_putf hg fl_RX11_262 dX11_advanceToken_108 hc_63 (by omega) (Nat.le_of_ble_eq_true rfl) rfl rfl rfl (fun σ_65 hc_66 hf_67 => ?_)
                    have hc_66 : σ_65 279 = o11 G (upd F2 26 (nI (k2 + 1))) := hc_66
                    have hc_68 : σ_65 292 = q_an G 600 f := (hf_67 _ (by omega)).trans hc_62
                    refine A_goto (tgt := 90) hg dX11_advanceToken_111 (by decide) ?_
                    exact ih90 (k2 + 1) (upd F2 26 (nI (k2 + 1))) σ_65 hc_68 hc_66 (fun i hi => ((hf_67 i (by omega)).trans (hf_64 i (by omega)))) rfl (fun j hj => (q_upn (by omega)).trans ((hfr2 j hj))) (⟨by omega, (tk_let_f hP2).1⟩) (tk_hall hall2 hP2) (by have := (tk_let_f hP2).1; omega)
              exact hL90 _ k1 (upd (upd (upd F1 27 (nI (k1))) 28 (nI (0))) 30 (nI (1))) σ_57 hc_60 hc_58 (fun i hi => ((hf_59 i (by omega)).trans ((hf_15 i (by omega)).trans ((hf_11 i (by omega)).trans (hf_4 i (by omega)))))) h1_26 (fun _ _ => rfl) (⟨Nat.le_refl _, hk1.2⟩) (fun j h1 h2 => absurd h2 (by omega)) (Nat.lt_succ_self _)
          · skip
            refine A_aload_n hg dX11_advanceToken_66 rfl rfl ?_
            refine A_iconst (v := (nI (0))) hg dX11_advanceToken_67 (by decide) ?_
            refine A_putf hg fl_RX11_271 dX11_advanceToken_68 hc_14 (by omega) (Nat.le_of_ble_eq_true rfl) rfl rfl rfl (fun σ_69 hc_70 hf_71 => ?_)
            have hc_70 : σ_69 279 = o11 G (upd (upd (upd F1 27 (nI (k1))) 28 (nI (0))) 30 (nI (0))) := hc_70
            have hc_72 : σ_69 292 = q_an G 600 f := (hf_71 _ (by omega)).trans hc_16
            refine A_goto (tgt := 229) hg dX11_advanceToken_71 (by decide) ?_
            have hK := tk_k0 c63
            rw [hQ]
            exact A_return hg (by decide) (by decide) rfl dX11_advanceToken_229 ⟨rfl, ⟨rfl, (upd (upd (upd F1 27 (nI (k1))) 28 (nI (0))) 30 (nI (0))), k1, hst, hk1.2, (fun j hj => ((q_upn (by omega)).trans ((q_upn (by omega)).trans ((q_upn (by omega)).trans (hfr1 j (by omega)))))), (Eq.trans (b := (nI (k1))) h1_26 (by rw [hK.2.1])), rfl, (Eq.trans (b := (nI (0))) rfl (by rw [hK.2.2])), (Eq.trans (b := (nI (0))) rfl (by rw [hK.1])), hc_70, (fun i hi => ((hf_71 i (by omega)).trans ((hf_15 i (by omega)).trans ((hf_11 i (by omega)).trans (hf_4 i (by omega))))))⟩⟩
        · skip
          have hws : tk_ws f m k1 = true := tk_ws_t (by first | exact Or.inl c10 | exact Or.inr c23)
          refine A_aload_n hg dX11_advanceToken_26 rfl rfl ?_
          refine A_dup hg dX11_advanceToken_27 rfl ?_
          refine A_getf (v := .int (nI (k1))) hg fl_RX11_262 dX11_advanceToken_28 hc_2 (by omega) (congrArg (fun z => some (Value.int z)) h1_26) ?_
          refine A_iconst (v := (nI (1))) hg dX11_advanceToken_31 (by decide) ?_
          refine A_iaddN hg dX11_advanceToken_32 ?_
          refine A_putf hg fl_RX11_262 dX11_advanceToken_33 hc_2 (by omega) (Nat.le_of_ble_eq_true rfl) rfl rfl rfl (fun σ_73 hc_74 hf_75 => ?_)
          have hc_74 : σ_73 279 = o11 G (upd F1 26 (nI (k1 + 1))) := hc_74
          have hc_76 : σ_73 292 = q_an G 600 f := (hf_75 _ (by omega)).trans hc_3
          refine A_goto (tgt := 0) hg dX11_advanceToken_36 (by decide) ?_
          exact ih0 (k1 + 1) (upd F1 26 (nI (k1 + 1))) σ_73 hc_74 hc_76 (fun i hi => ((hf_75 i (by omega)).trans (hf_4 i (by omega)))) rfl (fun j hj => (q_upn (by omega)).trans ((hfr1 j hj))) (⟨by omega, tk_ws_m hws⟩) (tk_hall hall hws) (by have := tk_ws_m hws; omega)
  exact hL0 _ k F σ hc0 hc1 (fun _ _ => rfl) hF26 (fun _ _ => rfl) (⟨Nat.le_refl _, hk⟩) (fun j h1 h2 => absurd h2 (by omega)) (Nat.lt_succ_self _)
end
