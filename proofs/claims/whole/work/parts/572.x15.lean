section
set_option maxRecDepth 100000 in
set_option maxHeartbeats 4000000 in
theorem c_X9_byteAt (G : GL) (ex : Bool) (n : Nat) (σ : Nat → va_E) (f : Nat → Nat) (m : Nat) (kd : Int32) (st : Int32) (be : Int32) (nu : Int32) (k : Nat) (hc0 : σ 3 = o9 G (1) (nI (m)) (kd) (st) (be) (nu)) (hc1 : σ 1 = q_an G 600 f) (hn9 : 279 ≤ n) (hm6 : m ≤ 600) (hk31 : k < 2 ^ 31) : Ct G yX9_byteAt cX9_byteAt 2 (some .int) ⟨0, 0, 0, 0⟩ [.ref (q_h G + 3), .int (nI (k))] ex n σ (fun v9 σ2 => σ2 = σ ∧ v9 = some (.int (q_d (s_byte f m k)))) := by
  refine q_enter [some (.ref (q_h G + 3)), some (.int (nI (k)))] (by decide) (Nat.le_of_ble_eq_true rfl) rfl ?_
  intro K hg
  obtain ⟨Q, hQ⟩ : ∃ Q, Q = q_Q G K ex n 0 0 (fun v9 n' σ' => n' = n ∧ (fun v9 σ2 => σ2 = σ ∧ v9 = some (.int (q_d (s_byte f m k)))) v9 σ') q_noX := ⟨_, rfl⟩
  refine (?_ : AJ G K (q_Q G K ex n 0 0 _ _) 0 0 ex n 0 _ _ σ)
  rw [← hQ]
  refine A_iload_n hg dX9_byteAt_0 rfl rfl ?_
  refine A_if_ltN (tgt := 30) hg dX9_byteAt_1 (by omega) (by decide) ?_
  refine A_iload_n hg dX9_byteAt_4 rfl rfl ?_
  refine A_aload_n hg dX9_byteAt_5 rfl rfl ?_
  refine A_getf (v := .int (nI (m))) hg fl_RX9_15 dX9_byteAt_6 hc0 (by omega) rfl ?_
  refine A_icmp_geN (tgt := 30) hg dX9_byteAt_9 (by omega) (by omega) (by decide) (fun c9 => ?_) (fun c9 => ?_)
  · skip
    refine A_iconst (v := (q_d (0))) hg dX9_byteAt_30 (by decide) ?_
    rw [hQ]
    exact A_ireturn hg (by decide) (by decide) rfl dX9_byteAt_31 ⟨rfl, ⟨rfl, (by rw [x_byte_out (show m ≤ k by omega)])⟩⟩
  · skip
    refine A_iload_n hg dX9_byteAt_12 rfl rfl ?_
    refine A_aload_n hg dX9_byteAt_13 rfl rfl ?_
    refine A_getf (v := .ref (q_h G + 1)) hg fl_RX9_9 dX9_byteAt_14 hc0 (by omega) rfl ?_
    refine A_alen (t := 0) (len := 600) hg dX9_byteAt_17 hc1 (by decide) (by omega) ?_
    refine A_icmp_geN (tgt := 30) hg dX9_byteAt_18 (by omega) (by decide) (by decide) (fun c18 => absurd c18 (by omega)) (fun c18 => ?_)
    refine A_aload_n hg dX9_byteAt_21 rfl rfl ?_
    refine A_getf (v := .ref (q_h G + 1)) hg fl_RX9_9 dX9_byteAt_22 hc0 (by omega) rfl ?_
    refine A_iload_n hg dX9_byteAt_25 rfl rfl ?_
    refine A_iald (j := k) hg dX9_byteAt_26 hc1 (by omega) (by omega) (by decide) ?_
    refine A_goto (tgt := 31) hg dX9_byteAt_27 (by decide) ?_
    rw [hQ]
    exact A_ireturn hg (by decide) (by decide) rfl dX9_byteAt_31 ⟨rfl, ⟨rfl, (by rw [x_byte_in (show k < m by omega), q_dS])⟩⟩
set_option maxRecDepth 100000 in
set_option maxHeartbeats 4000000 in
theorem c_X9_isLetter (G : GL) (ex : Bool) (n : Nat) (σ : Nat → va_E) (e : Nat)  (he : e < 2 ^ 31) : Ct G yX9_isLetter cX9_isLetter 1 (some .boolean) ⟨0, 0, 0, 0⟩ [.int (q_d (e))] ex n σ (fun v9 σ2 => σ2 = σ ∧ v9 = some (.int (q_b (decide (98 ≤ e ∧ e ≤ 123))))) := by
  refine q_enter [some (.int (q_d (e)))] (by decide) (Nat.le_of_ble_eq_true rfl) rfl ?_
  intro K hg
  obtain ⟨Q, hQ⟩ : ∃ Q, Q = q_Q G K ex n 0 0 (fun v9 n' σ' => n' = n ∧ (fun v9 σ2 => σ2 = σ ∧ v9 = some (.int (q_b (decide (98 ≤ e ∧ e ≤ 123))))) v9 σ') q_noX := ⟨_, rfl⟩
  refine (?_ : AJ G K (q_Q G K ex n 0 0 _ _) 0 0 ex n 0 _ _ σ)
  rw [← hQ]
  refine A_iload_n hg dX9_isLetter_0 rfl rfl ?_
  refine A_bipush (v := (nI (97))) hg dX9_isLetter_1 (by decide) ?_
  refine A_icmp_lt (tgt := 16) hg dX9_isLetter_3 (by decide) (fun c3 => ?_) (fun c3 => ?_)
  · skip
    refine A_iconst (v := (nI (0))) hg dX9_isLetter_16 (by decide) ?_
    rw [hQ]
    exact A_zreturn hg (by decide) (by decide) rfl rfl dX9_isLetter_17 ⟨rfl, ⟨rfl, (q_rf (decide_eq_false (by first | (rw [q_dLt2 he (by decide)] at c3; omega) | (rw [q_dLt he (by decide)] at c9; omega))))⟩⟩
  · skip
    rw [q_dLt2 he (by decide)] at c3
    refine A_iload_n hg dX9_isLetter_6 rfl rfl ?_
    refine A_bipush (v := (nI (122))) hg dX9_isLetter_7 (by decide) ?_
    refine A_icmp_gt (tgt := 16) hg dX9_isLetter_9 (by decide) (fun c9 => ?_) (fun c9 => ?_)
    · skip
      refine A_iconst (v := (nI (0))) hg dX9_isLetter_16 (by decide) ?_
      rw [hQ]
      exact A_zreturn hg (by decide) (by decide) rfl rfl dX9_isLetter_17 ⟨rfl, ⟨rfl, (q_rf (decide_eq_false (by first | (rw [q_dLt2 he (by decide)] at c3; omega) | (rw [q_dLt he (by decide)] at c9; omega))))⟩⟩
    · skip
      rw [q_dLt he (by decide)] at c9
      refine A_iconst (v := (nI (1))) hg dX9_isLetter_12 (by decide) ?_
      refine A_goto (tgt := 17) hg dX9_isLetter_13 (by decide) ?_
      rw [hQ]
      exact A_zreturn hg (by decide) (by decide) rfl rfl dX9_isLetter_17 ⟨rfl, ⟨rfl, (q_rt (decide_eq_true (by omega)))⟩⟩
set_option maxRecDepth 100000 in
set_option maxHeartbeats 4000000 in
theorem c_X9_isDigit (G : GL) (ex : Bool) (n : Nat) (σ : Nat → va_E) (e : Nat)  (he : e < 2 ^ 31) : Ct G yX9_isDigit cX9_isDigit 1 (some .boolean) ⟨0, 0, 0, 0⟩ [.int (q_d (e))] ex n σ (fun v9 σ2 => σ2 = σ ∧ v9 = some (.int (q_b (decide (49 ≤ e ∧ e ≤ 58))))) := by
  refine q_enter [some (.int (q_d (e)))] (by decide) (Nat.le_of_ble_eq_true rfl) rfl ?_
  intro K hg
  obtain ⟨Q, hQ⟩ : ∃ Q, Q = q_Q G K ex n 0 0 (fun v9 n' σ' => n' = n ∧ (fun v9 σ2 => σ2 = σ ∧ v9 = some (.int (q_b (decide (49 ≤ e ∧ e ≤ 58))))) v9 σ') q_noX := ⟨_, rfl⟩
  refine (?_ : AJ G K (q_Q G K ex n 0 0 _ _) 0 0 ex n 0 _ _ σ)
  rw [← hQ]
  refine A_iload_n hg dX9_isDigit_0 rfl rfl ?_
  refine A_bipush (v := (nI (48))) hg dX9_isDigit_1 (by decide) ?_
  refine A_icmp_lt (tgt := 16) hg dX9_isDigit_3 (by decide) (fun c3 => ?_) (fun c3 => ?_)
  · skip
    refine A_iconst (v := (nI (0))) hg dX9_isDigit_16 (by decide) ?_
    rw [hQ]
    exact A_zreturn hg (by decide) (by decide) rfl rfl dX9_isDigit_17 ⟨rfl, ⟨rfl, (q_rf (decide_eq_false (by first | (rw [q_dLt2 he (by decide)] at c3; omega) | (rw [q_dLt he (by decide)] at c9; omega))))⟩⟩
  · skip
    rw [q_dLt2 he (by decide)] at c3
    refine A_iload_n hg dX9_isDigit_6 rfl rfl ?_
    refine A_bipush (v := (nI (57))) hg dX9_isDigit_7 (by decide) ?_
    refine A_icmp_gt (tgt := 16) hg dX9_isDigit_9 (by decide) (fun c9 => ?_) (fun c9 => ?_)
    · skip
      refine A_iconst (v := (nI (0))) hg dX9_isDigit_16 (by decide) ?_
      rw [hQ]
      exact A_zreturn hg (by decide) (by decide) rfl rfl dX9_isDigit_17 ⟨rfl, ⟨rfl, (q_rf (decide_eq_false (by first | (rw [q_dLt2 he (by decide)] at c3; omega) | (rw [q_dLt he (by decide)] at c9; omega))))⟩⟩
    · skip
      rw [q_dLt he (by decide)] at c9
      refine A_iconst (v := (nI (1))) hg dX9_isDigit_12 (by decide) ?_
      refine A_goto (tgt := 17) hg dX9_isDigit_13 (by decide) ?_
      rw [hQ]
      exact A_zreturn hg (by decide) (by decide) rfl rfl dX9_isDigit_17 ⟨rfl, ⟨rfl, (q_rt (decide_eq_true (by omega)))⟩⟩
set_option maxRecDepth 100000 in
set_option maxHeartbeats 4000000 in
theorem c_X9_advance (G : GL) (ex : Bool) (n : Nat) (σ : Nat → va_E) (f : Nat → Nat) (m : Nat) (kd : Int32) (st : Int32) (b : Nat) (nu : Int32) (hc0 : σ 3 = o9 G (1) (nI (m)) (kd) (st) (nI (b)) (nu)) (hc1 : σ 1 = q_an G 600 f) (hn9 : 279 ≤ n) (hm6 : m ≤ 600) (hbb : ∀ k : Nat, s_byte f m k ≤ 256) (hb : b ≤ m) : Ct G yX9_advance cX9_advance 2 none ⟨1, 0, 0, 21⟩ [.ref (q_h G + 3)] ex n σ (fun v9 σ2 => v9 = none ∧ ∃ (t : Nat), ∃ (nu2 : Int32), (t = tk_st f m b) ∧ (tk_kd f m t = 2 → nu2 = nI (tk_vl f m t)) ∧ σ2 3 = o9 G (1) (nI (m)) (nI (x_kd f m t)) (nI (t)) (nI (tk_be f m t)) (nu2) ∧ (∀ i : Nat, i ≠ 3 → σ2 i = σ i)) := by
  refine q_enter [some (.ref (q_h G + 3)), none] (by decide) (Nat.le_of_ble_eq_true rfl) rfl ?_
  intro K hg
  obtain ⟨Q, hQ⟩ : ∃ Q, Q = q_Q G K ex n 0 0 (fun v9 n' σ' => n' = n ∧ (fun v9 σ2 => v9 = none ∧ ∃ (t : Nat), ∃ (nu2 : Int32), (t = tk_st f m b) ∧ (tk_kd f m t = 2 → nu2 = nI (tk_vl f m t)) ∧ σ2 3 = o9 G (1) (nI (m)) (nI (x_kd f m t)) (nI (t)) (nI (tk_be f m t)) (nu2) ∧ (∀ i : Nat, i ≠ 3 → σ2 i = σ i)) v9 σ') q_noX := ⟨_, rfl⟩
  refine (?_ : AJ G K (q_Q G K ex n 0 0 _ _) 0 0 ex n 0 _ _ σ)
  rw [← hQ]
  have hfb : ∀ k : Nat, s_byte f m k < 2 ^ 31 := fun k => Nat.lt_of_le_of_lt (hbb k) (by decide)
  refine A_aload_n hg dX9_advance_0 rfl rfl ?_
  refine A_aload_n hg dX9_advance_1 rfl rfl ?_
  refine A_getf (v := .int (nI (b))) hg fl_RX9_25 dX9_advance_2 hc0 (by omega) rfl ?_
  refine A_putf hg fl_RX9_22 dX9_advance_5 hc0 (by omega) (Nat.le_of_ble_eq_true rfl) rfl rfl rfl (fun σ_1 hc_2 hf_3 => ?_)
  have hc_2 : σ_1 3 = o9 G (1) (nI (m)) (kd) (nI (b)) (nI (b)) (nu) := hc_2
  have hc_4 : σ_1 1 = q_an G 600 f := (hf_3 _ (by omega)).trans hc1
  have hL8 : ∀ (fu : Nat) (k1 : Nat) (σ_5 : Nat → va_E), (σ_5 1 = q_an G 600 f) → (σ_5 3 = o9 G (1) (nI (m)) (kd) (nI (k1)) (nI (b)) (nu)) → (∀ i : Nat, i ≠ 3 → σ_5 i = σ i) → (b ≤ k1 ∧ k1 ≤ m) → (∀ j : Nat, b ≤ j → j < k1 → tk_ws f m j = true) → (m - k1) < fu → AJ G K Q 0 0 ex n 8 [some (.ref (q_h G + 3)), none] [] σ_5 := by
    intro fu
    induction fu with
    | zero => intro k1 σ_5 hc_6 hc_7 hf_8 hk1 hall hm; exact absurd hm (Nat.not_lt_zero _)
    | succ fu ih8 =>
      intro k1 σ_5 hc_6 hc_7 hf_8 hk1 hall hm8
      refine A_aload_n hg dX9_advance_8 rfl rfl ?_
      refine A_getf (v := .int (nI (k1))) hg fl_RX9_22 dX9_advance_9 hc_7 (by omega) rfl ?_
      refine A_aload_n hg dX9_advance_12 rfl rfl ?_
      refine A_getf (v := .int (nI (m))) hg fl_RX9_15 dX9_advance_13 hc_7 (by omega) rfl ?_
      refine A_icmp_geN (tgt := 58) hg dX9_advance_16 (by omega) (by omega) (by decide) (fun c16 => ?_) (fun c16 => ?_)
      · skip
        have hst : k1 = tk_st f m b := x_st_stop hk1 hall (by first | exact Or.inl (by omega) | exact Or.inr ⟨c29, c42⟩)
        refine A_aload_n hg dX9_advance_58 rfl rfl ?_
        refine A_aload_n hg dX9_advance_59 rfl rfl ?_
        refine A_getf (v := .int (nI (k1))) hg fl_RX9_22 dX9_advance_60 hc_7 (by omega) rfl ?_
        refine A_putf hg fl_RX9_25 dX9_advance_63 hc_7 (by omega) (Nat.le_of_ble_eq_true rfl) rfl rfl rfl (fun σ_9 hc_10 hf_11 => ?_)
        have hc_10 : σ_9 3 = o9 G (1) (nI (m)) (kd) (nI (k1)) (nI (k1)) (nu) := hc_10
        have hc_12 : σ_9 1 = q_an G 600 f := (hf_11 _ (by omega)).trans hc_6
        refine A_aload_n hg dX9_advance_66 rfl rfl ?_
        refine A_aload_n hg dX9_advance_67 rfl rfl ?_
        refine A_getf (v := .int (nI (k1))) hg fl_RX9_22 dX9_advance_68 hc_10 (by omega) rfl ?_
        refine A_eV (kc2 := 0) (ks2 := 0) (As := [.int (nI (k1))]) (rest := []) hg lk_RX9_40 in_X9_byteAt se_X9_byteAt rfl dX9_advance_71 ⟨by decide, by decide⟩ rfl rfl ⟨by decide, by decide⟩ hc_10 (by omega) rfl rfl (Nat.le_of_ble_eq_true rfl) (c_X9_byteAt G ex n σ_9 f m kd (nI (k1)) (nI (k1)) nu k1 hc_10 hc_12 (by omega) hm6 (by omega)) ?_
        refine A_istore_n hg dX9_advance_74 rfl (by decide) (q_c1d rfl) ?_
        refine A_eq (ls2 := [some (.ref (q_h G + 3)), some (.int (q_d (s_byte f m k1)))]) (st2 := []) (pc2 := 0) rfl rfl ?_
        refine A_aload_n hg dX9_advance_75 rfl rfl ?_
        refine A_getf (v := .int (nI (k1))) hg fl_RX9_22 dX9_advance_76 hc_10 (by omega) rfl ?_
        refine A_aload_n hg dX9_advance_79 rfl rfl ?_
        refine A_getf (v := .int (nI (m))) hg fl_RX9_15 dX9_advance_80 hc_10 (by omega) rfl ?_
        refine A_icmp_ltN (tgt := 94) hg dX9_advance_83 (by omega) (by omega) (by decide) (fun c83 => ?_) (fun c83 => ?_)
        · skip
          refine A_iload_n hg dX9_advance_94 rfl rfl ?_
          refine A_eS (kc2 := 0) (ks2 := 0) (As := [.int (q_d (s_byte f m k1))]) (rest := []) hg lk_RX9_44 st_X9_isLetter dX9_advance_95 ⟨by decide, by decide⟩ rfl rfl ⟨by decide, by decide⟩ rfl rfl (Nat.le_of_ble_eq_true rfl) (c_X9_isLetter G ex n σ_9 (s_byte f m k1) (Nat.lt_of_le_of_lt (hbb _) (by decide))) ?_
          refine A_if_eqB (tgt := 144) hg dX9_advance_98 (by decide) (fun c98 => ?_) (fun c98 => ?_)
          · skip
            refine A_iload_n hg dX9_advance_144 rfl rfl ?_
            refine A_eS (kc2 := 0) (ks2 := 0) (As := [.int (q_d (s_byte f m k1))]) (rest := []) hg lk_RX9_48 st_X9_isDigit dX9_advance_145 ⟨by decide, by decide⟩ rfl rfl ⟨by decide, by decide⟩ rfl rfl (Nat.le_of_ble_eq_true rfl) (c_X9_isDigit G ex n σ_9 (s_byte f m k1) (Nat.lt_of_le_of_lt (hbb _) (by decide))) ?_
            refine A_if_eqB (tgt := 262) hg dX9_advance_148 (by decide) (fun c148 => ?_) (fun c148 => ?_)
            · skip
              refine A_aload_n hg dX9_advance_262 rfl rfl ?_
              refine A_iload_n hg dX9_advance_263 rfl rfl ?_
              refine A_bipush (v := (nI (59))) hg dX9_advance_264 (by decide) ?_
              refine A_top (w := .int (q_d 60)) rfl ?_
              refine A_icmp_neM (tgt := 273) hg dX9_advance_266 (Nat.lt_of_le_of_lt (hbb _) (by decide)) (by decide) (by decide) (fun c266 => ?_) (fun c266 => ?_)
              · skip
                refine A_iconst (v := (nI (4))) hg dX9_advance_273 (by decide) ?_
                refine A_putf hg fl_RX9_19 dX9_advance_274 hc_10 (by omega) (Nat.le_of_ble_eq_true rfl) rfl rfl rfl (fun σ_13 hc_14 hf_15 => ?_)
                have hc_14 : σ_13 3 = o9 G (1) (nI (m)) (nI (4)) (nI (k1)) (nI (k1)) (nu) := hc_14
                have hc_16 : σ_13 1 = q_an G 600 f := (hf_15 _ (by omega)).trans hc_12
                refine A_aload_n hg dX9_advance_277 rfl rfl ?_
                refine A_aload_n hg dX9_advance_278 rfl rfl ?_
                refine A_getf (v := .int (nI (k1))) hg fl_RX9_22 dX9_advance_279 hc_14 (by omega) rfl ?_
                refine A_iconst (v := (nI (1))) hg dX9_advance_282 (by decide) ?_
                refine A_iaddN hg dX9_advance_283 ?_
                refine A_putf hg fl_RX9_25 dX9_advance_284 hc_14 (by omega) (Nat.le_of_ble_eq_true rfl) rfl rfl rfl (fun σ_17 hc_18 hf_19 => ?_)
                have hc_18 : σ_17 3 = o9 G (1) (nI (m)) (nI (4)) (nI (k1)) (nI (k1 + 1)) (nu) := hc_18
                have hc_20 : σ_17 1 = q_an G 600 f := (hf_19 _ (by omega)).trans hc_16
                obtain ⟨hq1, hq2, hq3⟩ := x_kd_k3 (show k1 < m by omega) c98 c148
                rw [if_neg c266] at hq1
                have hc_21 : σ_17 3 = o9 G (1) (nI (m)) (nI (x_kd f m k1)) (nI (k1)) (nI (tk_be f m k1)) (nu) := hc_18.trans (by rw [hq1, hq2])
                rw [hQ]
                exact A_return hg (by decide) (by decide) rfl dX9_advance_287 ⟨rfl, ⟨rfl, k1, (nu), hst, (fun z => absurd z hq3), hc_21, (fun i hi => ((hf_19 i (by omega)).trans ((hf_15 i (by omega)).trans ((hf_11 i (by omega)).trans (hf_8 i (by omega))))))⟩⟩
              · skip
                refine A_iconst (v := (nI (3))) hg dX9_advance_269 (by decide) ?_
                refine A_goto (tgt := 274) hg dX9_advance_270 (by decide) ?_
                refine A_putf hg fl_RX9_19 dX9_advance_274 hc_10 (by omega) (Nat.le_of_ble_eq_true rfl) rfl rfl rfl (fun σ_22 hc_23 hf_24 => ?_)
                have hc_23 : σ_22 3 = o9 G (1) (nI (m)) (nI (3)) (nI (k1)) (nI (k1)) (nu) := hc_23
                have hc_25 : σ_22 1 = q_an G 600 f := (hf_24 _ (by omega)).trans hc_12
                refine A_aload_n hg dX9_advance_277 rfl rfl ?_
                refine A_aload_n hg dX9_advance_278 rfl rfl ?_
                refine A_getf (v := .int (nI (k1))) hg fl_RX9_22 dX9_advance_279 hc_23 (by omega) rfl ?_
                refine A_iconst (v := (nI (1))) hg dX9_advance_282 (by decide) ?_
                refine A_iaddN hg dX9_advance_283 ?_
                refine A_putf hg fl_RX9_25 dX9_advance_284 hc_23 (by omega) (Nat.le_of_ble_eq_true rfl) rfl rfl rfl (fun σ_26 hc_27 hf_28 => ?_)
                have hc_27 : σ_26 3 = o9 G (1) (nI (m)) (nI (3)) (nI (k1)) (nI (k1 + 1)) (nu) := hc_27
                have hc_29 : σ_26 1 = q_an G 600 f := (hf_28 _ (by omega)).trans hc_25
                obtain ⟨hq1, hq2, hq3⟩ := x_kd_k3 (show k1 < m by omega) c98 c148
                rw [if_pos c266] at hq1
                have hc_30 : σ_26 3 = o9 G (1) (nI (m)) (nI (x_kd f m k1)) (nI (k1)) (nI (tk_be f m k1)) (nu) := hc_27.trans (by rw [hq1, hq2])
                rw [hQ]
                exact A_return hg (by decide) (by decide) rfl dX9_advance_287 ⟨rfl, ⟨rfl, k1, (nu), hst, (fun z => absurd z hq3), hc_30, (fun i hi => ((hf_28 i (by omega)).trans ((hf_24 i (by omega)).trans ((hf_11 i (by omega)).trans (hf_8 i (by omega))))))⟩⟩
            · skip
              refine A_aload_n hg dX9_advance_151 rfl rfl ?_
              refine A_iconst (v := (nI (0))) hg dX9_advance_152 (by decide) ?_
              refine A_putf hg fl_RX9_28 dX9_advance_153 hc_10 (by omega) (Nat.le_of_ble_eq_true rfl) rfl rfl rfl (fun σ_31 hc_32 hf_33 => ?_)
              have hc_32 : σ_31 3 = o9 G (1) (nI (m)) (kd) (nI (k1)) (nI (k1)) (nI (0)) := hc_32
              have hc_34 : σ_31 1 = q_an G 600 f := (hf_33 _ (by omega)).trans hc_12
              have hc_35 : σ_31 3 = o9 G (1) (nI (m)) (kd) (nI (k1)) (nI (k1)) (nI (tk_dv f k1 (k1 - k1))) := hc_32.trans (by rw [Nat.sub_self]; rfl)
              have hL156 : ∀ (fu : Nat) (k2 : Nat) (σ_36 : Nat → va_E), (σ_36 1 = q_an G 600 f) → (σ_36 3 = o9 G (1) (nI (m)) (kd) (nI (k1)) (nI (k2)) (nI (tk_dv f k1 (k2 - k1)))) → (∀ i : Nat, i ≠ 3 → σ_36 i = σ i) → (k1 ≤ k2 ∧ k2 ≤ m) → (∀ j : Nat, k1 ≤ j → j < k2 → tk_dig f m j = true) → (m - k2) < fu → AJ G K Q 0 0 ex n 156 [some (.ref (q_h G + 3)), some (.int (q_d (s_byte f m k1)))] [] σ_36 := by
                intro fu
                induction fu with
                | zero => intro k2 σ_36 hc_37 hc_38 hf_39 hk2 hall2 hm; exact absurd hm (Nat.not_lt_zero _)
                | succ fu ih156 =>
                  intro k2 σ_36 hc_37 hc_38 hf_39 hk2 hall2 hm156
                  refine A_aload_n hg dX9_advance_156 rfl rfl ?_
                  refine A_getf (v := .int (nI (k2))) hg fl_RX9_25 dX9_advance_157 hc_38 (by omega) rfl ?_
                  refine A_aload_n hg dX9_advance_160 rfl rfl ?_
                  refine A_getf (v := .int (nI (m))) hg fl_RX9_15 dX9_advance_161 hc_38 (by omega) rfl ?_
                  refine A_icmp_geN (tgt := 237) hg dX9_advance_164 (by omega) (by omega) (by decide) (fun c164 => ?_) (fun c164 => ?_)
                  · skip
                    refine A_aload_n hg dX9_advance_237 rfl rfl ?_
                    refine A_aload_n hg dX9_advance_238 rfl rfl ?_
                    refine A_getf (v := .int (nI (k2))) hg fl_RX9_25 dX9_advance_239 hc_38 (by omega) rfl ?_
                    refine A_aload_n hg dX9_advance_242 rfl rfl ?_
                    refine A_getf (v := .int (nI (k1))) hg fl_RX9_22 dX9_advance_243 hc_38 (by omega) rfl ?_
                    refine A_isubN hg dX9_advance_246 (by omega) ?_
                    refine A_iconst (v := (nI (3))) hg dX9_advance_247 (by decide) ?_
                    refine A_icmp_gtN (tgt := 255) hg dX9_advance_248 (by omega) (by decide) (by decide) (fun c248 => ?_) (fun c248 => ?_)
                    · skip
                      refine A_iconst (v := (nI (4))) hg dX9_advance_255 (by decide) ?_
                      refine A_putf hg fl_RX9_19 dX9_advance_256 hc_38 (by omega) (Nat.le_of_ble_eq_true rfl) rfl rfl rfl (fun σ_40 hc_41 hf_42 => ?_)
                      have hc_41 : σ_40 3 = o9 G (1) (nI (m)) (nI (4)) (nI (k1)) (nI (k2)) (nI (tk_dv f k1 (k2 - k1))) := hc_41
                      have hc_43 : σ_40 1 = q_an G 600 f := (hf_42 _ (by omega)).trans hc_37
                      refine A_goto (tgt := 287) hg dX9_advance_259 (by decide) ?_
                      obtain ⟨hq1, hq2, hq3⟩ := x_kd_k2 c148 hk2 hall2 (by first | exact Or.inl (by omega) | exact Or.inr c178)
                      rw [if_pos c248] at hq1
                      have hc_44 : σ_40 3 = o9 G (1) (nI (m)) (nI (x_kd f m k1)) (nI (k1)) (nI (tk_be f m k1)) (nI (tk_dv f k1 (k2 - k1))) := hc_41.trans (by rw [hq1, hq2])
                      rw [hQ]
                      exact A_return hg (by decide) (by decide) rfl dX9_advance_287 ⟨rfl, ⟨rfl, k1, (nI (tk_dv f k1 (k2 - k1))), hst, (fun _ => by rw [hq3]), hc_44, (fun i hi => ((hf_42 i (by omega)).trans (hf_39 i (by omega))))⟩⟩
                    · skip
                      refine A_iconst (v := (nI (2))) hg dX9_advance_251 (by decide) ?_
                      refine A_goto (tgt := 256) hg dX9_advance_252 (by decide) ?_
                      refine A_putf hg fl_RX9_19 dX9_advance_256 hc_38 (by omega) (Nat.le_of_ble_eq_true rfl) rfl rfl rfl (fun σ_45 hc_46 hf_47 => ?_)
                      have hc_46 : σ_45 3 = o9 G (1) (nI (m)) (nI (2)) (nI (k1)) (nI (k2)) (nI (tk_dv f k1 (k2 - k1))) := hc_46
                      have hc_48 : σ_45 1 = q_an G 600 f := (hf_47 _ (by omega)).trans hc_37
                      refine A_goto (tgt := 287) hg dX9_advance_259 (by decide) ?_
                      obtain ⟨hq1, hq2, hq3⟩ := x_kd_k2 c148 hk2 hall2 (by first | exact Or.inl (by omega) | exact Or.inr c178)
                      rw [if_neg c248] at hq1
                      have hc_49 : σ_45 3 = o9 G (1) (nI (m)) (nI (x_kd f m k1)) (nI (k1)) (nI (tk_be f m k1)) (nI (tk_dv f k1 (k2 - k1))) := hc_46.trans (by rw [hq1, hq2])
                      rw [hQ]
                      exact A_return hg (by decide) (by decide) rfl dX9_advance_287 ⟨rfl, ⟨rfl, k1, (nI (tk_dv f k1 (k2 - k1))), hst, (fun _ => by rw [hq3]), hc_49, (fun i hi => ((hf_47 i (by omega)).trans (hf_39 i (by omega))))⟩⟩
                  · skip
                    refine A_aload_n hg dX9_advance_167 rfl rfl ?_
                    refine A_aload_n hg dX9_advance_168 rfl rfl ?_
                    refine A_getf (v := .int (nI (k2))) hg fl_RX9_25 dX9_advance_169 hc_38 (by omega) rfl ?_
                    refine A_eV (kc2 := 0) (ks2 := 0) (As := [.int (nI (k2))]) (rest := []) hg lk_RX9_40 in_X9_byteAt se_X9_byteAt rfl dX9_advance_172 ⟨by decide, by decide⟩ rfl rfl ⟨by decide, by decide⟩ hc_38 (by omega) rfl rfl (Nat.le_of_ble_eq_true rfl) (c_X9_byteAt G ex n σ_36 f m kd (nI (k1)) (nI (k2)) (nI (tk_dv f k1 (k2 - k1))) k2 hc_38 hc_37 (by omega) hm6 (by omega)) ?_
                    refine A_eS (kc2 := 0) (ks2 := 0) (As := [.int (q_d (s_byte f m k2))]) (rest := []) hg lk_RX9_48 st_X9_isDigit dX9_advance_175 ⟨by decide, by decide⟩ rfl rfl ⟨by decide, by decide⟩ rfl rfl (Nat.le_of_ble_eq_true rfl) (c_X9_isDigit G ex n σ_36 (s_byte f m k2) (Nat.lt_of_le_of_lt (hbb _) (by decide))) ?_
                    refine A_top (w := .int (q_b (tk_dig f m k2))) rfl ?_
                    refine A_if_eqB (tgt := 237) hg dX9_advance_178 (by decide) (fun c178 => ?_) (fun c178 => ?_)
                    · skip
                      refine A_aload_n hg dX9_advance_237 rfl rfl ?_
                      refine A_aload_n hg dX9_advance_238 rfl rfl ?_
                      refine A_getf (v := .int (nI (k2))) hg fl_RX9_25 dX9_advance_239 hc_38 (by omega) rfl ?_
                      refine A_aload_n hg dX9_advance_242 rfl rfl ?_
                      refine A_getf (v := .int (nI (k1))) hg fl_RX9_22 dX9_advance_243 hc_38 (by omega) rfl ?_
                      refine A_isubN hg dX9_advance_246 (by omega) ?_
                      refine A_iconst (v := (nI (3))) hg dX9_advance_247 (by decide) ?_
                      refine A_icmp_gtN (tgt := 255) hg dX9_advance_248 (by omega) (by decide) (by decide) (fun c248 => ?_) (fun c248 => ?_)
                      · skip
                        refine A_iconst (v := (nI (4))) hg dX9_advance_255 (by decide) ?_
                        refine A_putf hg fl_RX9_19 dX9_advance_256 hc_38 (by omega) (Nat.le_of_ble_eq_true rfl) rfl rfl rfl (fun σ_50 hc_51 hf_52 => ?_)
                        have hc_51 : σ_50 3 = o9 G (1) (nI (m)) (nI (4)) (nI (k1)) (nI (k2)) (nI (tk_dv f k1 (k2 - k1))) := hc_51
                        have hc_53 : σ_50 1 = q_an G 600 f := (hf_52 _ (by omega)).trans hc_37
                        refine A_goto (tgt := 287) hg dX9_advance_259 (by decide) ?_
                        obtain ⟨hq1, hq2, hq3⟩ := x_kd_k2 c148 hk2 hall2 (by first | exact Or.inl (by omega) | exact Or.inr c178)
                        rw [if_pos c248] at hq1
                        have hc_54 : σ_50 3 = o9 G (1) (nI (m)) (nI (x_kd f m k1)) (nI (k1)) (nI (tk_be f m k1)) (nI (tk_dv f k1 (k2 - k1))) := hc_51.trans (by rw [hq1, hq2])
                        rw [hQ]
                        exact A_return hg (by decide) (by decide) rfl dX9_advance_287 ⟨rfl, ⟨rfl, k1, (nI (tk_dv f k1 (k2 - k1))), hst, (fun _ => by rw [hq3]), hc_54, (fun i hi => ((hf_52 i (by omega)).trans (hf_39 i (by omega))))⟩⟩
                      · skip
                        refine A_iconst (v := (nI (2))) hg dX9_advance_251 (by decide) ?_
                        refine A_goto (tgt := 256) hg dX9_advance_252 (by decide) ?_
                        refine A_putf hg fl_RX9_19 dX9_advance_256 hc_38 (by omega) (Nat.le_of_ble_eq_true rfl) rfl rfl rfl (fun σ_55 hc_56 hf_57 => ?_)
                        have hc_56 : σ_55 3 = o9 G (1) (nI (m)) (nI (2)) (nI (k1)) (nI (k2)) (nI (tk_dv f k1 (k2 - k1))) := hc_56
                        have hc_58 : σ_55 1 = q_an G 600 f := (hf_57 _ (by omega)).trans hc_37
                        refine A_goto (tgt := 287) hg dX9_advance_259 (by decide) ?_
                        obtain ⟨hq1, hq2, hq3⟩ := x_kd_k2 c148 hk2 hall2 (by first | exact Or.inl (by omega) | exact Or.inr c178)
                        rw [if_neg c248] at hq1
                        have hc_59 : σ_55 3 = o9 G (1) (nI (m)) (nI (x_kd f m k1)) (nI (k1)) (nI (tk_be f m k1)) (nI (tk_dv f k1 (k2 - k1))) := hc_56.trans (by rw [hq1, hq2])
                        rw [hQ]
                        exact A_return hg (by decide) (by decide) rfl dX9_advance_287 ⟨rfl, ⟨rfl, k1, (nI (tk_dv f k1 (k2 - k1))), hst, (fun _ => by rw [hq3]), hc_59, (fun i hi => ((hf_57 i (by omega)).trans (hf_39 i (by omega))))⟩⟩
                    · skip
                      refine A_aload_n hg dX9_advance_181 rfl rfl ?_
                      refine A_aload_n hg dX9_advance_182 rfl rfl ?_
                      refine A_getf (v := .int (nI (k2))) hg fl_RX9_25 dX9_advance_183 hc_38 (by omega) rfl ?_
                      refine A_aload_n hg dX9_advance_186 rfl rfl ?_
                      refine A_getf (v := .int (nI (k1))) hg fl_RX9_22 dX9_advance_187 hc_38 (by omega) rfl ?_
                      refine A_isubN hg dX9_advance_190 (by omega) ?_
                      refine A_iconst (v := (nI (3))) hg dX9_advance_191 (by decide) ?_
                      refine A_icmp_geN (tgt := 217) hg dX9_advance_192 (by omega) (by decide) (by decide) (fun c192 => ?_) (fun c192 => ?_)
                      · skip
                        refine A_aload_n hg dX9_advance_217 rfl rfl ?_
                        refine A_getf (v := .int (nI (tk_dv f k1 (k2 - k1)))) hg fl_RX9_28 dX9_advance_218 hc_38 (by omega) rfl ?_
                        refine A_putf hg fl_RX9_28 dX9_advance_221 hc_38 (by omega) (Nat.le_of_ble_eq_true rfl) rfl rfl rfl (fun σ_60 hc_61 hf_62 => ?_)
                        have hc_61 : σ_60 3 = o9 G (1) (nI (m)) (kd) (nI (k1)) (nI (k2)) (nI (tk_dv f k1 (k2 - k1))) := hc_61
                        have hc_63 : σ_60 1 = q_an G 600 f := (hf_62 _ (by omega)).trans hc_37
                        have hc_64 : σ_60 3 = o9 G (1) (nI (m)) (kd) (nI (k1)) (nI (k2)) (nI (tk_dv f k1 (k2 + 1 - k1))) := hc_61.trans (by rw [tk_dv_f hk2.1 (by omega)])
                        refine A_aload_n hg dX9_advance_224 rfl rfl ?_
                        refine A_dup hg dX9_advance_225 rfl ?_
                        refine A_getf (v := .int (nI (k2))) hg fl_RX9_25 dX9_advance_226 hc_64 (by omega) rfl ?_
                        refine A_iconst (v := (nI (1))) hg dX9_advance_229 (by decide) ?_
                        refine A_iaddN hg dX9_advance_230 ?_
                        refine A_putf hg fl_RX9_25 dX9_advance_231 hc_64 (by omega) (Nat.le_of_ble_eq_true rfl) rfl rfl rfl (fun σ_65 hc_66 hf_67 => ?_)
                        have hc_66 : σ_65 3 = o9 G (1) (nI (m)) (kd) (nI (k1)) (nI (k2 + 1)) (nI (tk_dv f k1 (k2 + 1 - k1))) := hc_66
                        have hc_68 : σ_65 1 = q_an G 600 f := (hf_67 _ (by omega)).trans hc_63
                        refine A_goto (tgt := 156) hg dX9_advance_234 (by decide) ?_
                        exact ih156 (k2 + 1) σ_65 hc_68 hc_66 (fun i hi => ((hf_67 i (by omega)).trans ((hf_62 i (by omega)).trans (hf_39 i (by omega))))) (by omega) (tk_hall hall2 c178) (by omega)
                      · skip
                        have hdg := tk_dig_f c178
                        have hdv := tk_dv_1000 (f := f) (m := m) (t := k1) (n := k2 - k1) (fun j h1 h2 => hall2 j h1 (by omega))
                        refine A_aload_n hg dX9_advance_195 rfl rfl ?_
                        refine A_getf (v := .int (nI (tk_dv f k1 (k2 - k1)))) hg fl_RX9_28 dX9_advance_196 hc_38 (by omega) rfl ?_
                        refine A_bipush (v := (nI (10))) hg dX9_advance_199 (by decide) ?_
                        refine A_imulN hg dX9_advance_201 ?_
                        refine A_aload_n hg dX9_advance_202 rfl rfl ?_
                        refine A_aload_n hg dX9_advance_203 rfl rfl ?_
                        refine A_getf (v := .int (nI (k2))) hg fl_RX9_25 dX9_advance_204 hc_38 (by omega) rfl ?_
                        refine A_eV (kc2 := 0) (ks2 := 0) (As := [.int (nI (k2))]) (rest := [.int (nI ((tk_dv f k1 (k2 - k1)) * 10)), .ref (q_h G + 3)]) hg lk_RX9_40 in_X9_byteAt se_X9_byteAt rfl dX9_advance_207 ⟨by decide, by decide⟩ rfl rfl ⟨by decide, by decide⟩ hc_38 (by omega) rfl rfl (Nat.le_of_ble_eq_true rfl) (c_X9_byteAt G ex n σ_36 f m kd (nI (k1)) (nI (k2)) (nI (tk_dv f k1 (k2 - k1))) k2 hc_38 hc_37 (by omega) hm6 (by omega)) ?_
                        refine A_top (w := .int (nI (f k2))) (by rw [x_byte_in (show k2 < m by omega), q_dS]) ?_
                        refine A_iaddN hg dX9_advance_210 ?_
                        refine A_bipush (v := (nI (48))) hg dX9_advance_211 (by decide) ?_
                        refine A_isubN hg dX9_advance_213 (by omega) ?_
                        refine A_goto (tgt := 221) hg dX9_advance_214 (by decide) ?_
                        refine A_putf hg fl_RX9_28 dX9_advance_221 hc_38 (by omega) (Nat.le_of_ble_eq_true rfl) rfl rfl rfl (fun σ_69 hc_70 hf_71 => ?_)
                        have hc_70 : σ_69 3 = o9 G (1) (nI (m)) (kd) (nI (k1)) (nI (k2)) (nI ((((tk_dv f k1 (k2 - k1)) * 10) + (f k2)) - 48)) := hc_70
                        have hc_72 : σ_69 1 = q_an G 600 f := (hf_71 _ (by omega)).trans hc_37
                        have hc_73 : σ_69 3 = o9 G (1) (nI (m)) (kd) (nI (k1)) (nI (k2)) (nI (tk_dv f k1 (k2 + 1 - k1))) := hc_70.trans (by rw [tk_dv_t hk2.1 (by omega), Nat.mul_comm 10])
                        refine A_aload_n hg dX9_advance_224 rfl rfl ?_
                        refine A_dup hg dX9_advance_225 rfl ?_
                        refine A_getf (v := .int (nI (k2))) hg fl_RX9_25 dX9_advance_226 hc_73 (by omega) rfl ?_
                        refine A_iconst (v := (nI (1))) hg dX9_advance_229 (by decide) ?_
                        refine A_iaddN hg dX9_advance_230 ?_
                        refine A_putf hg fl_RX9_25 dX9_advance_231 hc_73 (by omega) (Nat.le_of_ble_eq_true rfl) rfl rfl rfl (fun σ_74 hc_75 hf_76 => ?_)
                        have hc_75 : σ_74 3 = o9 G (1) (nI (m)) (kd) (nI (k1)) (nI (k2 + 1)) (nI (tk_dv f k1 (k2 + 1 - k1))) := hc_75
                        have hc_77 : σ_74 1 = q_an G 600 f := (hf_76 _ (by omega)).trans hc_72
                        refine A_goto (tgt := 156) hg dX9_advance_234 (by decide) ?_
                        exact ih156 (k2 + 1) σ_74 hc_77 hc_75 (fun i hi => ((hf_76 i (by omega)).trans ((hf_71 i (by omega)).trans (hf_39 i (by omega))))) (by omega) (tk_hall hall2 c178) (by omega)
              exact hL156 _ k1 σ_31 hc_34 hc_35 (fun i hi => ((hf_33 i (by omega)).trans ((hf_11 i (by omega)).trans (hf_8 i (by omega))))) (⟨Nat.le_refl _, hk1.2⟩) (fun j h1 h2 => absurd h2 (by omega)) (Nat.lt_succ_self _)
          · skip
            refine A_aload_n hg dX9_advance_101 rfl rfl ?_
            refine A_iconst (v := (nI (1))) hg dX9_advance_102 (by decide) ?_
            refine A_putf hg fl_RX9_19 dX9_advance_103 hc_10 (by omega) (Nat.le_of_ble_eq_true rfl) rfl rfl rfl (fun σ_78 hc_79 hf_80 => ?_)
            have hc_79 : σ_78 3 = o9 G (1) (nI (m)) (nI (1)) (nI (k1)) (nI (k1)) (nu) := hc_79
            have hc_81 : σ_78 1 = q_an G 600 f := (hf_80 _ (by omega)).trans hc_12
            have hL106 : ∀ (fu : Nat) (k2 : Nat) (σ_82 : Nat → va_E), (σ_82 1 = q_an G 600 f) → (σ_82 3 = o9 G (1) (nI (m)) (nI (1)) (nI (k1)) (nI (k2)) (nu)) → (∀ i : Nat, i ≠ 3 → σ_82 i = σ i) → (k1 ≤ k2 ∧ k2 ≤ m) → (∀ j : Nat, k1 ≤ j → j < k2 → tk_let f m j = true) → (m - k2) < fu → AJ G K Q 0 0 ex n 106 [some (.ref (q_h G + 3)), some (.int (q_d (s_byte f m k1)))] [] σ_82 := by
              intro fu
              induction fu with
              | zero => intro k2 σ_82 hc_83 hc_84 hf_85 hk2 hall2 hm; exact absurd hm (Nat.not_lt_zero _)
              | succ fu ih106 =>
                intro k2 σ_82 hc_83 hc_84 hf_85 hk2 hall2 hm106
                refine A_aload_n hg dX9_advance_106 rfl rfl ?_
                refine A_getf (v := .int (nI (k2))) hg fl_RX9_25 dX9_advance_107 hc_84 (by omega) rfl ?_
                refine A_aload_n hg dX9_advance_110 rfl rfl ?_
                refine A_getf (v := .int (nI (m))) hg fl_RX9_15 dX9_advance_111 hc_84 (by omega) rfl ?_
                refine A_icmp_geN (tgt := 287) hg dX9_advance_114 (by omega) (by omega) (by decide) (fun c114 => ?_) (fun c114 => ?_)
                · skip
                  obtain ⟨hq1, hq2, hq3⟩ := x_kd_k1 c98 hk2 hall2 (by first | exact Or.inl (by omega) | exact Or.inr c128)
                  have hc_86 : σ_82 3 = o9 G (1) (nI (m)) (nI (x_kd f m k1)) (nI (k1)) (nI (tk_be f m k1)) (nu) := hc_84.trans (by rw [hq1, hq2])
                  rw [hQ]
                  exact A_return hg (by decide) (by decide) rfl dX9_advance_287 ⟨rfl, ⟨rfl, k1, (nu), hst, (fun z => by omega), hc_86, (fun i hi => (hf_85 i (by omega)))⟩⟩
                · skip
                  refine A_aload_n hg dX9_advance_117 rfl rfl ?_
                  refine A_aload_n hg dX9_advance_118 rfl rfl ?_
                  refine A_getf (v := .int (nI (k2))) hg fl_RX9_25 dX9_advance_119 hc_84 (by omega) rfl ?_
                  refine A_eV (kc2 := 0) (ks2 := 0) (As := [.int (nI (k2))]) (rest := []) hg lk_RX9_40 in_X9_byteAt se_X9_byteAt rfl dX9_advance_122 ⟨by decide, by decide⟩ rfl rfl ⟨by decide, by decide⟩ hc_84 (by omega) rfl rfl (Nat.le_of_ble_eq_true rfl) (c_X9_byteAt G ex n σ_82 f m (nI (1)) (nI (k1)) (nI (k2)) nu k2 hc_84 hc_83 (by omega) hm6 (by omega)) ?_
                  refine A_eS (kc2 := 0) (ks2 := 0) (As := [.int (q_d (s_byte f m k2))]) (rest := []) hg lk_RX9_44 st_X9_isLetter dX9_advance_125 ⟨by decide, by decide⟩ rfl rfl ⟨by decide, by decide⟩ rfl rfl (Nat.le_of_ble_eq_true rfl) (c_X9_isLetter G ex n σ_82 (s_byte f m k2) (Nat.lt_of_le_of_lt (hbb _) (by decide))) ?_
                  refine A_top (w := .int (q_b (tk_let f m k2))) rfl ?_
                  refine A_if_eqB (tgt := 287) hg dX9_advance_128 (by decide) (fun c128 => ?_) (fun c128 => ?_)
                  · skip
                    obtain ⟨hq1, hq2, hq3⟩ := x_kd_k1 c98 hk2 hall2 (by first | exact Or.inl (by omega) | exact Or.inr c128)
                    have hc_87 : σ_82 3 = o9 G (1) (nI (m)) (nI (x_kd f m k1)) (nI (k1)) (nI (tk_be f m k1)) (nu) := hc_84.trans (by rw [hq1, hq2])
                    rw [hQ]
                    exact A_return hg (by decide) (by decide) rfl dX9_advance_287 ⟨rfl, ⟨rfl, k1, (nu), hst, (fun z => by omega), hc_87, (fun i hi => (hf_85 i (by omega)))⟩⟩
                  · skip
                    refine A_aload_n hg dX9_advance_131 rfl rfl ?_
                    refine A_dup hg dX9_advance_132 rfl ?_
                    refine A_getf (v := .int (nI (k2))) hg fl_RX9_25 dX9_advance_133 hc_84 (by omega) rfl ?_
                    refine A_iconst (v := (nI (1))) hg dX9_advance_136 (by decide) ?_
                    refine A_iaddN hg dX9_advance_137 ?_
                    refine A_putf hg fl_RX9_25 dX9_advance_138 hc_84 (by omega) (Nat.le_of_ble_eq_true rfl) rfl rfl rfl (fun σ_88 hc_89 hf_90 => ?_)
                    have hc_89 : σ_88 3 = o9 G (1) (nI (m)) (nI (1)) (nI (k1)) (nI (k2 + 1)) (nu) := hc_89
                    have hc_91 : σ_88 1 = q_an G 600 f := (hf_90 _ (by omega)).trans hc_83
                    refine A_goto (tgt := 106) hg dX9_advance_141 (by decide) ?_
                    exact ih106 (k2 + 1) σ_88 hc_91 hc_89 (fun i hi => ((hf_90 i (by omega)).trans (hf_85 i (by omega)))) (by omega) (tk_hall hall2 c128) (by omega)
            exact hL106 _ k1 σ_78 hc_81 hc_79 (fun i hi => ((hf_80 i (by omega)).trans ((hf_11 i (by omega)).trans (hf_8 i (by omega))))) (⟨Nat.le_refl _, hk1.2⟩) (fun j h1 h2 => absurd h2 (by omega)) (Nat.lt_succ_self _)
        · skip
          refine A_aload_n hg dX9_advance_86 rfl rfl ?_
          refine A_iconst (v := (nI (0))) hg dX9_advance_87 (by decide) ?_
          refine A_putf hg fl_RX9_19 dX9_advance_88 hc_10 (by omega) (Nat.le_of_ble_eq_true rfl) rfl rfl rfl (fun σ_92 hc_93 hf_94 => ?_)
          have hc_93 : σ_92 3 = o9 G (1) (nI (m)) (nI (0)) (nI (k1)) (nI (k1)) (nu) := hc_93
          have hc_95 : σ_92 1 = q_an G 600 f := (hf_94 _ (by omega)).trans hc_12
          refine A_goto (tgt := 287) hg dX9_advance_91 (by decide) ?_
          obtain ⟨hq1, hq2⟩ := x_kd_k0 (f := f) (show m ≤ k1 by omega)
          have hc_96 : σ_92 3 = o9 G (1) (nI (m)) (nI (x_kd f m k1)) (nI (k1)) (nI (tk_be f m k1)) (nu) := hc_93.trans (by rw [hq1, hq2])
          rw [hQ]
          exact A_return hg (by decide) (by decide) rfl dX9_advance_287 ⟨rfl, ⟨rfl, k1, (nu), hst, (fun z => by have := x_kd_0.mp hq1; omega), hc_96, (fun i hi => ((hf_94 i (by omega)).trans ((hf_11 i (by omega)).trans (hf_8 i (by omega)))))⟩⟩
      · skip
        refine A_aload_n hg dX9_advance_19 rfl rfl ?_
        refine A_aload_n hg dX9_advance_20 rfl rfl ?_
        refine A_getf (v := .int (nI (k1))) hg fl_RX9_22 dX9_advance_21 hc_7 (by omega) rfl ?_
        refine A_eV (kc2 := 0) (ks2 := 0) (As := [.int (nI (k1))]) (rest := []) hg lk_RX9_40 in_X9_byteAt se_X9_byteAt rfl dX9_advance_24 ⟨by decide, by decide⟩ rfl rfl ⟨by decide, by decide⟩ hc_7 (by omega) rfl rfl (Nat.le_of_ble_eq_true rfl) (c_X9_byteAt G ex n σ_5 f m kd (nI (k1)) (nI (b)) nu k1 hc_7 hc_6 (by omega) hm6 (by omega)) ?_
        refine A_bipush (v := (nI (32))) hg dX9_advance_27 (by decide) ?_
        refine A_top (w := .int (q_d 33)) rfl ?_
        refine A_icmp_eqM (tgt := 45) hg dX9_advance_29 (Nat.lt_of_le_of_lt (hbb _) (by decide)) (by decide) (by decide) (fun c29 => ?_) (fun c29 => ?_)
        · skip
          refine A_aload_n hg dX9_advance_45 rfl rfl ?_
          refine A_dup hg dX9_advance_46 rfl ?_
          refine A_getf (v := .int (nI (k1))) hg fl_RX9_22 dX9_advance_47 hc_7 (by omega) rfl ?_
          refine A_iconst (v := (nI (1))) hg dX9_advance_50 (by decide) ?_
          refine A_iaddN hg dX9_advance_51 ?_
          refine A_putf hg fl_RX9_22 dX9_advance_52 hc_7 (by omega) (Nat.le_of_ble_eq_true rfl) rfl rfl rfl (fun σ_97 hc_98 hf_99 => ?_)
          have hc_98 : σ_97 3 = o9 G (1) (nI (m)) (kd) (nI (k1 + 1)) (nI (b)) (nu) := hc_98
          have hc_100 : σ_97 1 = q_an G 600 f := (hf_99 _ (by omega)).trans hc_6
          refine A_goto (tgt := 8) hg dX9_advance_55 (by decide) ?_
          exact ih8 (k1 + 1) σ_97 hc_100 hc_98 (fun i hi => ((hf_99 i (by omega)).trans (hf_8 i (by omega)))) (by omega) (tk_hall hall (tk_ws_t (by first | exact Or.inl c29 | exact Or.inr c42))) (by omega)
        · skip
          refine A_aload_n hg dX9_advance_32 rfl rfl ?_
          refine A_aload_n hg dX9_advance_33 rfl rfl ?_
          refine A_getf (v := .int (nI (k1))) hg fl_RX9_22 dX9_advance_34 hc_7 (by omega) rfl ?_
          refine A_eV (kc2 := 0) (ks2 := 0) (As := [.int (nI (k1))]) (rest := []) hg lk_RX9_40 in_X9_byteAt se_X9_byteAt rfl dX9_advance_37 ⟨by decide, by decide⟩ rfl rfl ⟨by decide, by decide⟩ hc_7 (by omega) rfl rfl (Nat.le_of_ble_eq_true rfl) (c_X9_byteAt G ex n σ_5 f m kd (nI (k1)) (nI (b)) nu k1 hc_7 hc_6 (by omega) hm6 (by omega)) ?_
          refine A_bipush (v := (nI (10))) hg dX9_advance_40 (by decide) ?_
          refine A_top (w := .int (q_d 11)) rfl ?_
          refine A_icmp_neM (tgt := 58) hg dX9_advance_42 (Nat.lt_of_le_of_lt (hbb _) (by decide)) (by decide) (by decide) (fun c42 => ?_) (fun c42 => ?_)
          · skip
            have hst : k1 = tk_st f m b := x_st_stop hk1 hall (by first | exact Or.inl (by omega) | exact Or.inr ⟨c29, c42⟩)
            refine A_aload_n hg dX9_advance_58 rfl rfl ?_
            refine A_aload_n hg dX9_advance_59 rfl rfl ?_
            refine A_getf (v := .int (nI (k1))) hg fl_RX9_22 dX9_advance_60 hc_7 (by omega) rfl ?_
            refine A_putf hg fl_RX9_25 dX9_advance_63 hc_7 (by omega) (Nat.le_of_ble_eq_true rfl) rfl rfl rfl (fun σ_101 hc_102 hf_103 => ?_)
            have hc_102 : σ_101 3 = o9 G (1) (nI (m)) (kd) (nI (k1)) (nI (k1)) (nu) := hc_102
            have hc_104 : σ_101 1 = q_an G 600 f := (hf_103 _ (by omega)).trans hc_6
            refine A_aload_n hg dX9_advance_66 rfl rfl ?_
            refine A_aload_n hg dX9_advance_67 rfl rfl ?_
            refine A_getf (v := .int (nI (k1))) hg fl_RX9_22 dX9_advance_68 hc_102 (by omega) rfl ?_
            refine A_eV (kc2 := 0) (ks2 := 0) (As := [.int (nI (k1))]) (rest := []) hg lk_RX9_40 in_X9_byteAt se_X9_byteAt rfl dX9_advance_71 ⟨by decide, by decide⟩ rfl rfl ⟨by decide, by decide⟩ hc_102 (by omega) rfl rfl (Nat.le_of_ble_eq_true rfl) (c_X9_byteAt G ex n σ_101 f m kd (nI (k1)) (nI (k1)) nu k1 hc_102 hc_104 (by omega) hm6 (by omega)) ?_
            refine A_istore_n hg dX9_advance_74 rfl (by decide) (q_c1d rfl) ?_
            refine A_eq (ls2 := [some (.ref (q_h G + 3)), some (.int (q_d (s_byte f m k1)))]) (st2 := []) (pc2 := 0) rfl rfl ?_
            refine A_aload_n hg dX9_advance_75 rfl rfl ?_
            refine A_getf (v := .int (nI (k1))) hg fl_RX9_22 dX9_advance_76 hc_102 (by omega) rfl ?_
            refine A_aload_n hg dX9_advance_79 rfl rfl ?_
            refine A_getf (v := .int (nI (m))) hg fl_RX9_15 dX9_advance_80 hc_102 (by omega) rfl ?_
            refine A_icmp_ltN (tgt := 94) hg dX9_advance_83 (by omega) (by omega) (by decide) (fun c83 => ?_) (fun c83 => ?_)
            · skip
              refine A_iload_n hg dX9_advance_94 rfl rfl ?_
              refine A_eS (kc2 := 0) (ks2 := 0) (As := [.int (q_d (s_byte f m k1))]) (rest := []) hg lk_RX9_44 st_X9_isLetter dX9_advance_95 ⟨by decide, by decide⟩ rfl rfl ⟨by decide, by decide⟩ rfl rfl (Nat.le_of_ble_eq_true rfl) (c_X9_isLetter G ex n σ_101 (s_byte f m k1) (Nat.lt_of_le_of_lt (hbb _) (by decide))) ?_
              refine A_if_eqB (tgt := 144) hg dX9_advance_98 (by decide) (fun c98 => ?_) (fun c98 => ?_)
              · skip
                refine A_iload_n hg dX9_advance_144 rfl rfl ?_
                refine A_eS (kc2 := 0) (ks2 := 0) (As := [.int (q_d (s_byte f m k1))]) (rest := []) hg lk_RX9_48 st_X9_isDigit dX9_advance_145 ⟨by decide, by decide⟩ rfl rfl ⟨by decide, by decide⟩ rfl rfl (Nat.le_of_ble_eq_true rfl) (c_X9_isDigit G ex n σ_101 (s_byte f m k1) (Nat.lt_of_le_of_lt (hbb _) (by decide))) ?_
                refine A_if_eqB (tgt := 262) hg dX9_advance_148 (by decide) (fun c148 => ?_) (fun c148 => ?_)
                · skip
                  refine A_aload_n hg dX9_advance_262 rfl rfl ?_
                  refine A_iload_n hg dX9_advance_263 rfl rfl ?_
                  refine A_bipush (v := (nI (59))) hg dX9_advance_264 (by decide) ?_
                  refine A_top (w := .int (q_d 60)) rfl ?_
                  refine A_icmp_neM (tgt := 273) hg dX9_advance_266 (Nat.lt_of_le_of_lt (hbb _) (by decide)) (by decide) (by decide) (fun c266 => ?_) (fun c266 => ?_)
                  · skip
                    refine A_iconst (v := (nI (4))) hg dX9_advance_273 (by decide) ?_
                    refine A_putf hg fl_RX9_19 dX9_advance_274 hc_102 (by omega) (Nat.le_of_ble_eq_true rfl) rfl rfl rfl (fun σ_105 hc_106 hf_107 => ?_)
                    have hc_106 : σ_105 3 = o9 G (1) (nI (m)) (nI (4)) (nI (k1)) (nI (k1)) (nu) := hc_106
                    have hc_108 : σ_105 1 = q_an G 600 f := (hf_107 _ (by omega)).trans hc_104
                    refine A_aload_n hg dX9_advance_277 rfl rfl ?_
                    refine A_aload_n hg dX9_advance_278 rfl rfl ?_
                    refine A_getf (v := .int (nI (k1))) hg fl_RX9_22 dX9_advance_279 hc_106 (by omega) rfl ?_
                    refine A_iconst (v := (nI (1))) hg dX9_advance_282 (by decide) ?_
                    refine A_iaddN hg dX9_advance_283 ?_
                    refine A_putf hg fl_RX9_25 dX9_advance_284 hc_106 (by omega) (Nat.le_of_ble_eq_true rfl) rfl rfl rfl (fun σ_109 hc_110 hf_111 => ?_)
                    have hc_110 : σ_109 3 = o9 G (1) (nI (m)) (nI (4)) (nI (k1)) (nI (k1 + 1)) (nu) := hc_110
                    have hc_112 : σ_109 1 = q_an G 600 f := (hf_111 _ (by omega)).trans hc_108
                    obtain ⟨hq1, hq2, hq3⟩ := x_kd_k3 (show k1 < m by omega) c98 c148
                    rw [if_neg c266] at hq1
                    have hc_113 : σ_109 3 = o9 G (1) (nI (m)) (nI (x_kd f m k1)) (nI (k1)) (nI (tk_be f m k1)) (nu) := hc_110.trans (by rw [hq1, hq2])
                    rw [hQ]
                    exact A_return hg (by decide) (by decide) rfl dX9_advance_287 ⟨rfl, ⟨rfl, k1, (nu), hst, (fun z => absurd z hq3), hc_113, (fun i hi => ((hf_111 i (by omega)).trans ((hf_107 i (by omega)).trans ((hf_103 i (by omega)).trans (hf_8 i (by omega))))))⟩⟩
                  · skip
                    refine A_iconst (v := (nI (3))) hg dX9_advance_269 (by decide) ?_
                    refine A_goto (tgt := 274) hg dX9_advance_270 (by decide) ?_
                    refine A_putf hg fl_RX9_19 dX9_advance_274 hc_102 (by omega) (Nat.le_of_ble_eq_true rfl) rfl rfl rfl (fun σ_114 hc_115 hf_116 => ?_)
                    have hc_115 : σ_114 3 = o9 G (1) (nI (m)) (nI (3)) (nI (k1)) (nI (k1)) (nu) := hc_115
                    have hc_117 : σ_114 1 = q_an G 600 f := (hf_116 _ (by omega)).trans hc_104
                    refine A_aload_n hg dX9_advance_277 rfl rfl ?_
                    refine A_aload_n hg dX9_advance_278 rfl rfl ?_
                    refine A_getf (v := .int (nI (k1))) hg fl_RX9_22 dX9_advance_279 hc_115 (by omega) rfl ?_
                    refine A_iconst (v := (nI (1))) hg dX9_advance_282 (by decide) ?_
                    refine A_iaddN hg dX9_advance_283 ?_
                    refine A_putf hg fl_RX9_25 dX9_advance_284 hc_115 (by omega) (Nat.le_of_ble_eq_true rfl) rfl rfl rfl (fun σ_118 hc_119 hf_120 => ?_)
                    have hc_119 : σ_118 3 = o9 G (1) (nI (m)) (nI (3)) (nI (k1)) (nI (k1 + 1)) (nu) := hc_119
                    have hc_121 : σ_118 1 = q_an G 600 f := (hf_120 _ (by omega)).trans hc_117
                    obtain ⟨hq1, hq2, hq3⟩ := x_kd_k3 (show k1 < m by omega) c98 c148
                    rw [if_pos c266] at hq1
                    have hc_122 : σ_118 3 = o9 G (1) (nI (m)) (nI (x_kd f m k1)) (nI (k1)) (nI (tk_be f m k1)) (nu) := hc_119.trans (by rw [hq1, hq2])
                    rw [hQ]
                    exact A_return hg (by decide) (by decide) rfl dX9_advance_287 ⟨rfl, ⟨rfl, k1, (nu), hst, (fun z => absurd z hq3), hc_122, (fun i hi => ((hf_120 i (by omega)).trans ((hf_116 i (by omega)).trans ((hf_103 i (by omega)).trans (hf_8 i (by omega))))))⟩⟩
                · skip
                  refine A_aload_n hg dX9_advance_151 rfl rfl ?_
                  refine A_iconst (v := (nI (0))) hg dX9_advance_152 (by decide) ?_
                  refine A_putf hg fl_RX9_28 dX9_advance_153 hc_102 (by omega) (Nat.le_of_ble_eq_true rfl) rfl rfl rfl (fun σ_123 hc_124 hf_125 => ?_)
                  have hc_124 : σ_123 3 = o9 G (1) (nI (m)) (kd) (nI (k1)) (nI (k1)) (nI (0)) := hc_124
                  have hc_126 : σ_123 1 = q_an G 600 f := (hf_125 _ (by omega)).trans hc_104
                  have hc_127 : σ_123 3 = o9 G (1) (nI (m)) (kd) (nI (k1)) (nI (k1)) (nI (tk_dv f k1 (k1 - k1))) := hc_124.trans (by rw [Nat.sub_self]; rfl)
                  have hL156 : ∀ (fu : Nat) (k2 : Nat) (σ_128 : Nat → va_E), (σ_128 1 = q_an G 600 f) → (σ_128 3 = o9 G (1) (nI (m)) (kd) (nI (k1)) (nI (k2)) (nI (tk_dv f k1 (k2 - k1)))) → (∀ i : Nat, i ≠ 3 → σ_128 i = σ i) → (k1 ≤ k2 ∧ k2 ≤ m) → (∀ j : Nat, k1 ≤ j → j < k2 → tk_dig f m j = true) → (m - k2) < fu → AJ G K Q 0 0 ex n 156 [some (.ref (q_h G + 3)), some (.int (q_d (s_byte f m k1)))] [] σ_128 := by
                    intro fu
                    induction fu with
                    | zero => intro k2 σ_128 hc_129 hc_130 hf_131 hk2 hall2 hm; exact absurd hm (Nat.not_lt_zero _)
                    | succ fu ih156 =>
                      intro k2 σ_128 hc_129 hc_130 hf_131 hk2 hall2 hm156
                      refine A_aload_n hg dX9_advance_156 rfl rfl ?_
                      refine A_getf (v := .int (nI (k2))) hg fl_RX9_25 dX9_advance_157 hc_130 (by omega) rfl ?_
                      refine A_aload_n hg dX9_advance_160 rfl rfl ?_
                      refine A_getf (v := .int (nI (m))) hg fl_RX9_15 dX9_advance_161 hc_130 (by omega) rfl ?_
                      refine A_icmp_geN (tgt := 237) hg dX9_advance_164 (by omega) (by omega) (by decide) (fun c164 => ?_) (fun c164 => ?_)
                      · skip
                        refine A_aload_n hg dX9_advance_237 rfl rfl ?_
                        refine A_aload_n hg dX9_advance_238 rfl rfl ?_
                        refine A_getf (v := .int (nI (k2))) hg fl_RX9_25 dX9_advance_239 hc_130 (by omega) rfl ?_
                        refine A_aload_n hg dX9_advance_242 rfl rfl ?_
                        refine A_getf (v := .int (nI (k1))) hg fl_RX9_22 dX9_advance_243 hc_130 (by omega) rfl ?_
                        refine A_isubN hg dX9_advance_246 (by omega) ?_
                        refine A_iconst (v := (nI (3))) hg dX9_advance_247 (by decide) ?_
                        refine A_icmp_gtN (tgt := 255) hg dX9_advance_248 (by omega) (by decide) (by decide) (fun c248 => ?_) (fun c248 => ?_)
                        · skip
                          refine A_iconst (v := (nI (4))) hg dX9_advance_255 (by decide) ?_
                          refine A_putf hg fl_RX9_19 dX9_advance_256 hc_130 (by omega) (Nat.le_of_ble_eq_true rfl) rfl rfl rfl (fun σ_132 hc_133 hf_134 => ?_)
                          have hc_133 : σ_132 3 = o9 G (1) (nI (m)) (nI (4)) (nI (k1)) (nI (k2)) (nI (tk_dv f k1 (k2 - k1))) := hc_133
                          have hc_135 : σ_132 1 = q_an G 600 f := (hf_134 _ (by omega)).trans hc_129
                          refine A_goto (tgt := 287) hg dX9_advance_259 (by decide) ?_
                          obtain ⟨hq1, hq2, hq3⟩ := x_kd_k2 c148 hk2 hall2 (by first | exact Or.inl (by omega) | exact Or.inr c178)
                          rw [if_pos c248] at hq1
                          have hc_136 : σ_132 3 = o9 G (1) (nI (m)) (nI (x_kd f m k1)) (nI (k1)) (nI (tk_be f m k1)) (nI (tk_dv f k1 (k2 - k1))) := hc_133.trans (by rw [hq1, hq2])
                          rw [hQ]
                          exact A_return hg (by decide) (by decide) rfl dX9_advance_287 ⟨rfl, ⟨rfl, k1, (nI (tk_dv f k1 (k2 - k1))), hst, (fun _ => by rw [hq3]), hc_136, (fun i hi => ((hf_134 i (by omega)).trans (hf_131 i (by omega))))⟩⟩
                        · skip
                          refine A_iconst (v := (nI (2))) hg dX9_advance_251 (by decide) ?_
                          refine A_goto (tgt := 256) hg dX9_advance_252 (by decide) ?_
                          refine A_putf hg fl_RX9_19 dX9_advance_256 hc_130 (by omega) (Nat.le_of_ble_eq_true rfl) rfl rfl rfl (fun σ_137 hc_138 hf_139 => ?_)
                          have hc_138 : σ_137 3 = o9 G (1) (nI (m)) (nI (2)) (nI (k1)) (nI (k2)) (nI (tk_dv f k1 (k2 - k1))) := hc_138
                          have hc_140 : σ_137 1 = q_an G 600 f := (hf_139 _ (by omega)).trans hc_129
                          refine A_goto (tgt := 287) hg dX9_advance_259 (by decide) ?_
                          obtain ⟨hq1, hq2, hq3⟩ := x_kd_k2 c148 hk2 hall2 (by first | exact Or.inl (by omega) | exact Or.inr c178)
                          rw [if_neg c248] at hq1
                          have hc_141 : σ_137 3 = o9 G (1) (nI (m)) (nI (x_kd f m k1)) (nI (k1)) (nI (tk_be f m k1)) (nI (tk_dv f k1 (k2 - k1))) := hc_138.trans (by rw [hq1, hq2])
                          rw [hQ]
                          exact A_return hg (by decide) (by decide) rfl dX9_advance_287 ⟨rfl, ⟨rfl, k1, (nI (tk_dv f k1 (k2 - k1))), hst, (fun _ => by rw [hq3]), hc_141, (fun i hi => ((hf_139 i (by omega)).trans (hf_131 i (by omega))))⟩⟩
                      · skip
                        refine A_aload_n hg dX9_advance_167 rfl rfl ?_
                        refine A_aload_n hg dX9_advance_168 rfl rfl ?_
                        refine A_getf (v := .int (nI (k2))) hg fl_RX9_25 dX9_advance_169 hc_130 (by omega) rfl ?_
                        refine A_eV (kc2 := 0) (ks2 := 0) (As := [.int (nI (k2))]) (rest := []) hg lk_RX9_40 in_X9_byteAt se_X9_byteAt rfl dX9_advance_172 ⟨by decide, by decide⟩ rfl rfl ⟨by decide, by decide⟩ hc_130 (by omega) rfl rfl (Nat.le_of_ble_eq_true rfl) (c_X9_byteAt G ex n σ_128 f m kd (nI (k1)) (nI (k2)) (nI (tk_dv f k1 (k2 - k1))) k2 hc_130 hc_129 (by omega) hm6 (by omega)) ?_
                        refine A_eS (kc2 := 0) (ks2 := 0) (As := [.int (q_d (s_byte f m k2))]) (rest := []) hg lk_RX9_48 st_X9_isDigit dX9_advance_175 ⟨by decide, by decide⟩ rfl rfl ⟨by decide, by decide⟩ rfl rfl (Nat.le_of_ble_eq_true rfl) (c_X9_isDigit G ex n σ_128 (s_byte f m k2) (Nat.lt_of_le_of_lt (hbb _) (by decide))) ?_
                        refine A_top (w := .int (q_b (tk_dig f m k2))) rfl ?_
                        refine A_if_eqB (tgt := 237) hg dX9_advance_178 (by decide) (fun c178 => ?_) (fun c178 => ?_)
                        · skip
                          refine A_aload_n hg dX9_advance_237 rfl rfl ?_
                          refine A_aload_n hg dX9_advance_238 rfl rfl ?_
                          refine A_getf (v := .int (nI (k2))) hg fl_RX9_25 dX9_advance_239 hc_130 (by omega) rfl ?_
                          refine A_aload_n hg dX9_advance_242 rfl rfl ?_
                          refine A_getf (v := .int (nI (k1))) hg fl_RX9_22 dX9_advance_243 hc_130 (by omega) rfl ?_
                          refine A_isubN hg dX9_advance_246 (by omega) ?_
                          refine A_iconst (v := (nI (3))) hg dX9_advance_247 (by decide) ?_
                          refine A_icmp_gtN (tgt := 255) hg dX9_advance_248 (by omega) (by decide) (by decide) (fun c248 => ?_) (fun c248 => ?_)
                          · skip
                            refine A_iconst (v := (nI (4))) hg dX9_advance_255 (by decide) ?_
                            refine A_putf hg fl_RX9_19 dX9_advance_256 hc_130 (by omega) (Nat.le_of_ble_eq_true rfl) rfl rfl rfl (fun σ_142 hc_143 hf_144 => ?_)
                            have hc_143 : σ_142 3 = o9 G (1) (nI (m)) (nI (4)) (nI (k1)) (nI (k2)) (nI (tk_dv f k1 (k2 - k1))) := hc_143
                            have hc_145 : σ_142 1 = q_an G 600 f := (hf_144 _ (by omega)).trans hc_129
                            refine A_goto (tgt := 287) hg dX9_advance_259 (by decide) ?_
                            obtain ⟨hq1, hq2, hq3⟩ := x_kd_k2 c148 hk2 hall2 (by first | exact Or.inl (by omega) | exact Or.inr c178)
                            rw [if_pos c248] at hq1
                            have hc_146 : σ_142 3 = o9 G (1) (nI (m)) (nI (x_kd f m k1)) (nI (k1)) (nI (tk_be f m k1)) (nI (tk_dv f k1 (k2 - k1))) := hc_143.trans (by rw [hq1, hq2])
                            rw [hQ]
                            exact A_return hg (by decide) (by decide) rfl dX9_advance_287 ⟨rfl, ⟨rfl, k1, (nI (tk_dv f k1 (k2 - k1))), hst, (fun _ => by rw [hq3]), hc_146, (fun i hi => ((hf_144 i (by omega)).trans (hf_131 i (by omega))))⟩⟩
                          · skip
                            refine A_iconst (v := (nI (2))) hg dX9_advance_251 (by decide) ?_
                            refine A_goto (tgt := 256) hg dX9_advance_252 (by decide) ?_
                            refine A_putf hg fl_RX9_19 dX9_advance_256 hc_130 (by omega) (Nat.le_of_ble_eq_true rfl) rfl rfl rfl (fun σ_147 hc_148 hf_149 => ?_)
                            have hc_148 : σ_147 3 = o9 G (1) (nI (m)) (nI (2)) (nI (k1)) (nI (k2)) (nI (tk_dv f k1 (k2 - k1))) := hc_148
                            have hc_150 : σ_147 1 = q_an G 600 f := (hf_149 _ (by omega)).trans hc_129
                            refine A_goto (tgt := 287) hg dX9_advance_259 (by decide) ?_
                            obtain ⟨hq1, hq2, hq3⟩ := x_kd_k2 c148 hk2 hall2 (by first | exact Or.inl (by omega) | exact Or.inr c178)
                            rw [if_neg c248] at hq1
                            have hc_151 : σ_147 3 = o9 G (1) (nI (m)) (nI (x_kd f m k1)) (nI (k1)) (nI (tk_be f m k1)) (nI (tk_dv f k1 (k2 - k1))) := hc_148.trans (by rw [hq1, hq2])
                            rw [hQ]
                            exact A_return hg (by decide) (by decide) rfl dX9_advance_287 ⟨rfl, ⟨rfl, k1, (nI (tk_dv f k1 (k2 - k1))), hst, (fun _ => by rw [hq3]), hc_151, (fun i hi => ((hf_149 i (by omega)).trans (hf_131 i (by omega))))⟩⟩
                        · skip
                          refine A_aload_n hg dX9_advance_181 rfl rfl ?_
                          refine A_aload_n hg dX9_advance_182 rfl rfl ?_
                          refine A_getf (v := .int (nI (k2))) hg fl_RX9_25 dX9_advance_183 hc_130 (by omega) rfl ?_
                          refine A_aload_n hg dX9_advance_186 rfl rfl ?_
                          refine A_getf (v := .int (nI (k1))) hg fl_RX9_22 dX9_advance_187 hc_130 (by omega) rfl ?_
                          refine A_isubN hg dX9_advance_190 (by omega) ?_
                          refine A_iconst (v := (nI (3))) hg dX9_advance_191 (by decide) ?_
                          refine A_icmp_geN (tgt := 217) hg dX9_advance_192 (by omega) (by decide) (by decide) (fun c192 => ?_) (fun c192 => ?_)
                          · skip
                            refine A_aload_n hg dX9_advance_217 rfl rfl ?_
                            refine A_getf (v := .int (nI (tk_dv f k1 (k2 - k1)))) hg fl_RX9_28 dX9_advance_218 hc_130 (by omega) rfl ?_
                            refine A_putf hg fl_RX9_28 dX9_advance_221 hc_130 (by omega) (Nat.le_of_ble_eq_true rfl) rfl rfl rfl (fun σ_152 hc_153 hf_154 => ?_)
                            have hc_153 : σ_152 3 = o9 G (1) (nI (m)) (kd) (nI (k1)) (nI (k2)) (nI (tk_dv f k1 (k2 - k1))) := hc_153
                            have hc_155 : σ_152 1 = q_an G 600 f := (hf_154 _ (by omega)).trans hc_129
                            have hc_156 : σ_152 3 = o9 G (1) (nI (m)) (kd) (nI (k1)) (nI (k2)) (nI (tk_dv f k1 (k2 + 1 - k1))) := hc_153.trans (by rw [tk_dv_f hk2.1 (by omega)])
                            refine A_aload_n hg dX9_advance_224 rfl rfl ?_
                            refine A_dup hg dX9_advance_225 rfl ?_
                            refine A_getf (v := .int (nI (k2))) hg fl_RX9_25 dX9_advance_226 hc_156 (by omega) rfl ?_
                            refine A_iconst (v := (nI (1))) hg dX9_advance_229 (by decide) ?_
                            refine A_iaddN hg dX9_advance_230 ?_
                            refine A_putf hg fl_RX9_25 dX9_advance_231 hc_156 (by omega) (Nat.le_of_ble_eq_true rfl) rfl rfl rfl (fun σ_157 hc_158 hf_159 => ?_)
                            have hc_158 : σ_157 3 = o9 G (1) (nI (m)) (kd) (nI (k1)) (nI (k2 + 1)) (nI (tk_dv f k1 (k2 + 1 - k1))) := hc_158
                            have hc_160 : σ_157 1 = q_an G 600 f := (hf_159 _ (by omega)).trans hc_155
                            refine A_goto (tgt := 156) hg dX9_advance_234 (by decide) ?_
                            exact ih156 (k2 + 1) σ_157 hc_160 hc_158 (fun i hi => ((hf_159 i (by omega)).trans ((hf_154 i (by omega)).trans (hf_131 i (by omega))))) (by omega) (tk_hall hall2 c178) (by omega)
                          · skip
                            have hdg := tk_dig_f c178
                            have hdv := tk_dv_1000 (f := f) (m := m) (t := k1) (n := k2 - k1) (fun j h1 h2 => hall2 j h1 (by omega))
                            refine A_aload_n hg dX9_advance_195 rfl rfl ?_
                            refine A_getf (v := .int (nI (tk_dv f k1 (k2 - k1)))) hg fl_RX9_28 dX9_advance_196 hc_130 (by omega) rfl ?_
                            refine A_bipush (v := (nI (10))) hg dX9_advance_199 (by decide) ?_
                            refine A_imulN hg dX9_advance_201 ?_
                            refine A_aload_n hg dX9_advance_202 rfl rfl ?_
                            refine A_aload_n hg dX9_advance_203 rfl rfl ?_
                            refine A_getf (v := .int (nI (k2))) hg fl_RX9_25 dX9_advance_204 hc_130 (by omega) rfl ?_
                            refine A_eV (kc2 := 0) (ks2 := 0) (As := [.int (nI (k2))]) (rest := [.int (nI ((tk_dv f k1 (k2 - k1)) * 10)), .ref (q_h G + 3)]) hg lk_RX9_40 in_X9_byteAt se_X9_byteAt rfl dX9_advance_207 ⟨by decide, by decide⟩ rfl rfl ⟨by decide, by decide⟩ hc_130 (by omega) rfl rfl (Nat.le_of_ble_eq_true rfl) (c_X9_byteAt G ex n σ_128 f m kd (nI (k1)) (nI (k2)) (nI (tk_dv f k1 (k2 - k1))) k2 hc_130 hc_129 (by omega) hm6 (by omega)) ?_
                            refine A_top (w := .int (nI (f k2))) (by rw [x_byte_in (show k2 < m by omega), q_dS]) ?_
                            refine A_iaddN hg dX9_advance_210 ?_
                            refine A_bipush (v := (nI (48))) hg dX9_advance_211 (by decide) ?_
                            refine A_isubN hg dX9_advance_213 (by omega) ?_
                            refine A_goto (tgt := 221) hg dX9_advance_214 (by decide) ?_
                            refine A_putf hg fl_RX9_28 dX9_advance_221 hc_130 (by omega) (Nat.le_of_ble_eq_true rfl) rfl rfl rfl (fun σ_161 hc_162 hf_163 => ?_)
                            have hc_162 : σ_161 3 = o9 G (1) (nI (m)) (kd) (nI (k1)) (nI (k2)) (nI ((((tk_dv f k1 (k2 - k1)) * 10) + (f k2)) - 48)) := hc_162
                            have hc_164 : σ_161 1 = q_an G 600 f := (hf_163 _ (by omega)).trans hc_129
                            have hc_165 : σ_161 3 = o9 G (1) (nI (m)) (kd) (nI (k1)) (nI (k2)) (nI (tk_dv f k1 (k2 + 1 - k1))) := hc_162.trans (by rw [tk_dv_t hk2.1 (by omega), Nat.mul_comm 10])
                            refine A_aload_n hg dX9_advance_224 rfl rfl ?_
                            refine A_dup hg dX9_advance_225 rfl ?_
                            refine A_getf (v := .int (nI (k2))) hg fl_RX9_25 dX9_advance_226 hc_165 (by omega) rfl ?_
                            refine A_iconst (v := (nI (1))) hg dX9_advance_229 (by decide) ?_
                            refine A_iaddN hg dX9_advance_230 ?_
                            refine A_putf hg fl_RX9_25 dX9_advance_231 hc_165 (by omega) (Nat.le_of_ble_eq_true rfl) rfl rfl rfl (fun σ_166 hc_167 hf_168 => ?_)
                            have hc_167 : σ_166 3 = o9 G (1) (nI (m)) (kd) (nI (k1)) (nI (k2 + 1)) (nI (tk_dv f k1 (k2 + 1 - k1))) := hc_167
                            have hc_169 : σ_166 1 = q_an G 600 f := (hf_168 _ (by omega)).trans hc_164
                            refine A_goto (tgt := 156) hg dX9_advance_234 (by decide) ?_
                            exact ih156 (k2 + 1) σ_166 hc_169 hc_167 (fun i hi => ((hf_168 i (by omega)).trans ((hf_163 i (by omega)).trans (hf_131 i (by omega))))) (by omega) (tk_hall hall2 c178) (by omega)
                  exact hL156 _ k1 σ_123 hc_126 hc_127 (fun i hi => ((hf_125 i (by omega)).trans ((hf_103 i (by omega)).trans (hf_8 i (by omega))))) (⟨Nat.le_refl _, hk1.2⟩) (fun j h1 h2 => absurd h2 (by omega)) (Nat.lt_succ_self _)
              · skip
                refine A_aload_n hg dX9_advance_101 rfl rfl ?_
                refine A_iconst (v := (nI (1))) hg dX9_advance_102 (by decide) ?_
                refine A_putf hg fl_RX9_19 dX9_advance_103 hc_102 (by omega) (Nat.le_of_ble_eq_true rfl) rfl rfl rfl (fun σ_170 hc_171 hf_172 => ?_)
                have hc_171 : σ_170 3 = o9 G (1) (nI (m)) (nI (1)) (nI (k1)) (nI (k1)) (nu) := hc_171
                have hc_173 : σ_170 1 = q_an G 600 f := (hf_172 _ (by omega)).trans hc_104
                have hL106 : ∀ (fu : Nat) (k2 : Nat) (σ_174 : Nat → va_E), (σ_174 1 = q_an G 600 f) → (σ_174 3 = o9 G (1) (nI (m)) (nI (1)) (nI (k1)) (nI (k2)) (nu)) → (∀ i : Nat, i ≠ 3 → σ_174 i = σ i) → (k1 ≤ k2 ∧ k2 ≤ m) → (∀ j : Nat, k1 ≤ j → j < k2 → tk_let f m j = true) → (m - k2) < fu → AJ G K Q 0 0 ex n 106 [some (.ref (q_h G + 3)), some (.int (q_d (s_byte f m k1)))] [] σ_174 := by
                  intro fu
                  induction fu with
                  | zero => intro k2 σ_174 hc_175 hc_176 hf_177 hk2 hall2 hm; exact absurd hm (Nat.not_lt_zero _)
                  | succ fu ih106 =>
                    intro k2 σ_174 hc_175 hc_176 hf_177 hk2 hall2 hm106
                    refine A_aload_n hg dX9_advance_106 rfl rfl ?_
                    refine A_getf (v := .int (nI (k2))) hg fl_RX9_25 dX9_advance_107 hc_176 (by omega) rfl ?_
                    refine A_aload_n hg dX9_advance_110 rfl rfl ?_
                    refine A_getf (v := .int (nI (m))) hg fl_RX9_15 dX9_advance_111 hc_176 (by omega) rfl ?_
                    refine A_icmp_geN (tgt := 287) hg dX9_advance_114 (by omega) (by omega) (by decide) (fun c114 => ?_) (fun c114 => ?_)
                    · skip
                      obtain ⟨hq1, hq2, hq3⟩ := x_kd_k1 c98 hk2 hall2 (by first | exact Or.inl (by omega) | exact Or.inr c128)
                      have hc_178 : σ_174 3 = o9 G (1) (nI (m)) (nI (x_kd f m k1)) (nI (k1)) (nI (tk_be f m k1)) (nu) := hc_176.trans (by rw [hq1, hq2])
                      rw [hQ]
                      exact A_return hg (by decide) (by decide) rfl dX9_advance_287 ⟨rfl, ⟨rfl, k1, (nu), hst, (fun z => by omega), hc_178, (fun i hi => (hf_177 i (by omega)))⟩⟩
                    · skip
                      refine A_aload_n hg dX9_advance_117 rfl rfl ?_
                      refine A_aload_n hg dX9_advance_118 rfl rfl ?_
                      refine A_getf (v := .int (nI (k2))) hg fl_RX9_25 dX9_advance_119 hc_176 (by omega) rfl ?_
                      refine A_eV (kc2 := 0) (ks2 := 0) (As := [.int (nI (k2))]) (rest := []) hg lk_RX9_40 in_X9_byteAt se_X9_byteAt rfl dX9_advance_122 ⟨by decide, by decide⟩ rfl rfl ⟨by decide, by decide⟩ hc_176 (by omega) rfl rfl (Nat.le_of_ble_eq_true rfl) (c_X9_byteAt G ex n σ_174 f m (nI (1)) (nI (k1)) (nI (k2)) nu k2 hc_176 hc_175 (by omega) hm6 (by omega)) ?_
                      refine A_eS (kc2 := 0) (ks2 := 0) (As := [.int (q_d (s_byte f m k2))]) (rest := []) hg lk_RX9_44 st_X9_isLetter dX9_advance_125 ⟨by decide, by decide⟩ rfl rfl ⟨by decide, by decide⟩ rfl rfl (Nat.le_of_ble_eq_true rfl) (c_X9_isLetter G ex n σ_174 (s_byte f m k2) (Nat.lt_of_le_of_lt (hbb _) (by decide))) ?_
                      refine A_top (w := .int (q_b (tk_let f m k2))) rfl ?_
                      refine A_if_eqB (tgt := 287) hg dX9_advance_128 (by decide) (fun c128 => ?_) (fun c128 => ?_)
                      · skip
                        obtain ⟨hq1, hq2, hq3⟩ := x_kd_k1 c98 hk2 hall2 (by first | exact Or.inl (by omega) | exact Or.inr c128)
                        have hc_179 : σ_174 3 = o9 G (1) (nI (m)) (nI (x_kd f m k1)) (nI (k1)) (nI (tk_be f m k1)) (nu) := hc_176.trans (by rw [hq1, hq2])
                        rw [hQ]
                        exact A_return hg (by decide) (by decide) rfl dX9_advance_287 ⟨rfl, ⟨rfl, k1, (nu), hst, (fun z => by omega), hc_179, (fun i hi => (hf_177 i (by omega)))⟩⟩
                      · skip
                        refine A_aload_n hg dX9_advance_131 rfl rfl ?_
                        refine A_dup hg dX9_advance_132 rfl ?_
                        refine A_getf (v := .int (nI (k2))) hg fl_RX9_25 dX9_advance_133 hc_176 (by omega) rfl ?_
                        refine A_iconst (v := (nI (1))) hg dX9_advance_136 (by decide) ?_
                        refine A_iaddN hg dX9_advance_137 ?_
                        refine A_putf hg fl_RX9_25 dX9_advance_138 hc_176 (by omega) (Nat.le_of_ble_eq_true rfl) rfl rfl rfl (fun σ_180 hc_181 hf_182 => ?_)
                        have hc_181 : σ_180 3 = o9 G (1) (nI (m)) (nI (1)) (nI (k1)) (nI (k2 + 1)) (nu) := hc_181
                        have hc_183 : σ_180 1 = q_an G 600 f := (hf_182 _ (by omega)).trans hc_175
                        refine A_goto (tgt := 106) hg dX9_advance_141 (by decide) ?_
                        exact ih106 (k2 + 1) σ_180 hc_183 hc_181 (fun i hi => ((hf_182 i (by omega)).trans (hf_177 i (by omega)))) (by omega) (tk_hall hall2 c128) (by omega)
                exact hL106 _ k1 σ_170 hc_173 hc_171 (fun i hi => ((hf_172 i (by omega)).trans ((hf_103 i (by omega)).trans (hf_8 i (by omega))))) (⟨Nat.le_refl _, hk1.2⟩) (fun j h1 h2 => absurd h2 (by omega)) (Nat.lt_succ_self _)
            · skip
              refine A_aload_n hg dX9_advance_86 rfl rfl ?_
              refine A_iconst (v := (nI (0))) hg dX9_advance_87 (by decide) ?_
              refine A_putf hg fl_RX9_19 dX9_advance_88 hc_102 (by omega) (Nat.le_of_ble_eq_true rfl) rfl rfl rfl (fun σ_184 hc_185 hf_186 => ?_)
              have hc_185 : σ_184 3 = o9 G (1) (nI (m)) (nI (0)) (nI (k1)) (nI (k1)) (nu) := hc_185
              have hc_187 : σ_184 1 = q_an G 600 f := (hf_186 _ (by omega)).trans hc_104
              refine A_goto (tgt := 287) hg dX9_advance_91 (by decide) ?_
              obtain ⟨hq1, hq2⟩ := x_kd_k0 (f := f) (show m ≤ k1 by omega)
              have hc_188 : σ_184 3 = o9 G (1) (nI (m)) (nI (x_kd f m k1)) (nI (k1)) (nI (tk_be f m k1)) (nu) := hc_185.trans (by rw [hq1, hq2])
              rw [hQ]
              exact A_return hg (by decide) (by decide) rfl dX9_advance_287 ⟨rfl, ⟨rfl, k1, (nu), hst, (fun z => by have := x_kd_0.mp hq1; omega), hc_188, (fun i hi => ((hf_186 i (by omega)).trans ((hf_103 i (by omega)).trans (hf_8 i (by omega)))))⟩⟩
          · skip
            refine A_aload_n hg dX9_advance_45 rfl rfl ?_
            refine A_dup hg dX9_advance_46 rfl ?_
            refine A_getf (v := .int (nI (k1))) hg fl_RX9_22 dX9_advance_47 hc_7 (by omega) rfl ?_
            refine A_iconst (v := (nI (1))) hg dX9_advance_50 (by decide) ?_
            refine A_iaddN hg dX9_advance_51 ?_
            refine A_putf hg fl_RX9_22 dX9_advance_52 hc_7 (by omega) (Nat.le_of_ble_eq_true rfl) rfl rfl rfl (fun σ_189 hc_190 hf_191 => ?_)
            have hc_190 : σ_189 3 = o9 G (1) (nI (m)) (kd) (nI (k1 + 1)) (nI (b)) (nu) := hc_190
            have hc_192 : σ_189 1 = q_an G 600 f := (hf_191 _ (by omega)).trans hc_6
            refine A_goto (tgt := 8) hg dX9_advance_55 (by decide) ?_
            exact ih8 (k1 + 1) σ_189 hc_192 hc_190 (fun i hi => ((hf_191 i (by omega)).trans (hf_8 i (by omega)))) (by omega) (tk_hall hall (tk_ws_t (by first | exact Or.inl c29 | exact Or.inr c42))) (by omega)
  exact hL8 _ b σ_1 hc_4 hc_2 (fun i hi => (hf_3 i (by omega))) (⟨Nat.le_refl _, hb⟩) (fun j h1 h2 => absurd h2 (by omega)) (Nat.lt_succ_self _)
set_option maxRecDepth 100000 in
set_option maxHeartbeats 4000000 in
theorem c_X9_isWord (G : GL) (ex : Bool) (n : Nat) (σ : Nat → va_E) (f : Nat → Nat) (m : Nat) (t : Nat) (nu : Int32) (a : Nat) (bs : List Nat) (hc0 : σ 3 = o9 G (1) (nI (m)) (nI (x_kd f m t)) (nI (t)) (nI (tk_be f m t)) (nu)) (hc1 : σ 1 = q_an G 600 f) (hn9 : 279 ≤ n) (hm6 : m ≤ 600) (hbb : ∀ k : Nat, s_byte f m k ≤ 256) (ht9 : t ≤ m) (hs : q_st G a bs) : Ct G yX9_isWord cX9_isWord 3 (some .boolean) ⟨4, 0, 0, 85⟩ [.ref (q_h G + 3), .ref (a)] ex n σ (fun v9 σ2 => σ2 = σ ∧ v9 = some (.int (q_b (tk_wd f m t bs)))) := by
  refine q_enter [some (.ref (q_h G + 3)), some (.ref (a)), none] (by decide) (Nat.le_of_ble_eq_true rfl) rfl ?_
  intro K hg
  obtain ⟨Q, hQ⟩ : ∃ Q, Q = q_Q G K ex n 0 0 (fun v9 n' σ' => n' = n ∧ (fun v9 σ2 => σ2 = σ ∧ v9 = some (.int (q_b (tk_wd f m t bs)))) v9 σ') q_noX := ⟨_, rfl⟩
  refine (?_ : AJ G K (q_Q G K ex n 0 0 _ _) 0 0 ex n 0 _ _ σ)
  rw [← hQ]
  have hbe := tk_be_le (f := f) ht9
  have hbg := tk_be_ge (f := f) (m := m) (t := t)
  have hkl := x_kd_lt f m t
  have hbs := hs.2.1
  refine A_aload_n hg dX9_isWord_0 rfl rfl ?_
  refine A_getf (v := .int (nI (x_kd f m t))) hg fl_RX9_19 dX9_isWord_1 hc0 (by omega) rfl ?_
  refine A_iconst (v := (nI (1))) hg dX9_isWord_4 (by decide) ?_
  refine A_icmp_neN (tgt := 24) hg dX9_isWord_5 (by omega) (by decide) (by decide) (fun c5 => ?_) (fun c5 => ?_)
  · skip
    refine A_iconst (v := (nI (0))) hg dX9_isWord_24 (by decide) ?_
    rw [hQ]
    exact A_zreturn hg (by decide) (by decide) rfl rfl dX9_isWord_25 ⟨rfl, ⟨rfl, (q_rf (by first | exact tk_wd_f1 (fun z => c5 (x_kd_1.mpr z.1)) | exact tk_wd_f1 (fun z => c21 z.2)))⟩⟩
  · skip
    refine A_aload_n hg dX9_isWord_8 rfl rfl ?_
    refine A_getf (v := .int (nI (tk_be f m t))) hg fl_RX9_25 dX9_isWord_9 hc0 (by omega) rfl ?_
    refine A_aload_n hg dX9_isWord_12 rfl rfl ?_
    refine A_getf (v := .int (nI (t))) hg fl_RX9_22 dX9_isWord_13 hc0 (by omega) rfl ?_
    refine A_isubN hg dX9_isWord_16 (by omega) ?_
    refine A_aload_n hg dX9_isWord_17 rfl rfl ?_
    refine A_eVO (kc2 := 0) (ks2 := 0) (As := []) (rest := [.int (nI ((tk_be f m t) - t))]) hg lk_RX9_51 in_J0_length_8abf5 se_J0_length_8abf5 dX9_isWord_18 ⟨by decide, by decide⟩ rfl rfl ⟨by decide, by decide⟩ (q_st_O hs) rfl rfl (Nat.le_of_ble_eq_true rfl) (c_J0_length G ex n σ a bs hs) ?_
    refine A_icmp_eqN (tgt := 26) hg dX9_isWord_21 (by omega) (by omega) (by decide) (fun c21 => ?_) (fun c21 => ?_)
    · skip
      refine A_iconst (v := (nI (0))) hg dX9_isWord_26 (by decide) ?_
      refine A_istore_n hg dX9_isWord_27 rfl (by decide) (q_c1d rfl) ?_
      refine A_eq (ls2 := [some (.ref (q_h G + 3)), some (.ref (a)), some (.int (nI (0)))]) (st2 := []) (pc2 := 0) rfl rfl ?_
      have hL28 : ∀ (fu : Nat) (i : Nat), (i ≤ bs.length) → (∀ j : Nat, j < i → f (t + j) = bs.getD j 0) → (bs.length - i) < fu → AJ G K Q 0 0 ex n 28 [some (.ref (q_h G + 3)), some (.ref (a)), some (.int (nI (i)))] [] σ := by
        intro fu
        induction fu with
        | zero => intro i hi hno hm; exact absurd hm (Nat.not_lt_zero _)
        | succ fu ih28 =>
          intro i hi hno hm28
          refine A_iload_n hg dX9_isWord_28 rfl rfl ?_
          refine A_aload_n hg dX9_isWord_29 rfl rfl ?_
          refine A_eVO (kc2 := 0) (ks2 := 0) (As := []) (rest := [.int (nI (i))]) hg lk_RX9_51 in_J0_length_8abf5 se_J0_length_8abf5 dX9_isWord_30 ⟨by decide, by decide⟩ rfl rfl ⟨by decide, by decide⟩ (q_st_O hs) rfl rfl (Nat.le_of_ble_eq_true rfl) (c_J0_length G ex n σ a bs hs) ?_
          refine A_icmp_geN (tgt := 62) hg dX9_isWord_33 (by omega) (by omega) (by decide) (fun c33 => ?_) (fun c33 => ?_)
          · skip
            refine A_iconst (v := (nI (1))) hg dX9_isWord_62 (by decide) ?_
            rw [hQ]
            exact A_zreturn hg (by decide) (by decide) rfl rfl dX9_isWord_63 ⟨rfl, ⟨rfl, (q_rt (tk_wd_t (x_kd_1.mp c5) c21 (fun j hj => hno j (by omega))))⟩⟩
          · skip
            refine A_aload_n hg dX9_isWord_36 rfl rfl ?_
            refine A_aload_n hg dX9_isWord_37 rfl rfl ?_
            refine A_getf (v := .int (nI (t))) hg fl_RX9_22 dX9_isWord_38 hc0 (by omega) rfl ?_
            refine A_iload_n hg dX9_isWord_41 rfl rfl ?_
            refine A_iaddN hg dX9_isWord_42 ?_
            refine A_eV (kc2 := 0) (ks2 := 0) (As := [.int (nI (t + i))]) (rest := []) hg lk_RX9_40 in_X9_byteAt se_X9_byteAt rfl dX9_isWord_43 ⟨by decide, by decide⟩ rfl rfl ⟨by decide, by decide⟩ hc0 (by omega) rfl rfl (Nat.le_of_ble_eq_true rfl) (c_X9_byteAt G ex n σ f m (nI (x_kd f m t)) (nI (t)) (nI (tk_be f m t)) nu (t + i) hc0 hc1 (by omega) hm6 (by omega)) ?_
            refine A_aload_n hg dX9_isWord_46 rfl rfl ?_
            refine A_iload_n hg dX9_isWord_47 rfl rfl ?_
            refine A_eVO (kc2 := 0) (ks2 := 0) (As := [.int (nI (i))]) (rest := [.int (q_d (s_byte f m (t + i)))]) hg lk_RX9_56 in_J0_charAt_5068e se_J0_charAt_5068e dX9_isWord_48 ⟨by decide, by decide⟩ rfl rfl ⟨by decide, by decide⟩ (q_st_O hs) rfl rfl (Nat.le_of_ble_eq_true rfl) (c_J0_charAt G ex n σ a bs i hs (by omega)) ?_
            refine A_top (w := .int (q_d ((bs.getD i 0) + 1))) (congrArg Value.int (q_dS _).symm) ?_
            have hb9 := hs.2.2 i
            have hfb9 := Nat.lt_of_le_of_lt (hbb (t + i)) (show 256 < 2 ^ 31 by decide)
            refine A_icmp_eqM (tgt := 56) hg dX9_isWord_51 (by omega) (by omega) (by decide) (fun c51 => ?_) (fun c51 => ?_)
            · skip
              refine A_iincN (k' := 1) hg dX9_isWord_56 (by decide) rfl (by decide) (q_c1d rfl) ?_
              refine A_eq (ls2 := [some (.ref (q_h G + 3)), some (.ref (a)), some (.int (nI (i + 1)))]) (st2 := []) (pc2 := 0) rfl rfl ?_
              refine A_goto (tgt := 28) hg dX9_isWord_59 (by decide) ?_
              exact ih28 (i + 1) (by omega) (lt_s hno (by have hq := tk_b1 (f := f) (m := m) (k := t + i) (by omega); omega)) (by omega)
            · skip
              refine A_iconst (v := (nI (0))) hg dX9_isWord_54 (by decide) ?_
              rw [hQ]
              exact A_zreturn hg (by decide) (by decide) rfl rfl dX9_isWord_55 ⟨rfl, ⟨rfl, (q_rf (tk_wd_f2 i (by omega) (fun z => c51 (by rw [x_byte_in (show t + i < m by omega), z]))))⟩⟩
      exact hL28 _ 0 (Nat.zero_le _) (fun j h => absurd h (Nat.not_lt_zero j)) (Nat.lt_succ_self _)
    · skip
      refine A_iconst (v := (nI (0))) hg dX9_isWord_24 (by decide) ?_
      rw [hQ]
      exact A_zreturn hg (by decide) (by decide) rfl rfl dX9_isWord_25 ⟨rfl, ⟨rfl, (q_rf (by first | exact tk_wd_f1 (fun z => c5 (x_kd_1.mpr z.1)) | exact tk_wd_f1 (fun z => c21 z.2)))⟩⟩
set_option maxRecDepth 100000 in
set_option maxHeartbeats 4000000 in
theorem c_X9_isName (G : GL) (ex : Bool) (n : Nat) (σ : Nat → va_E) (f : Nat → Nat) (m : Nat) (t : Nat) (nu : Int32) (hc0 : σ 3 = o9 G (1) (nI (m)) (nI (x_kd f m t)) (nI (t)) (nI (tk_be f m t)) (nu)) (hc1 : σ 1 = q_an G 600 f) (hn9 : 279 ≤ n) (hm6 : m ≤ 600) (hbb : ∀ k : Nat, s_byte f m k ≤ 256) (ht9 : t ≤ m) : Ct G yX9_isName cX9_isName 1 (some .boolean) ⟨0, 0, 0, 0⟩ [.ref (q_h G + 3)] ex n σ (fun v9 σ2 => σ2 = σ ∧ v9 = some (.int (q_b (tk_nm f m t)))) := by
  refine q_enter [some (.ref (q_h G + 3))] (by decide) (Nat.le_of_ble_eq_true rfl) rfl ?_
  intro K hg
  obtain ⟨Q, hQ⟩ : ∃ Q, Q = q_Q G K ex n 0 0 (fun v9 n' σ' => n' = n ∧ (fun v9 σ2 => σ2 = σ ∧ v9 = some (.int (q_b (tk_nm f m t)))) v9 σ') q_noX := ⟨_, rfl⟩
  refine (?_ : AJ G K (q_Q G K ex n 0 0 _ _) 0 0 ex n 0 _ _ σ)
  rw [← hQ]
  have hbe := tk_be_le (f := f) ht9
  have hbg := tk_be_ge (f := f) (m := m) (t := t)
  have hkl := x_kd_lt f m t
  refine A_aload_n hg dX9_isName_0 rfl rfl ?_
  refine A_getf (v := .int (nI (x_kd f m t))) hg fl_RX9_19 dX9_isName_1 hc0 (by omega) rfl ?_
  refine A_iconst (v := (nI (1))) hg dX9_isName_4 (by decide) ?_
  refine A_icmp_neN (tgt := 26) hg dX9_isName_5 (by omega) (by decide) (by decide) (fun c5 => ?_) (fun c5 => ?_)
  · skip
    refine A_iconst (v := (nI (0))) hg dX9_isName_26 (by decide) ?_
    rw [hQ]
    exact A_zreturn hg (by decide) (by decide) rfl rfl dX9_isName_27 ⟨rfl, ⟨rfl, (q_rf (tk_nm_f (fun z => by first | exact c5 (x_kd_1.mpr z.1) | omega)))⟩⟩
  · skip
    refine A_aload_n hg dX9_isName_8 rfl rfl ?_
    refine A_getf (v := .int (nI (tk_be f m t))) hg fl_RX9_25 dX9_isName_9 hc0 (by omega) rfl ?_
    refine A_aload_n hg dX9_isName_12 rfl rfl ?_
    refine A_getf (v := .int (nI (t))) hg fl_RX9_22 dX9_isName_13 hc0 (by omega) rfl ?_
    refine A_isubN hg dX9_isName_16 (by omega) ?_
    refine A_bipush (v := (nI (8))) hg dX9_isName_17 (by decide) ?_
    refine A_icmp_gtN (tgt := 26) hg dX9_isName_19 (by omega) (by decide) (by decide) (fun c19 => ?_) (fun c19 => ?_)
    · skip
      refine A_iconst (v := (nI (0))) hg dX9_isName_26 (by decide) ?_
      rw [hQ]
      exact A_zreturn hg (by decide) (by decide) rfl rfl dX9_isName_27 ⟨rfl, ⟨rfl, (q_rf (tk_nm_f (fun z => by first | exact c5 (x_kd_1.mpr z.1) | omega)))⟩⟩
    · skip
      refine A_iconst (v := (nI (1))) hg dX9_isName_22 (by decide) ?_
      refine A_goto (tgt := 27) hg dX9_isName_23 (by decide) ?_
      rw [hQ]
      exact A_zreturn hg (by decide) (by decide) rfl rfl dX9_isName_27 ⟨rfl, ⟨rfl, (q_rt (decide_eq_true ⟨x_kd_1.mp c5, by omega⟩))⟩⟩
set_option maxRecDepth 100000 in
set_option maxHeartbeats 4000000 in
theorem c_X9_name (G : GL) (ex : Bool) (n : Nat) (σ : Nat → va_E) (f : Nat → Nat) (m : Nat) (t : Nat) (nu : Int32) (hc0 : σ 3 = o9 G (1) (nI (m)) (nI (x_kd f m t)) (nI (t)) (nI (tk_be f m t)) (nu)) (hc1 : σ 1 = q_an G 600 f) (hn9 : 279 ≤ n) (hm6 : m ≤ 600) (hbb : ∀ k : Nat, s_byte f m k ≤ 256) (ht9 : t ≤ m) (hnm : tk_nm f m t = true) : Ct G yX9_name cX9_name 4 (some .long) ⟨1, 0, 0, 21⟩ [.ref (q_h G + 3)] ex n σ (fun v9 σ2 => σ2 = σ ∧ v9 = some (.long (lN (x_tn f m t)))) := by
  refine q_enter [some (.ref (q_h G + 3)), none, none, none] (by decide) (Nat.le_of_ble_eq_true rfl) rfl ?_
  intro K hg
  obtain ⟨Q, hQ⟩ : ∃ Q, Q = q_Q G K ex n 0 0 (fun v9 n' σ' => n' = n ∧ (fun v9 σ2 => σ2 = σ ∧ v9 = some (.long (lN (x_tn f m t)))) v9 σ') q_noX := ⟨_, rfl⟩
  refine (?_ : AJ G K (q_Q G K ex n 0 0 _ _) 0 0 ex n 0 _ _ σ)
  rw [← hQ]
  have hbe := tk_be_le (f := f) ht9
  have hbg := tk_be_ge (f := f) (m := m) (t := t)
  have hkl := x_kd_lt f m t
  have hdn := of_decide_eq_true hnm
  have hnw := x_nu_w hnm
  refine A_lconst (v := (lN (0))) hg dX9_name_0 (by decide) ?_
  refine A_lstore_n hg dX9_name_1 rfl (by decide) (q_c1d rfl) (by simp) ?_
  refine A_eq (ls2 := [some (.ref (q_h G + 3)), some (.long (lN (0))), none, none]) (st2 := []) (pc2 := 0) rfl rfl ?_
  refine A_iconst (v := (nI (0))) hg dX9_name_2 (by decide) ?_
  refine A_istore_n hg dX9_name_3 rfl (by decide) (q_c1d rfl) ?_
  refine A_eq (ls2 := [some (.ref (q_h G + 3)), some (.long (lN (0))), none, some (.int (nI (0)))]) (st2 := []) (pc2 := 0) rfl rfl ?_
  have hL4 : ∀ (fu : Nat) (i : Nat) (a : Nat), (i ≤ tk_be f m t - t) → (a = x_pk (x_nu f m t) i) → (tk_be f m t - t - i) < fu → AJ G K Q 0 0 ex n 4 [some (.ref (q_h G + 3)), some (.long (lN (a))), none, some (.int (nI (i)))] [] σ := by
    intro fu
    induction fu with
    | zero => intro i a hi ha hm; exact absurd hm (Nat.not_lt_zero _)
    | succ fu ih4 =>
      intro i a hi ha hm4
      refine A_iload_n hg dX9_name_4 rfl rfl ?_
      refine A_bipush (v := (nI (8))) hg dX9_name_5 (by decide) ?_
      refine A_icmp_geN (tgt := 52) hg dX9_name_7 (by omega) (by decide) (by decide) (fun c7 => ?_) (fun c7 => ?_)
      · skip
        refine A_lload_n hg dX9_name_52 rfl rfl ?_
        rw [hQ]
        exact A_lreturn hg (by decide) (by decide) rfl dX9_name_53 ⟨rfl, ⟨rfl, (by rw [ha, show i = tk_be f m t - t by omega]; rfl)⟩⟩
      · skip
        refine A_aload_n hg dX9_name_10 rfl rfl ?_
        refine A_getf (v := .int (nI (t))) hg fl_RX9_22 dX9_name_11 hc0 (by omega) rfl ?_
        refine A_iload_n hg dX9_name_14 rfl rfl ?_
        refine A_iaddN hg dX9_name_15 ?_
        refine A_aload_n hg dX9_name_16 rfl rfl ?_
        refine A_getf (v := .int (nI (tk_be f m t))) hg fl_RX9_25 dX9_name_17 hc0 (by omega) rfl ?_
        refine A_icmp_geN (tgt := 52) hg dX9_name_20 (by omega) (by omega) (by decide) (fun c20 => ?_) (fun c20 => ?_)
        · skip
          refine A_lload_n hg dX9_name_52 rfl rfl ?_
          rw [hQ]
          exact A_lreturn hg (by decide) (by decide) rfl dX9_name_53 ⟨rfl, ⟨rfl, (by rw [ha, show i = tk_be f m t - t by omega]; rfl)⟩⟩
        · skip
          have hlt := tk_let_k2 hdn.1 i (by omega)
          refine A_lload_n hg dX9_name_23 rfl rfl ?_
          refine A_aload_n hg dX9_name_24 rfl rfl ?_
          refine A_aload_n hg dX9_name_25 rfl rfl ?_
          refine A_getf (v := .int (nI (t))) hg fl_RX9_22 dX9_name_26 hc0 (by omega) rfl ?_
          refine A_iload_n hg dX9_name_29 rfl rfl ?_
          refine A_iaddN hg dX9_name_30 ?_
          refine A_eV (kc2 := 0) (ks2 := 0) (As := [.int (nI (t + i))]) (rest := [.long (lN (a))]) hg lk_RX9_40 in_X9_byteAt se_X9_byteAt rfl dX9_name_31 ⟨by decide, by decide⟩ rfl rfl ⟨by decide, by decide⟩ hc0 (by omega) rfl rfl (Nat.le_of_ble_eq_true rfl) (c_X9_byteAt G ex n σ f m (nI (x_kd f m t)) (nI (t)) (nI (tk_be f m t)) nu (t + i) hc0 hc1 (by omega) hm6 (by omega)) ?_
          refine A_top (w := .int (nI (f (t + i)))) (by rw [x_byte_in (show t + i < m by omega), q_dS]) ?_
          refine A_bipush (v := (nI (97))) hg dX9_name_34 (by decide) ?_
          refine A_isubN hg dX9_name_36 (by omega) ?_
          refine A_iconst (v := (nI (1))) hg dX9_name_37 (by decide) ?_
          refine A_iaddN hg dX9_name_38 ?_
          refine A_i2lP hg dX9_name_39 (by omega) ?_
          refine A_iload_n hg dX9_name_40 rfl rfl ?_
          refine A_iconst (v := (nI (5))) hg dX9_name_41 (by decide) ?_
          refine A_imulN hg dX9_name_42 ?_
          refine A_lshl (v := lN ((((f (t + i)) - 97) + 1) * 2 ^ (i * 5))) hg dX9_name_43 (lP_shl (by omega)) ?_
          refine A_lorP hg dX9_name_44 ?_
          refine A_lstore_n hg dX9_name_45 rfl (by decide) (q_c1d rfl) (by simp) ?_
          refine A_eq (ls2 := [some (.ref (q_h G + 3)), some (.long (lN (a ||| ((((f (t + i)) - 97) + 1) * 2 ^ (i * 5))))), none, some (.int (nI (i)))]) (st2 := []) (pc2 := 0) rfl rfl ?_
          refine A_iincN (k' := 1) hg dX9_name_46 (by decide) rfl (by decide) (q_c1d rfl) ?_
          refine A_eq (ls2 := [some (.ref (q_h G + 3)), some (.long (lN (a ||| ((((f (t + i)) - 97) + 1) * 2 ^ (i * 5))))), none, some (.int (nI (i + 1)))]) (st2 := []) (pc2 := 0) rfl rfl ?_
          refine A_goto (tgt := 4) hg dX9_name_49 (by decide) ?_
          exact ih4 (i + 1) (a ||| ((((f (t + i)) - 97) + 1) * 2 ^ (i * 5))) (by omega) (by rw [ha]; exact x_pk_or (fun k hk => x_nw_lt hnw k (by show k < tk_be f m t - t; omega)) (x_nu_s f m t i).symm) (by omega)
  exact hL4 _ 0 0 (Nat.zero_le _) rfl (Nat.lt_succ_self _)
set_option maxRecDepth 100000 in
set_option maxHeartbeats 4000000 in
theorem c_X9_packed (G : GL) (ex : Bool) (n : Nat) (σ : Nat → va_E) (a : Nat) (bs : List Nat)  (hs : q_st G a bs) (h8 : bs.length ≤ 8) (hlet : ∀ j : Nat, j < bs.length → 97 ≤ bs.getD j 0 ∧ bs.getD j 0 ≤ 122) : Ct G yX9_packed cX9_packed 4 (some .long) ⟨4, 0, 0, 85⟩ [.ref (a)] ex n σ (fun v9 σ2 => σ2 = σ ∧ v9 = some (.long (lN (x_pk (x_wu bs) bs.length)))) := by
  refine q_enter [some (.ref (a)), none, none, none] (by decide) (Nat.le_of_ble_eq_true rfl) rfl ?_
  intro K hg
  obtain ⟨Q, hQ⟩ : ∃ Q, Q = q_Q G K ex n 0 0 (fun v9 n' σ' => n' = n ∧ (fun v9 σ2 => σ2 = σ ∧ v9 = some (.long (lN (x_pk (x_wu bs) bs.length)))) v9 σ') q_noX := ⟨_, rfl⟩
  refine (?_ : AJ G K (q_Q G K ex n 0 0 _ _) 0 0 ex n 0 _ _ σ)
  rw [← hQ]
  refine A_lconst (v := (lN (0))) hg dX9_packed_0 (by decide) ?_
  refine A_lstore_n hg dX9_packed_1 rfl (by decide) (q_c1d rfl) (by simp) ?_
  refine A_eq (ls2 := [some (.ref (a)), some (.long (lN (0))), none, none]) (st2 := []) (pc2 := 0) rfl rfl ?_
  refine A_iconst (v := (nI (0))) hg dX9_packed_2 (by decide) ?_
  refine A_istore_n hg dX9_packed_3 rfl (by decide) (q_c1d rfl) ?_
  refine A_eq (ls2 := [some (.ref (a)), some (.long (lN (0))), none, some (.int (nI (0)))]) (st2 := []) (pc2 := 0) rfl rfl ?_
  have hL4 : ∀ (fu : Nat) (i : Nat) (a1 : Nat), (i ≤ bs.length) → (a1 = x_pk (x_wu bs) i) → (bs.length - i) < fu → AJ G K Q 0 0 ex n 4 [some (.ref (a)), some (.long (lN (a1))), none, some (.int (nI (i)))] [] σ := by
    intro fu
    induction fu with
    | zero => intro i a1 hi ha hm; exact absurd hm (Nat.not_lt_zero _)
    | succ fu ih4 =>
      intro i a1 hi ha hm4
      refine A_iload_n hg dX9_packed_4 rfl rfl ?_
      refine A_bipush (v := (nI (8))) hg dX9_packed_5 (by decide) ?_
      refine A_icmp_geN (tgt := 42) hg dX9_packed_7 (by omega) (by decide) (by decide) (fun c7 => ?_) (fun c7 => ?_)
      · skip
        refine A_lload_n hg dX9_packed_42 rfl rfl ?_
        rw [hQ]
        exact A_lreturn hg (by decide) (by decide) rfl dX9_packed_43 ⟨rfl, ⟨rfl, (by rw [ha, show i = bs.length by omega])⟩⟩
      · skip
        refine A_iload_n hg dX9_packed_10 rfl rfl ?_
        refine A_aload_n hg dX9_packed_11 rfl rfl ?_
        refine A_eVO (kc2 := 0) (ks2 := 0) (As := []) (rest := [.int (nI (i))]) hg lk_RX9_51 in_J0_length_8abf5 se_J0_length_8abf5 dX9_packed_12 ⟨by decide, by decide⟩ rfl rfl ⟨by decide, by decide⟩ (q_st_O hs) rfl rfl (Nat.le_of_ble_eq_true rfl) (c_J0_length G ex n σ a bs hs) ?_
        refine A_icmp_geN (tgt := 42) hg dX9_packed_15 (by omega) (by omega) (by decide) (fun c15 => ?_) (fun c15 => ?_)
        · skip
          refine A_lload_n hg dX9_packed_42 rfl rfl ?_
          rw [hQ]
          exact A_lreturn hg (by decide) (by decide) rfl dX9_packed_43 ⟨rfl, ⟨rfl, (by rw [ha, show i = bs.length by omega])⟩⟩
        · skip
          have hlt := hlet i (by omega)
          refine A_lload_n hg dX9_packed_18 rfl rfl ?_
          refine A_aload_n hg dX9_packed_19 rfl rfl ?_
          refine A_iload_n hg dX9_packed_20 rfl rfl ?_
          refine A_eVO (kc2 := 0) (ks2 := 0) (As := [.int (nI (i))]) (rest := [.long (lN (a1))]) hg lk_RX9_56 in_J0_charAt_5068e se_J0_charAt_5068e dX9_packed_21 ⟨by decide, by decide⟩ rfl rfl ⟨by decide, by decide⟩ (q_st_O hs) rfl rfl (Nat.le_of_ble_eq_true rfl) (c_J0_charAt G ex n σ a bs i hs (by omega)) ?_
          refine A_bipush (v := (nI (97))) hg dX9_packed_24 (by decide) ?_
          refine A_isubN hg dX9_packed_26 (by omega) ?_
          refine A_iconst (v := (nI (1))) hg dX9_packed_27 (by decide) ?_
          refine A_iaddN hg dX9_packed_28 ?_
          refine A_i2lP hg dX9_packed_29 (by omega) ?_
          refine A_iload_n hg dX9_packed_30 rfl rfl ?_
          refine A_iconst (v := (nI (5))) hg dX9_packed_31 (by decide) ?_
          refine A_imulN hg dX9_packed_32 ?_
          refine A_lshl (v := lN ((((bs.getD i 0) - 97) + 1) * 2 ^ (i * 5))) hg dX9_packed_33 (lP_shl (by omega)) ?_
          refine A_lorP hg dX9_packed_34 ?_
          refine A_lstore_n hg dX9_packed_35 rfl (by decide) (q_c1d rfl) (by simp) ?_
          refine A_eq (ls2 := [some (.ref (a)), some (.long (lN (a1 ||| ((((bs.getD i 0) - 97) + 1) * 2 ^ (i * 5))))), none, some (.int (nI (i)))]) (st2 := []) (pc2 := 0) rfl rfl ?_
          refine A_iincN (k' := 1) hg dX9_packed_36 (by decide) rfl (by decide) (q_c1d rfl) ?_
          refine A_eq (ls2 := [some (.ref (a)), some (.long (lN (a1 ||| ((((bs.getD i 0) - 97) + 1) * 2 ^ (i * 5))))), none, some (.int (nI (i + 1)))]) (st2 := []) (pc2 := 0) rfl rfl ?_
          refine A_goto (tgt := 4) hg dX9_packed_39 (by decide) ?_
          exact ih4 (i + 1) (a1 ||| ((((bs.getD i 0) - 97) + 1) * 2 ^ (i * 5))) (by omega) (by rw [ha]; exact x_pk_or (fun k hk => by rw [x_wu_s]; have := hlet k (by omega); omega) (x_wu_s bs i).symm) (by omega)
  exact hL4 _ 0 0 (Nat.zero_le _) rfl (Nat.lt_succ_self _)
end
