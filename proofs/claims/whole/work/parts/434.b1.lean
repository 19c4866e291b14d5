section
set_option maxRecDepth 100000 in
set_option maxHeartbeats 4000000 in
theorem c_X11_dropsBar (G : GL) (ex : Bool) (n : Nat) (σ : Nat → va_E) (F : Nat → Int32) (g : Nat → Nat) (r : Nat) (i : Nat) (hc0 : σ 279 = o11 G F) (hc1 : σ 280 = q_an G 265 g) (hn : 294 ≤ n) (hr : r < 4) (hw : s_rwf (s_rule g r)) (hib9 : i < s_rule g r 20) : Ct G yX11_dropsBar cX11_dropsBar 5 none ⟨1, 0, 0, 23⟩ [.ref (q_h G + 279), .int (nI (r)), .int (nI (i))] ex n σ (fun v9 σ2 => v9 = none ∧ σ2 280 = q_an G 265 (s_dropB g r i) ∧ (∀ i : Nat, i ≠ 280 → σ2 i = σ i)) := by
  refine q_enter [some (.ref (q_h G + 279)), some (.int (nI (r))), some (.int (nI (i))), none, none] (by decide) (Nat.le_of_ble_eq_true rfl) rfl ?_
  intro K hg
  obtain ⟨Q, hQ⟩ : ∃ Q, Q = q_Q G K ex n 0 0 (fun v9 n' σ' => n' = n ∧ (fun v9 σ2 => v9 = none ∧ σ2 280 = q_an G 265 (s_dropB g r i) ∧ (∀ i : Nat, i ≠ 280 → σ2 i = σ i)) v9 σ') q_noX := ⟨_, rfl⟩
  refine (?_ : AJ G K (q_Q G K ex n 0 0 _ _) 0 0 ex n 0 _ _ σ)
  rw [← hQ]
  have hw20 := hw.2.2.2.2.1
  refine A_aload_n hg dX11_dropsBar_0 rfl rfl ?_
  refine A_iload_n hg dX11_dropsBar_1 rfl rfl ?_
  refine A_bipush (v := (nI (20))) hg dX11_dropsBar_2 (by decide) ?_
  refine A_eV (kc2 := 0) (ks2 := 0) (As := [.int (nI (r)), .int (nI (20))]) (rest := []) hg lk_RX11_85 in_X11_of se_X11_of rfl dX11_dropsBar_4 ⟨by decide, by decide⟩ rfl rfl ⟨by decide, by decide⟩ hc0 (by omega) rfl rfl (Nat.le_of_ble_eq_true rfl) (c_X11_of G ex n σ F g r 20 hc0 hc1 (by omega) (by omega)) ?_
  refine A_iconst (v := (nI (1))) hg dX11_dropsBar_7 (by decide) ?_
  refine A_isubN hg dX11_dropsBar_8 (by omega) ?_
  refine A_istore_n hg dX11_dropsBar_9 rfl (by decide) (q_c1d rfl) ?_
  refine A_eq (ls2 := [some (.ref (q_h G + 279)), some (.int (nI (r))), some (.int (nI (i))), some (.int (nI ((s_rule g r 20) - 1))), none]) (st2 := []) (pc2 := 0) rfl rfl ?_
  refine A_iconst (v := (nI (2))) hg dX11_dropsBar_10 (by decide) ?_
  refine A_iload_n hg dX11_dropsBar_11 rfl rfl ?_
  refine A_imulN hg dX11_dropsBar_12 ?_
  refine A_canon (s_dsh g r (2 * i) (2 * i)) hc1 (fun jj _ => s_dsh_0 g r _ jj) (fun σ_1 hc_2 hf_3 => ?_)
  have hc_4 : σ_1 279 = o11 G F := (hf_3 _ (by omega)).trans hc0
  refine A_istore hg dX11_dropsBar_13 (by decide) (q_c1d rfl) ?_
  refine A_eq (ls2 := [some (.ref (q_h G + 279)), some (.int (nI (r))), some (.int (nI (i))), some (.int (nI ((s_rule g r 20) - 1))), some (.int (nI (2 * i)))]) (st2 := []) (pc2 := 0) rfl rfl ?_
  have hL15 : ∀ (fu : Nat) (q : Nat) (σ_5 : Nat → va_E), (σ_5 279 = o11 G F) → (σ_5 280 = q_an G 265 (s_dsh g r (2 * i) q)) → (∀ i : Nat, i ≠ 280 → σ_5 i = σ i) → (2 * i ≤ q ∧ q ≤ 2 * (s_rule g r 20 - 1)) → (2 * (s_rule g r 20 - 1) - q) < fu → AJ G K Q 0 0 ex n 15 [some (.ref (q_h G + 279)), some (.int (nI (r))), some (.int (nI (i))), some (.int (nI ((s_rule g r 20) - 1))), some (.int (nI (q)))] [] σ_5 := by
    intro fu
    induction fu with
    | zero => intro q σ_5 hc_6 hc_7 hf_8 hq hm; exact absurd hm (Nat.not_lt_zero _)
    | succ fu ih15 =>
      intro q σ_5 hc_6 hc_7 hf_8 hq hm15
      refine A_iload hg dX11_dropsBar_15 rfl ?_
      refine A_iconst (v := (nI (2))) hg dX11_dropsBar_17 (by decide) ?_
      refine A_iload_n hg dX11_dropsBar_18 rfl rfl ?_
      refine A_imulN hg dX11_dropsBar_19 ?_
      refine A_icmp_geN (tgt := 51) hg dX11_dropsBar_20 (by omega) (by omega) (by decide) (fun c20 => ?_) (fun c20 => ?_)
      · skip
        refine A_aload_n hg dX11_dropsBar_51 rfl rfl ?_
        refine A_iload_n hg dX11_dropsBar_52 rfl rfl ?_
        refine A_bipush (v := (nI (21))) hg dX11_dropsBar_53 (by decide) ?_
        refine A_iconst (v := (nI (2))) hg dX11_dropsBar_55 (by decide) ?_
        refine A_iload_n hg dX11_dropsBar_56 rfl rfl ?_
        refine A_imulN hg dX11_dropsBar_57 ?_
        refine A_iaddN hg dX11_dropsBar_58 ?_
        refine A_iconst (v := (nI (0))) hg dX11_dropsBar_59 (by decide) ?_
        refine A_vV (kc2 := 0) (ks2 := 0) (As := [.int (nI (r)), .int (nI (21 + (2 * ((s_rule g r 20) - 1)))), .int (nI (0))]) (rest := []) hg lk_RX11_60 in_X11_putsRule se_X11_putsRule rfl dX11_dropsBar_60 ⟨by decide, by decide⟩ rfl rfl ⟨by decide, by decide⟩ hc_6 (by omega) rfl rfl (Nat.le_of_ble_eq_true rfl) (c_X11_putsRule G ex n σ_5 F (s_dsh g r (2 * i) q) r (21 + (2 * ((s_rule g r 20) - 1))) 0 hc_6 hc_7 (by omega) (by omega)) ?_
        rintro σ_11 ⟨hc_9, hf_10⟩
        have hc_12 : σ_11 279 = o11 G F := (hf_10 _ (by omega)).trans hc_6
        refine A_aload_n hg dX11_dropsBar_63 rfl rfl ?_
        refine A_iload_n hg dX11_dropsBar_64 rfl rfl ?_
        refine A_bipush (v := (nI (21))) hg dX11_dropsBar_65 (by decide) ?_
        refine A_iconst (v := (nI (2))) hg dX11_dropsBar_67 (by decide) ?_
        refine A_iload_n hg dX11_dropsBar_68 rfl rfl ?_
        refine A_imulN hg dX11_dropsBar_69 ?_
        refine A_iaddN hg dX11_dropsBar_70 ?_
        refine A_iconst (v := (nI (1))) hg dX11_dropsBar_71 (by decide) ?_
        refine A_iaddN hg dX11_dropsBar_72 ?_
        refine A_iconst (v := (nI (0))) hg dX11_dropsBar_73 (by decide) ?_
        refine A_vV (kc2 := 0) (ks2 := 0) (As := [.int (nI (r)), .int (nI ((21 + (2 * ((s_rule g r 20) - 1))) + 1)), .int (nI (0))]) (rest := []) hg lk_RX11_60 in_X11_putsRule se_X11_putsRule rfl dX11_dropsBar_74 ⟨by decide, by decide⟩ rfl rfl ⟨by decide, by decide⟩ hc_12 (by omega) rfl rfl (Nat.le_of_ble_eq_true rfl) (c_X11_putsRule G ex n σ_11 F (va_up (s_dsh g r (2 * i) q) (17 + 29 * r + (21 + (2 * ((s_rule g r 20) - 1)))) 0) r ((21 + (2 * ((s_rule g r 20) - 1))) + 1) 0 hc_12 hc_9 (by omega) (by omega)) ?_
        rintro σ_15 ⟨hc_13, hf_14⟩
        have hc_16 : σ_15 279 = o11 G F := (hf_14 _ (by omega)).trans hc_12
        refine A_aload_n hg dX11_dropsBar_77 rfl rfl ?_
        refine A_iload_n hg dX11_dropsBar_78 rfl rfl ?_
        refine A_bipush (v := (nI (20))) hg dX11_dropsBar_79 (by decide) ?_
        refine A_iload_n hg dX11_dropsBar_81 rfl rfl ?_
        refine A_vV (kc2 := 0) (ks2 := 0) (As := [.int (nI (r)), .int (nI (20)), .int (nI ((s_rule g r 20) - 1))]) (rest := []) hg lk_RX11_60 in_X11_putsRule se_X11_putsRule rfl dX11_dropsBar_82 ⟨by decide, by decide⟩ rfl rfl ⟨by decide, by decide⟩ hc_16 (by omega) rfl rfl (Nat.le_of_ble_eq_true rfl) (c_X11_putsRule G ex n σ_15 F (va_up (va_up (s_dsh g r (2 * i) q) (17 + 29 * r + (21 + (2 * ((s_rule g r 20) - 1)))) 0) (17 + 29 * r + ((21 + (2 * ((s_rule g r 20) - 1))) + 1)) 0) r 20 ((s_rule g r 20) - 1) hc_16 hc_13 (by omega) (by omega)) ?_
        rintro σ_19 ⟨hc_17, hf_18⟩
        have hc_20 : σ_19 279 = o11 G F := (hf_18 _ (by omega)).trans hc_16
        refine A_canon (s_dropB g r i) hc_17 (fun jj _ => by unfold s_dropB; rw [show q = 2 * (s_rule g r 20 - 1) by omega]) (fun σ_21 hc_22 hf_23 => ?_)
        have hc_24 : σ_21 279 = o11 G F := (hf_23 _ (by omega)).trans hc_20
        rw [hQ]
        exact A_return hg (by decide) (by decide) rfl dX11_dropsBar_85 ⟨rfl, ⟨rfl, hc_22, (fun i hi => ((hf_23 i (by omega)).trans ((hf_18 i (by omega)).trans ((hf_14 i (by omega)).trans ((hf_10 i (by omega)).trans (hf_8 i (by omega)))))))⟩⟩
      · skip
        refine A_aload_n hg dX11_dropsBar_23 rfl rfl ?_
        refine A_iload_n hg dX11_dropsBar_24 rfl rfl ?_
        refine A_bipush (v := (nI (21))) hg dX11_dropsBar_25 (by decide) ?_
        refine A_iload hg dX11_dropsBar_27 rfl ?_
        refine A_iaddN hg dX11_dropsBar_29 ?_
        refine A_aload_n hg dX11_dropsBar_30 rfl rfl ?_
        refine A_iload_n hg dX11_dropsBar_31 rfl rfl ?_
        refine A_bipush (v := (nI (21))) hg dX11_dropsBar_32 (by decide) ?_
        refine A_iload hg dX11_dropsBar_34 rfl ?_
        refine A_iaddN hg dX11_dropsBar_36 ?_
        refine A_iconst (v := (nI (2))) hg dX11_dropsBar_37 (by decide) ?_
        refine A_iaddN hg dX11_dropsBar_38 ?_
        refine A_eV (kc2 := 0) (ks2 := 0) (As := [.int (nI (r)), .int (nI ((21 + q) + 2))]) (rest := [.int (nI (21 + q)), .int (nI (r)), .ref (q_h G + 279)]) hg lk_RX11_85 in_X11_of se_X11_of rfl dX11_dropsBar_39 ⟨by decide, by decide⟩ rfl rfl ⟨by decide, by decide⟩ hc_6 (by omega) rfl rfl (Nat.le_of_ble_eq_true rfl) (c_X11_of G ex n σ_5 F (s_dsh g r (2 * i) q) r ((21 + q) + 2) hc_6 hc_7 (by omega) (by omega)) ?_
        refine A_vV (kc2 := 0) (ks2 := 0) (As := [.int (nI (r)), .int (nI (21 + q)), .int (nI (s_rule (s_dsh g r (2 * i) q) r ((21 + q) + 2)))]) (rest := []) hg lk_RX11_60 in_X11_putsRule se_X11_putsRule rfl dX11_dropsBar_42 ⟨by decide, by decide⟩ rfl rfl ⟨by decide, by decide⟩ hc_6 (by omega) rfl rfl (Nat.le_of_ble_eq_true rfl) (c_X11_putsRule G ex n σ_5 F (s_dsh g r (2 * i) q) r (21 + q) (s_rule (s_dsh g r (2 * i) q) r ((21 + q) + 2)) hc_6 hc_7 (by omega) (by omega)) ?_
        rintro σ_27 ⟨hc_25, hf_26⟩
        have hc_28 : σ_27 279 = o11 G F := (hf_26 _ (by omega)).trans hc_6
        refine A_canon (s_dsh g r (2 * i) (q + 1)) hc_25 (fun jj _ => s_dsh_s g r _ q jj hq.1) (fun σ_29 hc_30 hf_31 => ?_)
        have hc_32 : σ_29 279 = o11 G F := (hf_31 _ (by omega)).trans hc_28
        refine A_iincN (k' := 1) hg dX11_dropsBar_45 (by decide) rfl (by decide) (q_c1d rfl) ?_
        refine A_eq (ls2 := [some (.ref (q_h G + 279)), some (.int (nI (r))), some (.int (nI (i))), some (.int (nI ((s_rule g r 20) - 1))), some (.int (nI (q + 1)))]) (st2 := []) (pc2 := 0) rfl rfl ?_
        refine A_goto (tgt := 15) hg dX11_dropsBar_48 (by decide) ?_
        exact ih15 (q + 1) σ_29 hc_32 hc_30 (fun i hi => ((hf_31 i (by omega)).trans ((hf_26 i (by omega)).trans (hf_8 i (by omega))))) (by omega) (by omega)
  exact hL15 _ (2 * i) σ_1 hc_4 hc_2 (fun i hi => (hf_3 i (by omega))) (by omega) (Nat.lt_succ_self _)
set_option maxRecDepth 100000 in
set_option maxHeartbeats 4000000 in
theorem c_X11_bar (G : GL) (ex : Bool) (n : Nat) (σ : Nat → va_E) (F : Nat → Int32) (g : Nat → Nat) (a : Nat → Nat) (m : Nat) (r : Int32) (k : Int32) (l : Int32) (s : Bool) (hc0 : σ 279 = o11 G F) (hc1 : σ 280 = q_an G 265 g) (hc2 : σ 284 = q_an G 2120 a) (hn : 294 ≤ n) (hg9 : s_gwf g) (hF5 : F 5 = nI m) (hm8 : m ≤ 8) : Ct G yX11_bar cX11_bar 6 (some .int) ⟨3, 0, 0, 66⟩ [.ref (q_h G + 279), .int (r), .int (k), .int (l), .int (q_b (s))] ex n σ (fun v9 σ2 => (v9 = some (.int (nI (0))) ∧ (∀ j : Nat, j < g 0 → r = nI j → False) ∧ σ2 279 = o11 G (upd F 7 (nI (1))) ∧ (∀ i : Nat, i ≠ 279 → σ2 i = σ i)) ∨ (∃ (r1 : Nat), v9 = some (.int (nI (0))) ∧ (r = nI r1) ∧ (r1 < g 0) ∧ (∀ a b : Nat, a ≤ 40 → b ≤ 40 → 0 < a + b → k = nI a → l = nI b → False) ∧ σ2 279 = o11 G (upd F 7 (nI (2))) ∧ (∀ i : Nat, i ≠ 279 → σ2 i = σ i)) ∨ (∃ (r1 : Nat), ∃ (a1 : Nat), ∃ (b1 : Nat), v9 = some (.int (nI (0))) ∧ (r = nI r1) ∧ (r1 < g 0) ∧ (k = nI a1) ∧ (l = nI b1) ∧ (a1 ≤ 40) ∧ (b1 ≤ 40) ∧ (0 < a1 + b1) ∧ (s = true) ∧ (s_barred (s_rule g r1) a1 b1 = false) ∧ (s_rule g r1 20 = 4) ∧ σ2 279 = o11 G (upd F 7 (nI (3))) ∧ (∀ i : Nat, i ≠ 279 → σ2 i = σ i)) ∨ (∃ (r1 : Nat), ∃ (a1 : Nat), ∃ (b1 : Nat), ∃ (a' : Nat → Nat), v9 = some (.int (nI (s_rule (s_barG g r1 s a1 b1) r1 20))) ∧ (r = nI r1) ∧ (r1 < g 0) ∧ (k = nI a1) ∧ (l = nI b1) ∧ (a1 ≤ 40) ∧ (b1 ≤ 40) ∧ (0 < a1 + b1) ∧ (∀ j : Nat, j < 265 → a' (265 * s_pmany m + j) = g j) ∧ (∀ j : Nat, j < 265 * s_pmany m → a' j = s_pshift a m j) ∧ σ2 279 = o11 G (upd (upd F 5 (nI (s_pmany m + 1))) 7 (nI (0))) ∧ σ2 280 = q_an G 265 (s_barG g r1 s a1 b1) ∧ σ2 284 = q_an G 2120 a' ∧ (∀ i : Nat, i ≠ 279 ∧ i ≠ 280 ∧ i ≠ 284 → σ2 i = σ i))) := by
  refine q_enter [some (.ref (q_h G + 279)), some (.int (r)), some (.int (k)), some (.int (l)), some (.int (q_b (s))), none] (by decide) (Nat.le_of_ble_eq_true rfl) rfl ?_
  intro K hg
  obtain ⟨Q, hQ⟩ : ∃ Q, Q = q_Q G K ex n 0 0 (fun v9 n' σ' => n' = n ∧ (fun v9 σ2 => (v9 = some (.int (nI (0))) ∧ (∀ j : Nat, j < g 0 → r = nI j → False) ∧ σ2 279 = o11 G (upd F 7 (nI (1))) ∧ (∀ i : Nat, i ≠ 279 → σ2 i = σ i)) ∨ (∃ (r1 : Nat), v9 = some (.int (nI (0))) ∧ (r = nI r1) ∧ (r1 < g 0) ∧ (∀ a b : Nat, a ≤ 40 → b ≤ 40 → 0 < a + b → k = nI a → l = nI b → False) ∧ σ2 279 = o11 G (upd F 7 (nI (2))) ∧ (∀ i : Nat, i ≠ 279 → σ2 i = σ i)) ∨ (∃ (r1 : Nat), ∃ (a1 : Nat), ∃ (b1 : Nat), v9 = some (.int (nI (0))) ∧ (r = nI r1) ∧ (r1 < g 0) ∧ (k = nI a1) ∧ (l = nI b1) ∧ (a1 ≤ 40) ∧ (b1 ≤ 40) ∧ (0 < a1 + b1) ∧ (s = true) ∧ (s_barred (s_rule g r1) a1 b1 = false) ∧ (s_rule g r1 20 = 4) ∧ σ2 279 = o11 G (upd F 7 (nI (3))) ∧ (∀ i : Nat, i ≠ 279 → σ2 i = σ i)) ∨ (∃ (r1 : Nat), ∃ (a1 : Nat), ∃ (b1 : Nat), ∃ (a' : Nat → Nat), v9 = some (.int (nI (s_rule (s_barG g r1 s a1 b1) r1 20))) ∧ (r = nI r1) ∧ (r1 < g 0) ∧ (k = nI a1) ∧ (l = nI b1) ∧ (a1 ≤ 40) ∧ (b1 ≤ 40) ∧ (0 < a1 + b1) ∧ (∀ j : Nat, j < 265 → a' (265 * s_pmany m + j) = g j) ∧ (∀ j : Nat, j < 265 * s_pmany m → a' j = s_pshift a m j) ∧ σ2 279 = o11 G (upd (upd F 5 (nI (s_pmany m + 1))) 7 (nI (0))) ∧ σ2 280 = q_an G 265 (s_barG g r1 s a1 b1) ∧ σ2 284 = q_an G 2120 a' ∧ (∀ i : Nat, i ≠ 279 ∧ i ≠ 280 ∧ i ≠ 284 → σ2 i = σ i))) v9 σ') q_noX := ⟨_, rfl⟩
  refine (?_ : AJ G K (q_Q G K ex n 0 0 _ _) 0 0 ex n 0 _ _ σ)
  rw [← hQ]
  have hnr : g 0 ≤ 4 := hg9.1
  refine A_aload_n hg dX11_bar_0 rfl rfl ?_
  refine A_iconst (v := (nI (0))) hg dX11_bar_1 (by decide) ?_
  refine A_putf hg fl_RX11_67 dX11_bar_2 hc0 (by omega) (Nat.le_of_ble_eq_true rfl) rfl rfl rfl (fun σ_1 hc_2 hf_3 => ?_)
  have hc_2 : σ_1 279 = o11 G (upd F 7 (nI (0))) := hc_2
  have hc_4 : σ_1 280 = q_an G 265 g := (hf_3 _ (by omega)).trans hc1
  have hc_5 : σ_1 284 = q_an G 2120 a := (hf_3 _ (by omega)).trans hc2
  refine A_aload_n hg dX11_bar_5 rfl rfl ?_
  refine A_iload_n hg dX11_bar_6 rfl rfl ?_
  refine A_hV (kc2 := 0) (ks2 := 0) (As := [.int (r)]) (rest := []) hg lk_RX11_402 in_X11_noRule se_X11_noRule rfl dX11_bar_7 ⟨by decide, by decide⟩ rfl rfl ⟨by decide, by decide⟩ hc_2 (by omega) rfl rfl (Nat.le_of_ble_eq_true rfl) (c_X11_noRule G ex n σ_1 (upd F 7 (nI (0))) g r hc_2 hc_4 (by omega) (by omega)) ?_
  rintro _ σ_9 (⟨rfl, hno, hc_6, hf_7⟩ | ⟨r1, rfl, hre, hrl, he_8⟩)
  · skip
    refine (?_ : AJ G K Q 0 0 ex n 10 [some (.ref (q_h G + 279)), some (.int (r)), some (.int (k)), some (.int (l)), some (.int (q_b (s))), none] [.int (nI (1))] σ_9)
    have hc_6 : σ_9 279 = o11 G (upd F 7 (nI (1))) := hc_6
    have hc_10 : σ_9 280 = q_an G 265 g := (hf_7 _ (by omega)).trans hc_4
    have hc_11 : σ_9 284 = q_an G 2120 a := (hf_7 _ (by omega)).trans hc_5
    refine A_if_neN (tgt := 22) hg dX11_bar_10 (by decide) (by decide) (fun c10 => ?_) (fun c10 => absurd c10 (by decide))
    refine A_iconst (v := (nI (0))) hg dX11_bar_22 (by decide) ?_
    rw [hQ]
    exact A_ireturn hg (by decide) (by decide) rfl dX11_bar_23 ⟨rfl, Or.inl (⟨rfl, (by first | rfl | assumption | omega), hc_6, (fun i hi => ((hf_7 i (by omega)).trans (hf_3 i (by omega))))⟩)⟩
  · skip
    rw [he_8]
    refine (?_ : AJ G K Q 0 0 ex n 10 [some (.ref (q_h G + 279)), some (.int (r)), some (.int (k)), some (.int (l)), some (.int (q_b (s))), none] [.int (nI (0))] σ_1)
    refine A_if_neN (tgt := 22) hg dX11_bar_10 (by decide) (by decide) (fun c10 => absurd (by decide) c10) (fun c10 => ?_)
    subst hre
    have hw := hg9.2.2.2.2.2.1 r1 hrl
    have hu0 := hw.1
    have hu9 := hw.2.1
    have hu18 := hw.2.2.1
    have hu19 := hw.2.2.2.1
    have hu20 := hw.2.2.2.2.1
    refine A_aload_n hg dX11_bar_13 rfl rfl ?_
    refine A_iload_n hg dX11_bar_14 rfl rfl ?_
    refine A_iload_n hg dX11_bar_15 rfl rfl ?_
    refine A_hV (kc2 := 0) (ks2 := 0) (As := [.int (k), .int (l)]) (rest := []) hg lk_RX11_451 in_X11_noMove se_X11_noMove rfl dX11_bar_16 ⟨by decide, by decide⟩ rfl rfl ⟨by decide, by decide⟩ hc_2 (by omega) rfl rfl (Nat.le_of_ble_eq_true rfl) (c_X11_noMove G ex n σ_1 (upd F 7 (nI (0))) k l hc_2 (by omega)) ?_
    rintro _ σ_15 (⟨rfl, hnp, hc_12, hf_13⟩ | ⟨a1, b1, rfl, hke, hle, hkl, hll, hkp, he_14⟩)
    · skip
      refine (?_ : AJ G K Q 0 0 ex n 19 [some (.ref (q_h G + 279)), some (.int (nI (r1))), some (.int (k)), some (.int (l)), some (.int (q_b (s))), none] [.int (nI (1))] σ_15)
      have hc_12 : σ_15 279 = o11 G (upd F 7 (nI (2))) := hc_12
      have hc_16 : σ_15 280 = q_an G 265 g := (hf_13 _ (by omega)).trans hc_4
      have hc_17 : σ_15 284 = q_an G 2120 a := (hf_13 _ (by omega)).trans hc_5
      refine A_if_eqN (tgt := 24) hg dX11_bar_19 (by decide) (by decide) (fun c19 => absurd c19 (by decide)) (fun c19 => ?_)
      refine A_iconst (v := (nI (0))) hg dX11_bar_22 (by decide) ?_
      rw [hQ]
      exact A_ireturn hg (by decide) (by decide) rfl dX11_bar_23 ⟨rfl, Or.inr (Or.inl (⟨r1, rfl, (by first | rfl | assumption | omega), (by first | rfl | assumption | omega), (by first | rfl | assumption | omega), hc_12, (fun i hi => ((hf_13 i (by omega)).trans (hf_3 i (by omega))))⟩))⟩
    · skip
      rw [he_14]
      refine (?_ : AJ G K Q 0 0 ex n 19 [some (.ref (q_h G + 279)), some (.int (nI (r1))), some (.int (k)), some (.int (l)), some (.int (q_b (s))), none] [.int (nI (0))] σ_1)
      refine A_if_eqN (tgt := 24) hg dX11_bar_19 (by decide) (by decide) (fun c19 => ?_) (fun c19 => absurd (by decide) c19)
      subst hke
      subst hle
      refine A_aload_n hg dX11_bar_24 rfl rfl ?_
      have hw20 := hw.2.2.2.2.1
      refine A_iload_n hg dX11_bar_25 rfl rfl ?_
      refine A_iload_n hg dX11_bar_26 rfl rfl ?_
      refine A_iload_n hg dX11_bar_27 rfl rfl ?_
      refine A_eV (kc2 := 0) (ks2 := 0) (As := [.int (nI (r1)), .int (nI (a1)), .int (nI (b1))]) (rest := []) hg lk_RX11_102 in_X11_barOf se_X11_barOf rfl dX11_bar_28 ⟨by decide, by decide⟩ rfl rfl ⟨by decide, by decide⟩ hc_2 (by omega) rfl rfl (Nat.le_of_ble_eq_true rfl) (c_X11_barOf G ex n σ_1 (upd F 7 (nI (0))) g r1 a1 b1 hc_2 hc_4 (by omega) (by omega) (by omega) (by omega) (by omega)) ?_
      refine A_istore hg dX11_bar_31 (by decide) (q_c1d rfl) ?_
      refine A_eq (ls2 := [some (.ref (q_h G + 279)), some (.int (nI (r1))), some (.int (nI (a1))), some (.int (nI (b1))), some (.int (q_b (s))), some (.int (q_d (if s_barred (s_rule g r1) a1 b1 = true then s_bar (s_rule g r1) a1 b1 + 1 else 0)))]) (st2 := []) (pc2 := 0) rfl rfl ?_
      refine A_aload_n hg dX11_bar_33 rfl rfl ?_
      refine A_iload hg dX11_bar_34 rfl ?_
      refine A_if_eqB (tgt := 60) hg dX11_bar_36 (by decide) (fun c36 => ?_) (fun c36 => ?_)
      · skip
        refine A_iconst (v := (nI (0))) hg dX11_bar_60 (by decide) ?_
        refine A_iconst (v := (nI (3))) hg dX11_bar_61 (by decide) ?_
        refine A_eV (kc2 := 0) (ks2 := 0) (As := [.int (nI (0)), .int (nI (3))]) (rest := []) hg lk_RX11_81 in_X11_fails se_X11_fails rfl dX11_bar_62 ⟨by decide, by decide⟩ rfl rfl ⟨by decide, by decide⟩ hc_2 (by omega) rfl rfl (Nat.le_of_ble_eq_true rfl) (c_X11_fails0 G ex n σ_1 (upd F 7 (nI (0))) (nI (3)) hc_2 (by omega)) ?_
        refine A_if_eqN (tgt := 70) hg dX11_bar_65 (by decide) (by decide) (fun c65 => ?_) (fun c65 => absurd (by decide) c65)
        refine A_aload_n hg dX11_bar_70 rfl rfl ?_
        refine A_vV (kc2 := 0) (ks2 := 0) (As := []) (rest := []) hg lk_RX11_463 in_X11_remembers se_X11_remembers rfl dX11_bar_71 ⟨by decide, by decide⟩ rfl rfl ⟨by decide, by decide⟩ hc_2 (by omega) rfl rfl (Nat.le_of_ble_eq_true rfl) (c_X11_remembers G ex n σ_1 (upd F 7 (nI (0))) g a m hc_2 hc_4 hc_5 (by omega) hF5 (by omega)) ?_
        rintro σ_21 ⟨a', hnew, hold, hc_18, hc_19, hf_20⟩
        have hc_18 : σ_21 279 = o11 G (upd (upd F 5 (nI (s_pmany m + 1))) 7 (nI (0))) := hc_18
        have hc_22 : σ_21 280 = q_an G 265 g := (hf_20 _ (by omega)).trans hc_4
        refine A_iload hg dX11_bar_74 rfl ?_
        refine A_if_eqB (tgt := 92) hg dX11_bar_76 (by decide) (fun c76 => ?_) (fun c76 => absurd (c36.symm.trans c76) (by decide))
        refine A_iload hg dX11_bar_92 rfl ?_
        refine A_if_neB (tgt := 110) hg dX11_bar_94 (by decide) (fun c94 => absurd (c36.symm.trans c94) (by decide)) (fun c94 => ?_)
        refine A_iload hg dX11_bar_97 rfl ?_
        refine A_iconst (v := (q_d (0))) hg dX11_bar_99 (by decide) ?_
        refine A_icmp_eqM (tgt := 110) hg dX11_bar_100 (by have hq := s_first_le (s_barp (s_rule g r1) a1 b1) (s_rule g r1 20); split <;> first | omega | (unfold s_bar; omega)) (by decide) (by decide) (fun c100 => ?_) (fun c100 => ?_)
        · skip
          refine A_aload_n hg dX11_bar_110 rfl rfl ?_
          refine A_iload_n hg dX11_bar_111 rfl rfl ?_
          refine A_bipush (v := (nI (20))) hg dX11_bar_112 (by decide) ?_
          refine A_eV (kc2 := 0) (ks2 := 0) (As := [.int (nI (r1)), .int (nI (20))]) (rest := []) hg lk_RX11_85 in_X11_of se_X11_of rfl dX11_bar_114 ⟨by decide, by decide⟩ rfl rfl ⟨by decide, by decide⟩ hc_18 (by omega) rfl rfl (Nat.le_of_ble_eq_true rfl) (c_X11_of G ex n σ_21 (upd (upd F 5 (nI (s_pmany m + 1))) 7 (nI (0))) g r1 20 hc_18 hc_22 (by omega) (by omega)) ?_
          have hbg : g = (s_barG g r1 s a1 b1) := by unfold s_barG; first | (rw [if_neg (by rw [c36]; decide), if_neg (by rw [s_bar_no c100]; decide)]; done) | (rw [if_neg (by rw [c36]; decide), if_neg (by rw [s_bar_no c100]; decide)]; rfl)
          refine A_canon (s_barG g r1 s a1 b1) hc_22 (fun jj _ => congrFun hbg jj) (fun σ_23 hc_24 hf_25 => ?_)
          have hc_26 : σ_23 279 = o11 G (upd (upd F 5 (nI (s_pmany m + 1))) 7 (nI (0))) := (hf_25 _ (by omega)).trans hc_18
          have hc_27 : σ_23 284 = q_an G 2120 a' := (hf_25 _ (by omega)).trans hc_19
          rw [hQ]
          exact A_ireturn hg (by decide) (by decide) rfl dX11_bar_117 ⟨rfl, Or.inr (Or.inr (Or.inr ((⟨r1, a1, b1, a', (congrArg (fun h => some (Value.int (nI (s_rule h r1 20)))) hbg), (by first | rfl | assumption | omega), (by first | rfl | assumption | omega), (by first | rfl | assumption | omega), (by first | rfl | assumption | omega), (by first | rfl | assumption | omega), (by first | rfl | assumption | omega), (by first | rfl | assumption | omega), hnew, hold, hc_26, hc_24, hc_27, (fun i hi => ((hf_25 i (by omega)).trans ((hf_20 i (by omega)).trans (hf_3 i (by omega)))))⟩))))⟩
        · skip
          have hyes := s_bar_yes c100
          have hsbl : s_bar (s_rule g r1) a1 b1 < s_rule g r1 20 := of_decide_eq_true hyes
          have e5 : q_d (if s_barred (s_rule g r1) a1 b1 = true then s_bar (s_rule g r1) a1 b1 + 1 else 0) = nI (s_bar (s_rule g r1) a1 b1) := by rw [if_pos hyes, q_dS]
          refine A_aload_n hg dX11_bar_103 rfl rfl ?_
          refine A_iload_n hg dX11_bar_104 rfl rfl ?_
          refine A_iload hg dX11_bar_105 rfl ?_
          refine A_top (w := .int (nI (s_bar (s_rule g r1) a1 b1))) (congrArg Value.int e5) ?_
          refine A_vV (kc2 := 0) (ks2 := 0) (As := [.int (nI (r1)), .int (nI (s_bar (s_rule g r1) a1 b1))]) (rest := []) hg lk_RX11_466 in_X11_dropsBar se_X11_dropsBar rfl dX11_bar_107 ⟨by decide, by decide⟩ rfl rfl ⟨by decide, by decide⟩ hc_18 (by omega) rfl rfl (Nat.le_of_ble_eq_true rfl) (c_X11_dropsBar G ex n σ_21 (upd (upd F 5 (nI (s_pmany m + 1))) 7 (nI (0))) g r1 (s_bar (s_rule g r1) a1 b1) hc_18 hc_22 (by omega) (by omega) (by omega) (by omega)) ?_
          rintro σ_30 ⟨hc_28, hf_29⟩
          have hc_31 : σ_30 279 = o11 G (upd (upd F 5 (nI (s_pmany m + 1))) 7 (nI (0))) := (hf_29 _ (by omega)).trans hc_18
          have hc_32 : σ_30 284 = q_an G 2120 a' := (hf_29 _ (by omega)).trans hc_19
          refine A_aload_n hg dX11_bar_110 rfl rfl ?_
          refine A_iload_n hg dX11_bar_111 rfl rfl ?_
          refine A_bipush (v := (nI (20))) hg dX11_bar_112 (by decide) ?_
          refine A_eV (kc2 := 0) (ks2 := 0) (As := [.int (nI (r1)), .int (nI (20))]) (rest := []) hg lk_RX11_85 in_X11_of se_X11_of rfl dX11_bar_114 ⟨by decide, by decide⟩ rfl rfl ⟨by decide, by decide⟩ hc_31 (by omega) rfl rfl (Nat.le_of_ble_eq_true rfl) (c_X11_of G ex n σ_30 (upd (upd F 5 (nI (s_pmany m + 1))) 7 (nI (0))) (s_dropB g r1 (s_bar (s_rule g r1) a1 b1)) r1 20 hc_31 hc_28 (by omega) (by omega)) ?_
          have hbg : (s_dropB g r1 (s_bar (s_rule g r1) a1 b1)) = (s_barG g r1 s a1 b1) := by unfold s_barG; first | (rw [if_neg (by rw [c36]; decide), if_pos (s_bar_yes c100)]; done) | (rw [if_neg (by rw [c36]; decide), if_pos (s_bar_yes c100)]; rfl)
          refine A_canon (s_barG g r1 s a1 b1) hc_28 (fun jj _ => congrFun hbg jj) (fun σ_33 hc_34 hf_35 => ?_)
          have hc_36 : σ_33 279 = o11 G (upd (upd F 5 (nI (s_pmany m + 1))) 7 (nI (0))) := (hf_35 _ (by omega)).trans hc_31
          have hc_37 : σ_33 284 = q_an G 2120 a' := (hf_35 _ (by omega)).trans hc_32
          rw [hQ]
          exact A_ireturn hg (by decide) (by decide) rfl dX11_bar_117 ⟨rfl, Or.inr (Or.inr (Or.inr ((⟨r1, a1, b1, a', (congrArg (fun h => some (Value.int (nI (s_rule h r1 20)))) hbg), (by first | rfl | assumption | omega), (by first | rfl | assumption | omega), (by first | rfl | assumption | omega), (by first | rfl | assumption | omega), (by first | rfl | assumption | omega), (by first | rfl | assumption | omega), (by first | rfl | assumption | omega), hnew, hold, hc_36, hc_34, hc_37, (fun i hi => ((hf_35 i (by omega)).trans ((hf_29 i (by omega)).trans ((hf_20 i (by omega)).trans (hf_3 i (by omega))))))⟩))))⟩
      · skip
        refine A_iload hg dX11_bar_39 rfl ?_
        refine A_iconst (v := (q_d (0))) hg dX11_bar_41 (by decide) ?_
        refine A_icmp_neM (tgt := 60) hg dX11_bar_42 (by have hq := s_first_le (s_barp (s_rule g r1) a1 b1) (s_rule g r1 20); split <;> first | omega | (unfold s_bar; omega)) (by decide) (by decide) (fun c42 => ?_) (fun c42 => ?_)
        · skip
          refine A_iconst (v := (nI (0))) hg dX11_bar_60 (by decide) ?_
          refine A_iconst (v := (nI (3))) hg dX11_bar_61 (by decide) ?_
          refine A_eV (kc2 := 0) (ks2 := 0) (As := [.int (nI (0)), .int (nI (3))]) (rest := []) hg lk_RX11_81 in_X11_fails se_X11_fails rfl dX11_bar_62 ⟨by decide, by decide⟩ rfl rfl ⟨by decide, by decide⟩ hc_2 (by omega) rfl rfl (Nat.le_of_ble_eq_true rfl) (c_X11_fails0 G ex n σ_1 (upd F 7 (nI (0))) (nI (3)) hc_2 (by omega)) ?_
          refine A_if_eqN (tgt := 70) hg dX11_bar_65 (by decide) (by decide) (fun c65 => ?_) (fun c65 => absurd (by decide) c65)
          refine A_aload_n hg dX11_bar_70 rfl rfl ?_
          refine A_vV (kc2 := 0) (ks2 := 0) (As := []) (rest := []) hg lk_RX11_463 in_X11_remembers se_X11_remembers rfl dX11_bar_71 ⟨by decide, by decide⟩ rfl rfl ⟨by decide, by decide⟩ hc_2 (by omega) rfl rfl (Nat.le_of_ble_eq_true rfl) (c_X11_remembers G ex n σ_1 (upd F 7 (nI (0))) g a m hc_2 hc_4 hc_5 (by omega) hF5 (by omega)) ?_
          rintro σ_41 ⟨a', hnew, hold, hc_38, hc_39, hf_40⟩
          have hc_38 : σ_41 279 = o11 G (upd (upd F 5 (nI (s_pmany m + 1))) 7 (nI (0))) := hc_38
          have hc_42 : σ_41 280 = q_an G 265 g := (hf_40 _ (by omega)).trans hc_4
          refine A_iload hg dX11_bar_74 rfl ?_
          refine A_if_eqB (tgt := 92) hg dX11_bar_76 (by decide) (fun c76 => absurd (c36.symm.trans c76) (by decide)) (fun c76 => ?_)
          refine A_iload hg dX11_bar_79 rfl ?_
          refine A_iconst (v := (q_d (0))) hg dX11_bar_81 (by decide) ?_
          refine A_icmp_neM (tgt := 92) hg dX11_bar_82 (by have hq := s_first_le (s_barp (s_rule g r1) a1 b1) (s_rule g r1 20); split <;> first | omega | (unfold s_bar; omega)) (by decide) (by decide) (fun c82 => ?_) (fun c82 => absurd c82 c42)
          refine A_iload hg dX11_bar_92 rfl ?_
          refine A_if_neB (tgt := 110) hg dX11_bar_94 (by decide) (fun c94 => ?_) (fun c94 => absurd (c36.symm.trans c94) (by decide))
          refine A_aload_n hg dX11_bar_110 rfl rfl ?_
          refine A_iload_n hg dX11_bar_111 rfl rfl ?_
          refine A_bipush (v := (nI (20))) hg dX11_bar_112 (by decide) ?_
          refine A_eV (kc2 := 0) (ks2 := 0) (As := [.int (nI (r1)), .int (nI (20))]) (rest := []) hg lk_RX11_85 in_X11_of se_X11_of rfl dX11_bar_114 ⟨by decide, by decide⟩ rfl rfl ⟨by decide, by decide⟩ hc_38 (by omega) rfl rfl (Nat.le_of_ble_eq_true rfl) (c_X11_of G ex n σ_41 (upd (upd F 5 (nI (s_pmany m + 1))) 7 (nI (0))) g r1 20 hc_38 hc_42 (by omega) (by omega)) ?_
          have hbg : g = (s_barG g r1 s a1 b1) := by unfold s_barG; first | (rw [if_pos c36, if_pos (s_bar_yes c42)]; done) | (rw [if_pos c36, if_pos (s_bar_yes c42)]; rfl)
          refine A_canon (s_barG g r1 s a1 b1) hc_42 (fun jj _ => congrFun hbg jj) (fun σ_43 hc_44 hf_45 => ?_)
          have hc_46 : σ_43 279 = o11 G (upd (upd F 5 (nI (s_pmany m + 1))) 7 (nI (0))) := (hf_45 _ (by omega)).trans hc_38
          have hc_47 : σ_43 284 = q_an G 2120 a' := (hf_45 _ (by omega)).trans hc_39
          rw [hQ]
          exact A_ireturn hg (by decide) (by decide) rfl dX11_bar_117 ⟨rfl, Or.inr (Or.inr (Or.inr ((⟨r1, a1, b1, a', (congrArg (fun h => some (Value.int (nI (s_rule h r1 20)))) hbg), (by first | rfl | assumption | omega), (by first | rfl | assumption | omega), (by first | rfl | assumption | omega), (by first | rfl | assumption | omega), (by first | rfl | assumption | omega), (by first | rfl | assumption | omega), (by first | rfl | assumption | omega), hnew, hold, hc_46, hc_44, hc_47, (fun i hi => ((hf_45 i (by omega)).trans ((hf_40 i (by omega)).trans (hf_3 i (by omega)))))⟩))))⟩
        · skip
          refine A_aload_n hg dX11_bar_45 rfl rfl ?_
          refine A_iload_n hg dX11_bar_46 rfl rfl ?_
          refine A_bipush (v := (nI (20))) hg dX11_bar_47 (by decide) ?_
          refine A_eV (kc2 := 0) (ks2 := 0) (As := [.int (nI (r1)), .int (nI (20))]) (rest := [.ref (q_h G + 279)]) hg lk_RX11_85 in_X11_of se_X11_of rfl dX11_bar_49 ⟨by decide, by decide⟩ rfl rfl ⟨by decide, by decide⟩ hc_2 (by omega) rfl rfl (Nat.le_of_ble_eq_true rfl) (c_X11_of G ex n σ_1 (upd F 7 (nI (0))) g r1 20 hc_2 hc_4 (by omega) (by omega)) ?_
          refine A_iconst (v := (nI (4))) hg dX11_bar_52 (by decide) ?_
          refine A_icmp_neN (tgt := 60) hg dX11_bar_53 (by omega) (by decide) (by decide) (fun c53 => ?_) (fun c53 => ?_)
          · skip
            refine A_iconst (v := (nI (0))) hg dX11_bar_60 (by decide) ?_
            refine A_iconst (v := (nI (3))) hg dX11_bar_61 (by decide) ?_
            refine A_eV (kc2 := 0) (ks2 := 0) (As := [.int (nI (0)), .int (nI (3))]) (rest := []) hg lk_RX11_81 in_X11_fails se_X11_fails rfl dX11_bar_62 ⟨by decide, by decide⟩ rfl rfl ⟨by decide, by decide⟩ hc_2 (by omega) rfl rfl (Nat.le_of_ble_eq_true rfl) (c_X11_fails0 G ex n σ_1 (upd F 7 (nI (0))) (nI (3)) hc_2 (by omega)) ?_
            refine A_if_eqN (tgt := 70) hg dX11_bar_65 (by decide) (by decide) (fun c65 => ?_) (fun c65 => absurd (by decide) c65)
            refine A_aload_n hg dX11_bar_70 rfl rfl ?_
            refine A_vV (kc2 := 0) (ks2 := 0) (As := []) (rest := []) hg lk_RX11_463 in_X11_remembers se_X11_remembers rfl dX11_bar_71 ⟨by decide, by decide⟩ rfl rfl ⟨by decide, by decide⟩ hc_2 (by omega) rfl rfl (Nat.le_of_ble_eq_true rfl) (c_X11_remembers G ex n σ_1 (upd F 7 (nI (0))) g a m hc_2 hc_4 hc_5 (by omega) hF5 (by omega)) ?_
            rintro σ_51 ⟨a', hnew, hold, hc_48, hc_49, hf_50⟩
            have hc_48 : σ_51 279 = o11 G (upd (upd F 5 (nI (s_pmany m + 1))) 7 (nI (0))) := hc_48
            have hc_52 : σ_51 280 = q_an G 265 g := (hf_50 _ (by omega)).trans hc_4
            refine A_iload hg dX11_bar_74 rfl ?_
            refine A_if_eqB (tgt := 92) hg dX11_bar_76 (by decide) (fun c76 => absurd (c36.symm.trans c76) (by decide)) (fun c76 => ?_)
            refine A_iload hg dX11_bar_79 rfl ?_
            refine A_iconst (v := (q_d (0))) hg dX11_bar_81 (by decide) ?_
            refine A_icmp_neM (tgt := 92) hg dX11_bar_82 (by have hq := s_first_le (s_barp (s_rule g r1) a1 b1) (s_rule g r1 20); split <;> first | omega | (unfold s_bar; omega)) (by decide) (by decide) (fun c82 => absurd c42 c82) (fun c82 => ?_)
            refine A_aload_n hg dX11_bar_85 rfl rfl ?_
            refine A_iload_n hg dX11_bar_86 rfl rfl ?_
            refine A_iload_n hg dX11_bar_87 rfl rfl ?_
            refine A_iload_n hg dX11_bar_88 rfl rfl ?_
            have hsb9 := s_bar_no c42
            refine A_vV (kc2 := 0) (ks2 := 0) (As := [.int (nI (r1)), .int (nI (a1)), .int (nI (b1))]) (rest := []) hg lk_RX11_322 in_X11_addsBar se_X11_addsBar rfl dX11_bar_89 ⟨by decide, by decide⟩ rfl rfl ⟨by decide, by decide⟩ hc_48 (by omega) rfl rfl (Nat.le_of_ble_eq_true rfl) (c_X11_addsBar G ex n σ_51 (upd (upd F 5 (nI (s_pmany m + 1))) 7 (nI (0))) g r1 a1 b1 hc_48 hc_52 (by omega) (by omega) (by omega) (by omega)) ?_
            rintro σ_55 ⟨hc_53, hf_54⟩
            have hc_56 : σ_55 279 = o11 G (upd (upd F 5 (nI (s_pmany m + 1))) 7 (nI (0))) := (hf_54 _ (by omega)).trans hc_48
            have hc_57 : σ_55 284 = q_an G 2120 a' := (hf_54 _ (by omega)).trans hc_49
            refine A_iload hg dX11_bar_92 rfl ?_
            refine A_if_neB (tgt := 110) hg dX11_bar_94 (by decide) (fun c94 => ?_) (fun c94 => absurd (c36.symm.trans c94) (by decide))
            refine A_aload_n hg dX11_bar_110 rfl rfl ?_
            refine A_iload_n hg dX11_bar_111 rfl rfl ?_
            refine A_bipush (v := (nI (20))) hg dX11_bar_112 (by decide) ?_
            refine A_eV (kc2 := 0) (ks2 := 0) (As := [.int (nI (r1)), .int (nI (20))]) (rest := []) hg lk_RX11_85 in_X11_of se_X11_of rfl dX11_bar_114 ⟨by decide, by decide⟩ rfl rfl ⟨by decide, by decide⟩ hc_56 (by omega) rfl rfl (Nat.le_of_ble_eq_true rfl) (c_X11_of G ex n σ_55 (upd (upd F 5 (nI (s_pmany m + 1))) 7 (nI (0))) (s_rset (s_rset (s_rset g r1 (21 + 2 * s_rule g r1 20) a1) r1 (21 + 2 * s_rule g r1 20 + 1) b1) r1 20 (s_rule g r1 20 + 1)) r1 20 hc_56 hc_53 (by omega) (by omega)) ?_
            have hbg : (s_rset (s_rset (s_rset g r1 (21 + 2 * s_rule g r1 20) a1) r1 (21 + 2 * s_rule g r1 20 + 1) b1) r1 20 (s_rule g r1 20 + 1)) = (s_barG g r1 s a1 b1) := by unfold s_barG; first | (rw [if_pos c36, if_neg (by rw [s_bar_no c42]; decide)]; done) | (rw [if_pos c36, if_neg (by rw [s_bar_no c42]; decide)]; rfl)
            refine A_canon (s_barG g r1 s a1 b1) hc_53 (fun jj _ => congrFun hbg jj) (fun σ_58 hc_59 hf_60 => ?_)
            have hc_61 : σ_58 279 = o11 G (upd (upd F 5 (nI (s_pmany m + 1))) 7 (nI (0))) := (hf_60 _ (by omega)).trans hc_56
            have hc_62 : σ_58 284 = q_an G 2120 a' := (hf_60 _ (by omega)).trans hc_57
            rw [hQ]
            exact A_ireturn hg (by decide) (by decide) rfl dX11_bar_117 ⟨rfl, Or.inr (Or.inr (Or.inr ((⟨r1, a1, b1, a', (congrArg (fun h => some (Value.int (nI (s_rule h r1 20)))) hbg), (by first | rfl | assumption | omega), (by first | rfl | assumption | omega), (by first | rfl | assumption | omega), (by first | rfl | assumption | omega), (by first | rfl | assumption | omega), (by first | rfl | assumption | omega), (by first | rfl | assumption | omega), hnew, hold, hc_61, hc_59, hc_62, (fun i hi => ((hf_60 i (by omega)).trans ((hf_54 i (by omega)).trans ((hf_50 i (by omega)).trans (hf_3 i (by omega))))))⟩))))⟩
          · skip
            refine A_iconst (v := (nI (1))) hg dX11_bar_56 (by decide) ?_
            refine A_goto (tgt := 61) hg dX11_bar_57 (by decide) ?_
            refine A_iconst (v := (nI (3))) hg dX11_bar_61 (by decide) ?_
            refine A_hV (kc2 := 0) (ks2 := 0) (As := [.int (nI (1)), .int (nI (3))]) (rest := []) hg lk_RX11_81 in_X11_fails se_X11_fails rfl dX11_bar_62 ⟨by decide, by decide⟩ rfl rfl ⟨by decide, by decide⟩ hc_2 (by omega) rfl rfl (Nat.le_of_ble_eq_true rfl) (c_X11_fails1 G ex n σ_1 (upd F 7 (nI (0))) 3 hc_2 (by omega)) ?_
            rintro _ σ_65 ⟨rfl, hc_63, hf_64⟩
            refine (?_ : AJ G K Q 0 0 ex n 65 [some (.ref (q_h G + 279)), some (.int (nI (r1))), some (.int (nI (a1))), some (.int (nI (b1))), some (.int (q_b (s))), some (.int (q_d (if s_barred (s_rule g r1) a1 b1 = true then s_bar (s_rule g r1) a1 b1 + 1 else 0)))] [.int (nI (1))] σ_65)
            have hc_63 : σ_65 279 = o11 G (upd F 7 (nI (3))) := hc_63
            have hc_66 : σ_65 280 = q_an G 265 g := (hf_64 _ (by omega)).trans hc_4
            have hc_67 : σ_65 284 = q_an G 2120 a := (hf_64 _ (by omega)).trans hc_5
            refine A_if_eqN (tgt := 70) hg dX11_bar_65 (by decide) (by decide) (fun c65 => absurd c65 (by decide)) (fun c65 => ?_)
            refine A_iconst (v := (nI (0))) hg dX11_bar_68 (by decide) ?_
            rw [hQ]
            exact A_ireturn hg (by decide) (by decide) rfl dX11_bar_69 ⟨rfl, Or.inr (Or.inr (Or.inl (⟨r1, a1, b1, rfl, (by first | rfl | assumption | omega), (by first | rfl | assumption | omega), (by first | rfl | assumption | omega), (by first | rfl | assumption | omega), (by first | rfl | assumption | omega), (by first | rfl | assumption | omega), (by first | rfl | assumption | omega), c36, (s_bar_no c42), c53, hc_63, (fun i hi => ((hf_64 i (by omega)).trans (hf_3 i (by omega))))⟩)))⟩
end
