section
set_option maxRecDepth 100000 in
set_option maxHeartbeats 4000000 in
theorem c_X11_isGolden (G : GL) (ex : Bool) (n : Nat) (σ : Nat → va_E) (F : Nat → Int32) (s : Nat) (x : Nat) (y : Nat) (hc0 : σ 279 = o11 G F) (hn : 294 ≤ n) (hs5 : s ≤ 5) (hx4 : x ≤ 40) (hy4 : y ≤ 40) : Ct G yX11_isGolden cX11_isGolden 7 (some .boolean) ⟨3, 0, 0, 70⟩ [.ref (q_h G + 279), .int (nI (s)), .int (nI (x)), .int (nI (y))] ex n σ (fun v9 σ2 => σ2 = σ ∧ v9 = some (.int (q_b (s_isG s x y)))) := by
  refine q_enter [some (.ref (q_h G + 279)), some (.int (nI (s))), some (.int (nI (x))), some (.int (nI (y))), none, none, none] (by decide) (Nat.le_of_ble_eq_true rfl) rfl ?_
  intro K hg
  obtain ⟨Q, hQ⟩ : ∃ Q, Q = q_Q G K ex n 0 0 (fun v9 n' σ' => n' = n ∧ (fun v9 σ2 => σ2 = σ ∧ v9 = some (.int (q_b (s_isG s x y)))) v9 σ') q_noX := ⟨_, rfl⟩
  refine (?_ : AJ G K (q_Q G K ex n 0 0 _ _) 0 0 ex n 0 _ _ σ)
  rw [← hQ]
  have hmm : min x y ≤ 40 ∧ max x y ≤ 40 := by omega
  refine A_iload_n hg dX11_isGolden_0 rfl rfl ?_
  refine A_iload_n hg dX11_isGolden_1 rfl rfl ?_
  refine A_min hg ml_RX11_167 dX11_isGolden_2 ⟨by decide, by decide, by decide, by decide⟩ (Nat.le_of_ble_eq_true rfl) ?_
  refine A_top (w := .int (nI (min x y))) (q_min (a := x) (b := y) (by omega) (by omega)) ?_
  refine A_istore hg dX11_isGolden_5 (by decide) (q_c1d rfl) ?_
  refine A_eq (ls2 := [some (.ref (q_h G + 279)), some (.int (nI (s))), some (.int (nI (x))), some (.int (nI (y))), some (.int (nI (min x y))), none, none]) (st2 := []) (pc2 := 0) rfl rfl ?_
  refine A_iload_n hg dX11_isGolden_7 rfl rfl ?_
  refine A_iload_n hg dX11_isGolden_8 rfl rfl ?_
  refine A_max hg ml_RX11_89 dX11_isGolden_9 ⟨by decide, by decide, by decide, by decide⟩ (Nat.le_of_ble_eq_true rfl) ?_
  refine A_top (w := .int (nI (max x y))) (q_max (a := x) (b := y) (by omega) (by omega)) ?_
  refine A_istore hg dX11_isGolden_12 (by decide) (q_c1d rfl) ?_
  refine A_eq (ls2 := [some (.ref (q_h G + 279)), some (.int (nI (s))), some (.int (nI (x))), some (.int (nI (y))), some (.int (nI (min x y))), some (.int (nI (max x y))), none]) (st2 := []) (pc2 := 0) rfl rfl ?_
  refine A_iconst (v := (nI (0))) hg dX11_isGolden_14 (by decide) ?_
  refine A_istore hg dX11_isGolden_15 (by decide) (q_c1d rfl) ?_
  refine A_eq (ls2 := [some (.ref (q_h G + 279)), some (.int (nI (s))), some (.int (nI (x))), some (.int (nI (y))), some (.int (nI (min x y))), some (.int (nI (max x y))), some (.int (nI (0)))]) (st2 := []) (pc2 := 0) rfl rfl ?_
  have hL17 : ∀ (fu : Nat) (m : Nat), (m ≤ 41) → (∀ j : Nat, j < m → s_isGP s x y j = false) → (41 - m) < fu → AJ G K Q 0 0 ex n 17 [some (.ref (q_h G + 279)), some (.int (nI (s))), some (.int (nI (x))), some (.int (nI (y))), some (.int (nI (min x y))), some (.int (nI (max x y))), some (.int (nI (m)))] [] σ := by
    intro fu
    induction fu with
    | zero => intro m hm1 hno hm; exact absurd hm (Nat.not_lt_zero _)
    | succ fu ih17 =>
      intro m hm1 hno hm17
      refine A_iload hg dX11_isGolden_17 rfl ?_
      refine A_bipush (v := (nI (40))) hg dX11_isGolden_19 (by decide) ?_
      refine A_icmp_gtN (tgt := 60) hg dX11_isGolden_21 (by omega) (by decide) (by decide) (fun c21 => ?_) (fun c21 => ?_)
      · skip
        refine A_iconst (v := (nI (0))) hg dX11_isGolden_60 (by decide) ?_
        rw [hQ]
        exact A_zreturn hg (by decide) (by decide) rfl rfl dX11_isGolden_61 ⟨rfl, ⟨rfl, (q_rf (s_isG_f (fun j hj => hno j (by omega))))⟩⟩
      · skip
        refine A_iload_n hg dX11_isGolden_24 rfl rfl ?_
        refine A_iload hg dX11_isGolden_25 rfl ?_
        refine A_i2lP hg dX11_isGolden_27 (by omega) ?_
        refine A_eS (kc2 := 0) (ks2 := 0) (As := [.int (nI (s)), .long (lN (m))]) (rest := []) hg lk_RX11_156 st_X11_goldenA dX11_isGolden_28 ⟨by decide, by decide⟩ rfl rfl ⟨by decide, by decide⟩ rfl rfl (Nat.le_of_ble_eq_true rfl) (c_X11_goldenA G ex n σ s m (by omega) (by omega)) ?_
        refine A_iload hg dX11_isGolden_31 rfl ?_
        refine A_i2lP hg dX11_isGolden_33 (by omega) ?_
        have hA9 := s_gA_lt hs5 (show m ≤ 500000000 by omega)
        refine A_lcmp hg dX11_isGolden_34 ?_
        refine A_lc_ne (tgt := 54) hg dX11_isGolden_35 (by omega) (by omega) (by decide) (fun c35 => ?_) (fun c35 => ?_)
        · skip
          refine A_iincN (k' := 1) hg dX11_isGolden_54 (by decide) rfl (by decide) (q_c1d rfl) ?_
          refine A_eq (ls2 := [some (.ref (q_h G + 279)), some (.int (nI (s))), some (.int (nI (x))), some (.int (nI (y))), some (.int (nI (min x y))), some (.int (nI (max x y))), some (.int (nI (m + 1)))]) (st2 := []) (pc2 := 0) rfl rfl ?_
          refine A_goto (tgt := 17) hg dX11_isGolden_57 (by decide) ?_
          exact ih17 (m + 1) (by omega) (lt_s hno (by first | exact s_isGP_f2 c49 | exact s_isGP_f1 c35)) (by omega)
        · skip
          refine A_iload_n hg dX11_isGolden_38 rfl rfl ?_
          refine A_iload hg dX11_isGolden_39 rfl ?_
          refine A_i2lP hg dX11_isGolden_41 (by omega) ?_
          refine A_eS (kc2 := 0) (ks2 := 0) (As := [.int (nI (s)), .long (lN (m))]) (rest := []) hg lk_RX11_160 st_X11_goldenB dX11_isGolden_42 ⟨by decide, by decide⟩ rfl rfl ⟨by decide, by decide⟩ rfl rfl (Nat.le_of_ble_eq_true rfl) (c_X11_goldenB G ex n σ s m (by omega) (by omega)) ?_
          refine A_iload hg dX11_isGolden_45 rfl ?_
          refine A_i2lP hg dX11_isGolden_47 (by omega) ?_
          have hB9 := s_gB_lt hs5 (show m ≤ 500000000 by omega)
          refine A_lcmp hg dX11_isGolden_48 ?_
          refine A_lc_ne (tgt := 54) hg dX11_isGolden_49 (by omega) (by omega) (by decide) (fun c49 => ?_) (fun c49 => ?_)
          · skip
            refine A_iincN (k' := 1) hg dX11_isGolden_54 (by decide) rfl (by decide) (q_c1d rfl) ?_
            refine A_eq (ls2 := [some (.ref (q_h G + 279)), some (.int (nI (s))), some (.int (nI (x))), some (.int (nI (y))), some (.int (nI (min x y))), some (.int (nI (max x y))), some (.int (nI (m + 1)))]) (st2 := []) (pc2 := 0) rfl rfl ?_
            refine A_goto (tgt := 17) hg dX11_isGolden_57 (by decide) ?_
            exact ih17 (m + 1) (by omega) (lt_s hno (by first | exact s_isGP_f2 c49 | exact s_isGP_f1 c35)) (by omega)
          · skip
            refine A_iconst (v := (nI (1))) hg dX11_isGolden_52 (by decide) ?_
            rw [hQ]
            exact A_zreturn hg (by decide) (by decide) rfl rfl dX11_isGolden_53 ⟨rfl, ⟨rfl, (q_rt (s_isG_t (m := m) (by omega) (s_isGP_t c35 c49)))⟩⟩
  exact hL17 _ 0 (Nat.zero_le _) (fun j h => absurd h (Nat.not_lt_zero j)) (Nat.lt_succ_self _)
set_option maxRecDepth 100000 in
set_option maxHeartbeats 4000000 in
theorem c_X11_golden (G : GL) (ex : Bool) (n : Nat) (σ : Nat → va_E) (F : Nat → Int32) (s : Int32) (v : Int32) (b : Bool) (hc0 : σ 279 = o11 G F) (hn : 294 ≤ n) : Ct G yX11_golden cX11_golden 4 (some .int) ⟨3, 0, 0, 70⟩ [.ref (q_h G + 279), .int (s), .int (v), .int (q_b (b))] ex n σ (fun v9 σ2 => (v9 = some (.int (nI (0))) ∧ (∀ j : Nat, 1 ≤ j → j ≤ 5 → s = nI j → False) ∧ σ2 279 = o11 G (upd F 7 (nI (1))) ∧ (∀ i : Nat, i ≠ 279 → σ2 i = σ i)) ∨ (∃ (s1 : Nat), v9 = some (.int (nI (0))) ∧ (s = nI s1) ∧ (1 ≤ s1) ∧ (s1 ≤ 5) ∧ (∀ j : Nat, 0 ≤ j → j ≤ 100000000 → v = nI j → False) ∧ σ2 279 = o11 G (upd F 7 (nI (1))) ∧ (∀ i : Nat, i ≠ 279 → σ2 i = σ i)) ∨ (∃ (s1 : Nat), ∃ (v1 : Nat), v9 = some (.int (nI (s_gX s1 b v1))) ∧ (s = nI s1) ∧ (1 ≤ s1) ∧ (s1 ≤ 5) ∧ (v = nI v1) ∧ (0 ≤ v1) ∧ (v1 ≤ 100000000) ∧ σ2 279 = o11 G (upd F 7 (nI (0))) ∧ (∀ i : Nat, i ≠ 279 → σ2 i = σ i))) := by
  refine q_enter [some (.ref (q_h G + 279)), some (.int (s)), some (.int (v)), some (.int (q_b (b)))] (by decide) (Nat.le_of_ble_eq_true rfl) rfl ?_
  intro K hg
  obtain ⟨Q, hQ⟩ : ∃ Q, Q = q_Q G K ex n 0 0 (fun v9 n' σ' => n' = n ∧ (fun v9 σ2 => (v9 = some (.int (nI (0))) ∧ (∀ j : Nat, 1 ≤ j → j ≤ 5 → s = nI j → False) ∧ σ2 279 = o11 G (upd F 7 (nI (1))) ∧ (∀ i : Nat, i ≠ 279 → σ2 i = σ i)) ∨ (∃ (s1 : Nat), v9 = some (.int (nI (0))) ∧ (s = nI s1) ∧ (1 ≤ s1) ∧ (s1 ≤ 5) ∧ (∀ j : Nat, 0 ≤ j → j ≤ 100000000 → v = nI j → False) ∧ σ2 279 = o11 G (upd F 7 (nI (1))) ∧ (∀ i : Nat, i ≠ 279 → σ2 i = σ i)) ∨ (∃ (s1 : Nat), ∃ (v1 : Nat), v9 = some (.int (nI (s_gX s1 b v1))) ∧ (s = nI s1) ∧ (1 ≤ s1) ∧ (s1 ≤ 5) ∧ (v = nI v1) ∧ (0 ≤ v1) ∧ (v1 ≤ 100000000) ∧ σ2 279 = o11 G (upd F 7 (nI (0))) ∧ (∀ i : Nat, i ≠ 279 → σ2 i = σ i))) v9 σ') q_noX := ⟨_, rfl⟩
  refine (?_ : AJ G K (q_Q G K ex n 0 0 _ _) 0 0 ex n 0 _ _ σ)
  rw [← hQ]
  refine A_aload_n hg dX11_golden_0 rfl rfl ?_
  refine A_iconst (v := (nI (0))) hg dX11_golden_1 (by decide) ?_
  refine A_putf hg fl_RX11_67 dX11_golden_2 hc0 (by omega) (Nat.le_of_ble_eq_true rfl) rfl rfl rfl (fun σ_1 hc_2 hf_3 => ?_)
  have hc_2 : σ_1 279 = o11 G (upd F 7 (nI (0))) := hc_2
  refine A_aload_n hg dX11_golden_5 rfl rfl ?_
  refine A_iload_n hg dX11_golden_6 rfl rfl ?_
  refine A_hV (kc2 := 0) (ks2 := 0) (As := [.int (s)]) (rest := []) hg lk_RX11_427 in_X11_noSlack se_X11_noSlack rfl dX11_golden_7 ⟨by decide, by decide⟩ rfl rfl ⟨by decide, by decide⟩ hc_2 (by omega) rfl rfl (Nat.le_of_ble_eq_true rfl) (c_X11_noSlack G ex n σ_1 (upd F 7 (nI (0))) s hc_2 (by omega)) ?_
  rintro _ σ_7 (⟨rfl, hno, hc_4, hf_5⟩ | ⟨s1, rfl, hse, hsa, hsl, he_6⟩)
  · skip
    refine (?_ : AJ G K Q 0 0 ex n 10 [some (.ref (q_h G + 279)), some (.int (s)), some (.int (v)), some (.int (q_b (b)))] [.int (nI (1))] σ_7)
    have hc_4 : σ_7 279 = o11 G (upd F 7 (nI (1))) := hc_4
    refine A_if_neN (tgt := 25) hg dX11_golden_10 (by decide) (by decide) (fun c10 => ?_) (fun c10 => absurd c10 (by decide))
    refine A_iconst (v := (nI (0))) hg dX11_golden_25 (by decide) ?_
    rw [hQ]
    exact A_ireturn hg (by decide) (by decide) rfl dX11_golden_26 ⟨rfl, Or.inl (⟨rfl, (by first | rfl | assumption | omega), hc_4, (fun i hi => ((hf_5 i (by omega)).trans (hf_3 i (by omega))))⟩)⟩
  · skip
    rw [he_6]
    refine (?_ : AJ G K Q 0 0 ex n 10 [some (.ref (q_h G + 279)), some (.int (s)), some (.int (v)), some (.int (q_b (b)))] [.int (nI (0))] σ_1)
    refine A_if_neN (tgt := 25) hg dX11_golden_10 (by decide) (by decide) (fun c10 => absurd (by decide) c10) (fun c10 => ?_)
    subst hse
    refine A_aload_n hg dX11_golden_13 rfl rfl ?_
    refine A_iload_n hg dX11_golden_14 rfl rfl ?_
    refine A_iconst (v := (nI (0))) hg dX11_golden_15 (by decide) ?_
    refine A_ldcw (v := nI 100000000) hg dX11_golden_16 (q_mt 1895 (by decide +kernel)) ?_
    refine A_hV (kc2 := 0) (ks2 := 0) (As := [.int (v), .int (nI (0)), .int (nI (100000000))]) (rest := []) hg lk_RX11_431 in_X11_noNumber se_X11_noNumber rfl dX11_golden_19 ⟨by decide, by decide⟩ rfl rfl ⟨by decide, by decide⟩ hc_2 (by omega) rfl rfl (Nat.le_of_ble_eq_true rfl) (c_X11_noNumber G ex n σ_1 (upd F 7 (nI (0))) v 0 100000000 hc_2 (by omega) (by omega) (by omega)) ?_
    rintro _ σ_11 (⟨rfl, hnn, hc_8, hf_9⟩ | ⟨v1, rfl, hve, hva, hvl, he_10⟩)
    · skip
      refine (?_ : AJ G K Q 0 0 ex n 22 [some (.ref (q_h G + 279)), some (.int (nI (s1))), some (.int (v)), some (.int (q_b (b)))] [.int (nI (1))] σ_11)
      have hc_8 : σ_11 279 = o11 G (upd F 7 (nI (1))) := hc_8
      refine A_if_eqN (tgt := 27) hg dX11_golden_22 (by decide) (by decide) (fun c22 => absurd c22 (by decide)) (fun c22 => ?_)
      refine A_iconst (v := (nI (0))) hg dX11_golden_25 (by decide) ?_
      rw [hQ]
      exact A_ireturn hg (by decide) (by decide) rfl dX11_golden_26 ⟨rfl, Or.inr (Or.inl (⟨s1, rfl, (by first | rfl | assumption | omega), (by first | rfl | assumption | omega), (by first | rfl | assumption | omega), (by first | rfl | assumption | omega), hc_8, (fun i hi => ((hf_9 i (by omega)).trans (hf_3 i (by omega))))⟩))⟩
    · skip
      rw [he_10]
      refine (?_ : AJ G K Q 0 0 ex n 22 [some (.ref (q_h G + 279)), some (.int (nI (s1))), some (.int (v)), some (.int (q_b (b)))] [.int (nI (0))] σ_1)
      refine A_if_eqN (tgt := 27) hg dX11_golden_22 (by decide) (by decide) (fun c22 => ?_) (fun c22 => absurd (by decide) c22)
      subst hve
      refine A_iload_n hg dX11_golden_27 rfl rfl ?_
      refine A_if_eqB (tgt := 40) hg dX11_golden_28 (by decide) (fun c28 => ?_) (fun c28 => ?_)
      · skip
        refine A_iload_n hg dX11_golden_40 rfl rfl ?_
        refine A_iload_n hg dX11_golden_41 rfl rfl ?_
        refine A_i2lP hg dX11_golden_42 (by omega) ?_
        refine A_eS (kc2 := 0) (ks2 := 0) (As := [.int (nI (s1)), .long (lN (v1))]) (rest := []) hg lk_RX11_156 st_X11_goldenA dX11_golden_43 ⟨by decide, by decide⟩ rfl rfl ⟨by decide, by decide⟩ rfl rfl (Nat.le_of_ble_eq_true rfl) (c_X11_goldenA G ex n σ_1 s1 v1 (by omega) (by omega)) ?_
        refine A_l2iP hg dX11_golden_46 ?_
        rw [hQ]
        exact A_ireturn hg (by decide) (by decide) rfl dX11_golden_47 ⟨rfl, Or.inr (Or.inr ((⟨s1, v1, (by rw [c28, s_gX_f]), (by first | rfl | assumption | omega), (by first | rfl | assumption | omega), (by first | rfl | assumption | omega), (by first | rfl | assumption | omega), (by first | rfl | assumption | omega), (by first | rfl | assumption | omega), hc_2, (fun i hi => (hf_3 i (by omega)))⟩)))⟩
      · skip
        refine A_iload_n hg dX11_golden_31 rfl rfl ?_
        refine A_iload_n hg dX11_golden_32 rfl rfl ?_
        refine A_i2lP hg dX11_golden_33 (by omega) ?_
        refine A_eS (kc2 := 0) (ks2 := 0) (As := [.int (nI (s1)), .long (lN (v1))]) (rest := []) hg lk_RX11_160 st_X11_goldenB dX11_golden_34 ⟨by decide, by decide⟩ rfl rfl ⟨by decide, by decide⟩ rfl rfl (Nat.le_of_ble_eq_true rfl) (c_X11_goldenB G ex n σ_1 s1 v1 (by omega) (by omega)) ?_
        refine A_goto (tgt := 46) hg dX11_golden_37 (by decide) ?_
        refine A_l2iP hg dX11_golden_46 ?_
        rw [hQ]
        exact A_ireturn hg (by decide) (by decide) rfl dX11_golden_47 ⟨rfl, Or.inr (Or.inr ((⟨s1, v1, (by rw [c28, s_gX_t]), (by first | rfl | assumption | omega), (by first | rfl | assumption | omega), (by first | rfl | assumption | omega), (by first | rfl | assumption | omega), (by first | rfl | assumption | omega), (by first | rfl | assumption | omega), hc_2, (fun i hi => (hf_3 i (by omega)))⟩)))⟩
set_option maxRecDepth 100000 in
set_option maxHeartbeats 4000000 in
theorem c_X11_goldenOf (G : GL) (ex : Bool) (n : Nat) (σ : Nat → va_E) (F : Nat → Int32) (s : Int32) (v : Int32) (hc0 : σ 279 = o11 G F) (hn : 294 ≤ n) : Ct G yX11_goldenOf cX11_goldenOf 4 (some .int) ⟨5, 0, 0, 126⟩ [.ref (q_h G + 279), .int (s), .int (v)] ex n σ (fun v9 σ2 => (v9 = some (.int (nI (0))) ∧ (∀ j : Nat, 1 ≤ j → j ≤ 5 → s = nI j → False) ∧ σ2 279 = o11 G (upd F 7 (nI (1))) ∧ (∀ i : Nat, i ≠ 279 → σ2 i = σ i)) ∨ (∃ (s1 : Nat), v9 = some (.int (nI (0))) ∧ (s = nI s1) ∧ (1 ≤ s1) ∧ (s1 ≤ 5) ∧ (∀ j : Nat, 1 ≤ j → j ≤ 500000000 → v = nI j → False) ∧ σ2 279 = o11 G (upd F 7 (nI (1))) ∧ (∀ i : Nat, i ≠ 279 → σ2 i = σ i)) ∨ (∃ (s1 : Nat), ∃ (v1 : Nat), v9 = some (.int (nI (s_gOf s1 v1))) ∧ (s = nI s1) ∧ (1 ≤ s1) ∧ (s1 ≤ 5) ∧ (v = nI v1) ∧ (1 ≤ v1) ∧ (v1 ≤ 500000000) ∧ σ2 279 = o11 G (upd F 7 (nI (0))) ∧ (∀ i : Nat, i ≠ 279 → σ2 i = σ i))) := by
  refine q_enter [some (.ref (q_h G + 279)), some (.int (s)), some (.int (v)), none] (by decide) (Nat.le_of_ble_eq_true rfl) rfl ?_
  intro K hg
  obtain ⟨Q, hQ⟩ : ∃ Q, Q = q_Q G K ex n 0 0 (fun v9 n' σ' => n' = n ∧ (fun v9 σ2 => (v9 = some (.int (nI (0))) ∧ (∀ j : Nat, 1 ≤ j → j ≤ 5 → s = nI j → False) ∧ σ2 279 = o11 G (upd F 7 (nI (1))) ∧ (∀ i : Nat, i ≠ 279 → σ2 i = σ i)) ∨ (∃ (s1 : Nat), v9 = some (.int (nI (0))) ∧ (s = nI s1) ∧ (1 ≤ s1) ∧ (s1 ≤ 5) ∧ (∀ j : Nat, 1 ≤ j → j ≤ 500000000 → v = nI j → False) ∧ σ2 279 = o11 G (upd F 7 (nI (1))) ∧ (∀ i : Nat, i ≠ 279 → σ2 i = σ i)) ∨ (∃ (s1 : Nat), ∃ (v1 : Nat), v9 = some (.int (nI (s_gOf s1 v1))) ∧ (s = nI s1) ∧ (1 ≤ s1) ∧ (s1 ≤ 5) ∧ (v = nI v1) ∧ (1 ≤ v1) ∧ (v1 ≤ 500000000) ∧ σ2 279 = o11 G (upd F 7 (nI (0))) ∧ (∀ i : Nat, i ≠ 279 → σ2 i = σ i))) v9 σ') q_noX := ⟨_, rfl⟩
  refine (?_ : AJ G K (q_Q G K ex n 0 0 _ _) 0 0 ex n 0 _ _ σ)
  rw [← hQ]
  refine A_aload_n hg dX11_goldenOf_0 rfl rfl ?_
  refine A_iconst (v := (nI (0))) hg dX11_goldenOf_1 (by decide) ?_
  refine A_putf hg fl_RX11_67 dX11_goldenOf_2 hc0 (by omega) (Nat.le_of_ble_eq_true rfl) rfl rfl rfl (fun σ_1 hc_2 hf_3 => ?_)
  have hc_2 : σ_1 279 = o11 G (upd F 7 (nI (0))) := hc_2
  refine A_aload_n hg dX11_goldenOf_5 rfl rfl ?_
  refine A_iload_n hg dX11_goldenOf_6 rfl rfl ?_
  refine A_hV (kc2 := 0) (ks2 := 0) (As := [.int (s)]) (rest := []) hg lk_RX11_427 in_X11_noSlack se_X11_noSlack rfl dX11_goldenOf_7 ⟨by decide, by decide⟩ rfl rfl ⟨by decide, by decide⟩ hc_2 (by omega) rfl rfl (Nat.le_of_ble_eq_true rfl) (c_X11_noSlack G ex n σ_1 (upd F 7 (nI (0))) s hc_2 (by omega)) ?_
  rintro _ σ_7 (⟨rfl, hno, hc_4, hf_5⟩ | ⟨s1, rfl, hse, hsa, hsl, he_6⟩)
  · skip
    refine (?_ : AJ G K Q 0 0 ex n 10 [some (.ref (q_h G + 279)), some (.int (s)), some (.int (v)), none] [.int (nI (1))] σ_7)
    have hc_4 : σ_7 279 = o11 G (upd F 7 (nI (1))) := hc_4
    refine A_if_neN (tgt := 25) hg dX11_goldenOf_10 (by decide) (by decide) (fun c10 => ?_) (fun c10 => absurd c10 (by decide))
    refine A_iconst (v := (nI (0))) hg dX11_goldenOf_25 (by decide) ?_
    rw [hQ]
    exact A_ireturn hg (by decide) (by decide) rfl dX11_goldenOf_26 ⟨rfl, Or.inl (⟨rfl, (by first | rfl | assumption | omega), hc_4, (fun i hi => ((hf_5 i (by omega)).trans (hf_3 i (by omega))))⟩)⟩
  · skip
    rw [he_6]
    refine (?_ : AJ G K Q 0 0 ex n 10 [some (.ref (q_h G + 279)), some (.int (s)), some (.int (v)), none] [.int (nI (0))] σ_1)
    refine A_if_neN (tgt := 25) hg dX11_goldenOf_10 (by decide) (by decide) (fun c10 => absurd (by decide) c10) (fun c10 => ?_)
    subst hse
    refine A_aload_n hg dX11_goldenOf_13 rfl rfl ?_
    refine A_iload_n hg dX11_goldenOf_14 rfl rfl ?_
    refine A_iconst (v := (nI (1))) hg dX11_goldenOf_15 (by decide) ?_
    refine A_ldcw (v := nI 500000000) hg dX11_goldenOf_16 (q_mt 1917 (by decide +kernel)) ?_
    refine A_hV (kc2 := 0) (ks2 := 0) (As := [.int (v), .int (nI (1)), .int (nI (500000000))]) (rest := []) hg lk_RX11_431 in_X11_noNumber se_X11_noNumber rfl dX11_goldenOf_19 ⟨by decide, by decide⟩ rfl rfl ⟨by decide, by decide⟩ hc_2 (by omega) rfl rfl (Nat.le_of_ble_eq_true rfl) (c_X11_noNumber G ex n σ_1 (upd F 7 (nI (0))) v 1 500000000 hc_2 (by omega) (by omega) (by omega)) ?_
    rintro _ σ_11 (⟨rfl, hnn, hc_8, hf_9⟩ | ⟨v1, rfl, hve, hva, hvl, he_10⟩)
    · skip
      refine (?_ : AJ G K Q 0 0 ex n 22 [some (.ref (q_h G + 279)), some (.int (nI (s1))), some (.int (v)), none] [.int (nI (1))] σ_11)
      have hc_8 : σ_11 279 = o11 G (upd F 7 (nI (1))) := hc_8
      refine A_if_eqN (tgt := 27) hg dX11_goldenOf_22 (by decide) (by decide) (fun c22 => absurd c22 (by decide)) (fun c22 => ?_)
      refine A_iconst (v := (nI (0))) hg dX11_goldenOf_25 (by decide) ?_
      rw [hQ]
      exact A_ireturn hg (by decide) (by decide) rfl dX11_goldenOf_26 ⟨rfl, Or.inr (Or.inl (⟨s1, rfl, (by first | rfl | assumption | omega), (by first | rfl | assumption | omega), (by first | rfl | assumption | omega), (by first | rfl | assumption | omega), hc_8, (fun i hi => ((hf_9 i (by omega)).trans (hf_3 i (by omega))))⟩))⟩
    · skip
      rw [he_10]
      refine (?_ : AJ G K Q 0 0 ex n 22 [some (.ref (q_h G + 279)), some (.int (nI (s1))), some (.int (v)), none] [.int (nI (0))] σ_1)
      refine A_if_eqN (tgt := 27) hg dX11_goldenOf_22 (by decide) (by decide) (fun c22 => ?_) (fun c22 => absurd (by decide) c22)
      subst hve
      refine A_iload_n hg dX11_goldenOf_27 rfl rfl ?_
      refine A_iload_n hg dX11_goldenOf_28 rfl rfl ?_
      refine A_i2lP hg dX11_goldenOf_29 (by omega) ?_
      refine A_iconst (v := (nI (0))) hg dX11_goldenOf_30 (by decide) ?_
      refine A_eS (kc2 := 0) (ks2 := 0) (As := [.int (nI (s1)), .long (lN (v1)), .int (nI (0))]) (rest := []) hg lk_RX11_435 st_X11_isInRow dX11_goldenOf_31 ⟨by decide, by decide⟩ rfl rfl ⟨by decide, by decide⟩ rfl rfl (Nat.le_of_ble_eq_true rfl) (c_X11_isInRow G ex n σ_1 s1 v1 false (by omega) (by omega)) ?_
      refine A_if_neB (tgt := 41) hg dX11_goldenOf_34 (by decide) (fun c34 => ?_) (fun c34 => ?_)
      · skip
        refine A_iconst (v := (nI (0))) hg dX11_goldenOf_41 (by decide) ?_
        refine A_istore_n hg dX11_goldenOf_42 rfl (by decide) (q_c1d rfl) ?_
        refine A_eq (ls2 := [some (.ref (q_h G + 279)), some (.int (nI (s1))), some (.int (nI (v1))), some (.int (nI (0)))]) (st2 := []) (pc2 := 0) rfl rfl ?_
        refine A_ldc2 (v := (lN (2))) hg dX11_goldenOf_43 (q_mt 1909 (by decide +kernel)) ?_
        refine A_iload_n hg dX11_goldenOf_46 rfl rfl ?_
        refine A_iload_n hg dX11_goldenOf_47 rfl rfl ?_
        refine A_i2lP hg dX11_goldenOf_48 (by omega) ?_
        refine A_iload_n hg dX11_goldenOf_49 rfl rfl ?_
        refine A_eS (kc2 := 0) (ks2 := 0) (As := [.int (nI (s1)), .long (lN (v1)), .int (nI (0))]) (rest := [.long (lN (2))]) hg lk_RX11_163 st_X11_lastIndex dX11_goldenOf_50 ⟨by decide, by decide⟩ rfl rfl ⟨by decide, by decide⟩ rfl rfl (Nat.le_of_ble_eq_true rfl) (c_X11_lastIndex G ex n σ_1 s1 v1 false (by omega) (by omega)) ?_
        refine A_lmulP hg dX11_goldenOf_53 ?_
        refine A_l2iP hg dX11_goldenOf_54 ?_
        refine A_iload_n hg dX11_goldenOf_55 rfl rfl ?_
        refine A_if_eqN (tgt := 63) hg dX11_goldenOf_56 (by decide) (by decide) (fun c56 => ?_) (fun c56 => absurd (by decide) c56)
        refine A_iconst (v := (nI (0))) hg dX11_goldenOf_63 (by decide) ?_
        refine A_iaddN hg dX11_goldenOf_64 ?_
        rw [hQ]
        exact A_ireturn hg (by decide) (by decide) rfl dX11_goldenOf_65 ⟨rfl, Or.inr (Or.inr ((⟨s1, v1, (by unfold s_gOf; rw [if_pos (beq_iff_eq.mp c34)]), (by first | rfl | assumption | omega), (by first | rfl | assumption | omega), (by first | rfl | assumption | omega), (by first | rfl | assumption | omega), (by first | rfl | assumption | omega), (by first | rfl | assumption | omega), hc_2, (fun i hi => (hf_3 i (by omega)))⟩)))⟩
      · skip
        refine A_iconst (v := (nI (1))) hg dX11_goldenOf_37 (by decide) ?_
        refine A_goto (tgt := 42) hg dX11_goldenOf_38 (by decide) ?_
        refine A_istore_n hg dX11_goldenOf_42 rfl (by decide) (q_c1d rfl) ?_
        refine A_eq (ls2 := [some (.ref (q_h G + 279)), some (.int (nI (s1))), some (.int (nI (v1))), some (.int (nI (1)))]) (st2 := []) (pc2 := 0) rfl rfl ?_
        refine A_ldc2 (v := (lN (2))) hg dX11_goldenOf_43 (q_mt 1909 (by decide +kernel)) ?_
        refine A_iload_n hg dX11_goldenOf_46 rfl rfl ?_
        refine A_iload_n hg dX11_goldenOf_47 rfl rfl ?_
        refine A_i2lP hg dX11_goldenOf_48 (by omega) ?_
        refine A_iload_n hg dX11_goldenOf_49 rfl rfl ?_
        refine A_eS (kc2 := 0) (ks2 := 0) (As := [.int (nI (s1)), .long (lN (v1)), .int (nI (1))]) (rest := [.long (lN (2))]) hg lk_RX11_163 st_X11_lastIndex dX11_goldenOf_50 ⟨by decide, by decide⟩ rfl rfl ⟨by decide, by decide⟩ rfl rfl (Nat.le_of_ble_eq_true rfl) (c_X11_lastIndex G ex n σ_1 s1 v1 true (by omega) (by omega)) ?_
        refine A_lmulP hg dX11_goldenOf_53 ?_
        refine A_l2iP hg dX11_goldenOf_54 ?_
        refine A_iload_n hg dX11_goldenOf_55 rfl rfl ?_
        refine A_if_eqN (tgt := 63) hg dX11_goldenOf_56 (by decide) (by decide) (fun c56 => absurd c56 (by decide)) (fun c56 => ?_)
        refine A_iconst (v := (nI (1))) hg dX11_goldenOf_59 (by decide) ?_
        refine A_goto (tgt := 64) hg dX11_goldenOf_60 (by decide) ?_
        refine A_iaddN hg dX11_goldenOf_64 ?_
        rw [hQ]
        exact A_ireturn hg (by decide) (by decide) rfl dX11_goldenOf_65 ⟨rfl, Or.inr (Or.inr ((⟨s1, v1, (by unfold s_gOf; rw [if_neg (beq_eq_false_iff_ne.mp c34)]), (by first | rfl | assumption | omega), (by first | rfl | assumption | omega), (by first | rfl | assumption | omega), (by first | rfl | assumption | omega), (by first | rfl | assumption | omega), (by first | rfl | assumption | omega), hc_2, (fun i hi => (hf_3 i (by omega)))⟩)))⟩
set_option maxRecDepth 100000 in
set_option maxHeartbeats 4000000 in
theorem c_X11_goldenPartner (G : GL) (ex : Bool) (n : Nat) (σ : Nat → va_E) (F : Nat → Int32) (s : Int32) (v : Int32) (hc0 : σ 279 = o11 G F) (hn : 294 ≤ n) : Ct G yX11_goldenPartner cX11_goldenPartner 6 (some .long) ⟨5, 0, 0, 126⟩ [.ref (q_h G + 279), .int (s), .int (v)] ex n σ (fun v9 σ2 => (v9 = some (.long (lN (0))) ∧ (∀ j : Nat, 1 ≤ j → j ≤ 5 → s = nI j → False) ∧ σ2 279 = o11 G (upd F 7 (nI (1))) ∧ (∀ i : Nat, i ≠ 279 → σ2 i = σ i)) ∨ (∃ (s1 : Nat), v9 = some (.long (lN (0))) ∧ (s = nI s1) ∧ (1 ≤ s1) ∧ (s1 ≤ 5) ∧ (∀ j : Nat, 1 ≤ j → j ≤ 500000000 → v = nI j → False) ∧ σ2 279 = o11 G (upd F 7 (nI (1))) ∧ (∀ i : Nat, i ≠ 279 → σ2 i = σ i)) ∨ (∃ (s1 : Nat), ∃ (v1 : Nat), v9 = some (.long (lN (s_gPt s1 v1))) ∧ (s = nI s1) ∧ (1 ≤ s1) ∧ (s1 ≤ 5) ∧ (v = nI v1) ∧ (1 ≤ v1) ∧ (v1 ≤ 500000000) ∧ σ2 279 = o11 G (upd F 7 (nI (0))) ∧ (∀ i : Nat, i ≠ 279 → σ2 i = σ i))) := by
  refine q_enter [some (.ref (q_h G + 279)), some (.int (s)), some (.int (v)), none, none, none] (by decide) (Nat.le_of_ble_eq_true rfl) rfl ?_
  intro K hg
  obtain ⟨Q, hQ⟩ : ∃ Q, Q = q_Q G K ex n 0 0 (fun v9 n' σ' => n' = n ∧ (fun v9 σ2 => (v9 = some (.long (lN (0))) ∧ (∀ j : Nat, 1 ≤ j → j ≤ 5 → s = nI j → False) ∧ σ2 279 = o11 G (upd F 7 (nI (1))) ∧ (∀ i : Nat, i ≠ 279 → σ2 i = σ i)) ∨ (∃ (s1 : Nat), v9 = some (.long (lN (0))) ∧ (s = nI s1) ∧ (1 ≤ s1) ∧ (s1 ≤ 5) ∧ (∀ j : Nat, 1 ≤ j → j ≤ 500000000 → v = nI j → False) ∧ σ2 279 = o11 G (upd F 7 (nI (1))) ∧ (∀ i : Nat, i ≠ 279 → σ2 i = σ i)) ∨ (∃ (s1 : Nat), ∃ (v1 : Nat), v9 = some (.long (lN (s_gPt s1 v1))) ∧ (s = nI s1) ∧ (1 ≤ s1) ∧ (s1 ≤ 5) ∧ (v = nI v1) ∧ (1 ≤ v1) ∧ (v1 ≤ 500000000) ∧ σ2 279 = o11 G (upd F 7 (nI (0))) ∧ (∀ i : Nat, i ≠ 279 → σ2 i = σ i))) v9 σ') q_noX := ⟨_, rfl⟩
  refine (?_ : AJ G K (q_Q G K ex n 0 0 _ _) 0 0 ex n 0 _ _ σ)
  rw [← hQ]
  refine A_aload_n hg dX11_goldenPartner_0 rfl rfl ?_
  refine A_iconst (v := (nI (0))) hg dX11_goldenPartner_1 (by decide) ?_
  refine A_putf hg fl_RX11_67 dX11_goldenPartner_2 hc0 (by omega) (Nat.le_of_ble_eq_true rfl) rfl rfl rfl (fun σ_1 hc_2 hf_3 => ?_)
  have hc_2 : σ_1 279 = o11 G (upd F 7 (nI (0))) := hc_2
  refine A_aload_n hg dX11_goldenPartner_5 rfl rfl ?_
  refine A_iload_n hg dX11_goldenPartner_6 rfl rfl ?_
  refine A_hV (kc2 := 0) (ks2 := 0) (As := [.int (s)]) (rest := []) hg lk_RX11_427 in_X11_noSlack se_X11_noSlack rfl dX11_goldenPartner_7 ⟨by decide, by decide⟩ rfl rfl ⟨by decide, by decide⟩ hc_2 (by omega) rfl rfl (Nat.le_of_ble_eq_true rfl) (c_X11_noSlack G ex n σ_1 (upd F 7 (nI (0))) s hc_2 (by omega)) ?_
  rintro _ σ_7 (⟨rfl, hno, hc_4, hf_5⟩ | ⟨s1, rfl, hse, hsa, hsl, he_6⟩)
  · skip
    refine (?_ : AJ G K Q 0 0 ex n 10 [some (.ref (q_h G + 279)), some (.int (s)), some (.int (v)), none, none, none] [.int (nI (1))] σ_7)
    have hc_4 : σ_7 279 = o11 G (upd F 7 (nI (1))) := hc_4
    refine A_if_neN (tgt := 25) hg dX11_goldenPartner_10 (by decide) (by decide) (fun c10 => ?_) (fun c10 => absurd c10 (by decide))
    refine A_lconst (v := (lN (0))) hg dX11_goldenPartner_25 (by decide) ?_
    rw [hQ]
    exact A_lreturn hg (by decide) (by decide) rfl dX11_goldenPartner_26 ⟨rfl, Or.inl (⟨rfl, (by first | rfl | assumption | omega), hc_4, (fun i hi => ((hf_5 i (by omega)).trans (hf_3 i (by omega))))⟩)⟩
  · skip
    rw [he_6]
    refine (?_ : AJ G K Q 0 0 ex n 10 [some (.ref (q_h G + 279)), some (.int (s)), some (.int (v)), none, none, none] [.int (nI (0))] σ_1)
    refine A_if_neN (tgt := 25) hg dX11_goldenPartner_10 (by decide) (by decide) (fun c10 => absurd (by decide) c10) (fun c10 => ?_)
    subst hse
    refine A_aload_n hg dX11_goldenPartner_13 rfl rfl ?_
    refine A_iload_n hg dX11_goldenPartner_14 rfl rfl ?_
    refine A_iconst (v := (nI (1))) hg dX11_goldenPartner_15 (by decide) ?_
    refine A_ldcw (v := nI 500000000) hg dX11_goldenPartner_16 (q_mt 1917 (by decide +kernel)) ?_
    refine A_hV (kc2 := 0) (ks2 := 0) (As := [.int (v), .int (nI (1)), .int (nI (500000000))]) (rest := []) hg lk_RX11_431 in_X11_noNumber se_X11_noNumber rfl dX11_goldenPartner_19 ⟨by decide, by decide⟩ rfl rfl ⟨by decide, by decide⟩ hc_2 (by omega) rfl rfl (Nat.le_of_ble_eq_true rfl) (c_X11_noNumber G ex n σ_1 (upd F 7 (nI (0))) v 1 500000000 hc_2 (by omega) (by omega) (by omega)) ?_
    rintro _ σ_11 (⟨rfl, hnn, hc_8, hf_9⟩ | ⟨v1, rfl, hve, hva, hvl, he_10⟩)
    · skip
      refine (?_ : AJ G K Q 0 0 ex n 22 [some (.ref (q_h G + 279)), some (.int (nI (s1))), some (.int (v)), none, none, none] [.int (nI (1))] σ_11)
      have hc_8 : σ_11 279 = o11 G (upd F 7 (nI (1))) := hc_8
      refine A_if_eqN (tgt := 27) hg dX11_goldenPartner_22 (by decide) (by decide) (fun c22 => absurd c22 (by decide)) (fun c22 => ?_)
      refine A_lconst (v := (lN (0))) hg dX11_goldenPartner_25 (by decide) ?_
      rw [hQ]
      exact A_lreturn hg (by decide) (by decide) rfl dX11_goldenPartner_26 ⟨rfl, Or.inr (Or.inl (⟨s1, rfl, (by first | rfl | assumption | omega), (by first | rfl | assumption | omega), (by first | rfl | assumption | omega), (by first | rfl | assumption | omega), hc_8, (fun i hi => ((hf_9 i (by omega)).trans (hf_3 i (by omega))))⟩))⟩
    · skip
      rw [he_10]
      refine (?_ : AJ G K Q 0 0 ex n 22 [some (.ref (q_h G + 279)), some (.int (nI (s1))), some (.int (v)), none, none, none] [.int (nI (0))] σ_1)
      refine A_if_eqN (tgt := 27) hg dX11_goldenPartner_22 (by decide) (by decide) (fun c22 => ?_) (fun c22 => absurd (by decide) c22)
      subst hve
      refine A_iload_n hg dX11_goldenPartner_27 rfl rfl ?_
      refine A_iload_n hg dX11_goldenPartner_28 rfl rfl ?_
      refine A_i2lP hg dX11_goldenPartner_29 (by omega) ?_
      refine A_iconst (v := (nI (0))) hg dX11_goldenPartner_30 (by decide) ?_
      refine A_eS (kc2 := 0) (ks2 := 0) (As := [.int (nI (s1)), .long (lN (v1)), .int (nI (0))]) (rest := []) hg lk_RX11_435 st_X11_isInRow dX11_goldenPartner_31 ⟨by decide, by decide⟩ rfl rfl ⟨by decide, by decide⟩ rfl rfl (Nat.le_of_ble_eq_true rfl) (c_X11_isInRow G ex n σ_1 s1 v1 false (by omega) (by omega)) ?_
      refine A_if_neB (tgt := 41) hg dX11_goldenPartner_34 (by decide) (fun c34 => ?_) (fun c34 => ?_)
      · skip
        refine A_iconst (v := (nI (0))) hg dX11_goldenPartner_41 (by decide) ?_
        refine A_istore_n hg dX11_goldenPartner_42 rfl (by decide) (q_c1d rfl) ?_
        refine A_eq (ls2 := [some (.ref (q_h G + 279)), some (.int (nI (s1))), some (.int (nI (v1))), some (.int (nI (0))), none, none]) (st2 := []) (pc2 := 0) rfl rfl ?_
        refine A_iload_n hg dX11_goldenPartner_43 rfl rfl ?_
        refine A_iload_n hg dX11_goldenPartner_44 rfl rfl ?_
        refine A_i2lP hg dX11_goldenPartner_45 (by omega) ?_
        refine A_iload_n hg dX11_goldenPartner_46 rfl rfl ?_
        refine A_eS (kc2 := 0) (ks2 := 0) (As := [.int (nI (s1)), .long (lN (v1)), .int (nI (0))]) (rest := []) hg lk_RX11_163 st_X11_lastIndex dX11_goldenPartner_47 ⟨by decide, by decide⟩ rfl rfl ⟨by decide, by decide⟩ rfl rfl (Nat.le_of_ble_eq_true rfl) (c_X11_lastIndex G ex n σ_1 s1 v1 false (by omega) (by omega)) ?_
        refine A_lstore hg dX11_goldenPartner_50 (by decide) (q_c1d rfl) (by simp) ?_
        refine A_eq (ls2 := [some (.ref (q_h G + 279)), some (.int (nI (s1))), some (.int (nI (v1))), some (.int (nI (0))), some (.long (lN (s_li s1 false v1))), none]) (st2 := []) (pc2 := 0) rfl rfl ?_
        refine A_iload_n hg dX11_goldenPartner_52 rfl rfl ?_
        refine A_if_eqN (tgt := 65) hg dX11_goldenPartner_53 (by decide) (by decide) (fun c53 => ?_) (fun c53 => absurd (by decide) c53)
        refine A_iload_n hg dX11_goldenPartner_65 rfl rfl ?_
        refine A_lload hg dX11_goldenPartner_66 rfl ?_
        refine A_eS (kc2 := 0) (ks2 := 0) (As := [.int (nI (s1)), .long (lN (s_li s1 false v1))]) (rest := []) hg lk_RX11_160 st_X11_goldenB dX11_goldenPartner_68 ⟨by decide, by decide⟩ rfl rfl ⟨by decide, by decide⟩ rfl rfl (Nat.le_of_ble_eq_true rfl) (c_X11_goldenB G ex n σ_1 s1 (s_li s1 false v1) (by omega) (Nat.le_trans (s_li_le _ _ _) (by omega))) ?_
        rw [hQ]
        exact A_lreturn hg (by decide) (by decide) rfl dX11_goldenPartner_71 ⟨rfl, Or.inr (Or.inr ((⟨s1, v1, (by unfold s_gPt; rw [if_pos (beq_iff_eq.mp c34)]), (by first | rfl | assumption | omega), (by first | rfl | assumption | omega), (by first | rfl | assumption | omega), (by first | rfl | assumption | omega), (by first | rfl | assumption | omega), (by first | rfl | assumption | omega), hc_2, (fun i hi => (hf_3 i (by omega)))⟩)))⟩
      · skip
        refine A_iconst (v := (nI (1))) hg dX11_goldenPartner_37 (by decide) ?_
        refine A_goto (tgt := 42) hg dX11_goldenPartner_38 (by decide) ?_
        refine A_istore_n hg dX11_goldenPartner_42 rfl (by decide) (q_c1d rfl) ?_
        refine A_eq (ls2 := [some (.ref (q_h G + 279)), some (.int (nI (s1))), some (.int (nI (v1))), some (.int (nI (1))), none, none]) (st2 := []) (pc2 := 0) rfl rfl ?_
        refine A_iload_n hg dX11_goldenPartner_43 rfl rfl ?_
        refine A_iload_n hg dX11_goldenPartner_44 rfl rfl ?_
        refine A_i2lP hg dX11_goldenPartner_45 (by omega) ?_
        refine A_iload_n hg dX11_goldenPartner_46 rfl rfl ?_
        refine A_eS (kc2 := 0) (ks2 := 0) (As := [.int (nI (s1)), .long (lN (v1)), .int (nI (1))]) (rest := []) hg lk_RX11_163 st_X11_lastIndex dX11_goldenPartner_47 ⟨by decide, by decide⟩ rfl rfl ⟨by decide, by decide⟩ rfl rfl (Nat.le_of_ble_eq_true rfl) (c_X11_lastIndex G ex n σ_1 s1 v1 true (by omega) (by omega)) ?_
        refine A_lstore hg dX11_goldenPartner_50 (by decide) (q_c1d rfl) (by simp) ?_
        refine A_eq (ls2 := [some (.ref (q_h G + 279)), some (.int (nI (s1))), some (.int (nI (v1))), some (.int (nI (1))), some (.long (lN (s_li s1 true v1))), none]) (st2 := []) (pc2 := 0) rfl rfl ?_
        refine A_iload_n hg dX11_goldenPartner_52 rfl rfl ?_
        refine A_if_eqN (tgt := 65) hg dX11_goldenPartner_53 (by decide) (by decide) (fun c53 => absurd c53 (by decide)) (fun c53 => ?_)
        refine A_iload_n hg dX11_goldenPartner_56 rfl rfl ?_
        refine A_lload hg dX11_goldenPartner_57 rfl ?_
        refine A_eS (kc2 := 0) (ks2 := 0) (As := [.int (nI (s1)), .long (lN (s_li s1 true v1))]) (rest := []) hg lk_RX11_156 st_X11_goldenA dX11_goldenPartner_59 ⟨by decide, by decide⟩ rfl rfl ⟨by decide, by decide⟩ rfl rfl (Nat.le_of_ble_eq_true rfl) (c_X11_goldenA G ex n σ_1 s1 (s_li s1 true v1) (by omega) (Nat.le_trans (s_li_le _ _ _) (by omega))) ?_
        refine A_goto (tgt := 71) hg dX11_goldenPartner_62 (by decide) ?_
        rw [hQ]
        exact A_lreturn hg (by decide) (by decide) rfl dX11_goldenPartner_71 ⟨rfl, Or.inr (Or.inr ((⟨s1, v1, (by unfold s_gPt; rw [if_neg (beq_eq_false_iff_ne.mp c34)]), (by first | rfl | assumption | omega), (by first | rfl | assumption | omega), (by first | rfl | assumption | omega), (by first | rfl | assumption | omega), (by first | rfl | assumption | omega), (by first | rfl | assumption | omega), hc_2, (fun i hi => (hf_3 i (by omega)))⟩)))⟩
set_option maxRecDepth 100000 in
set_option maxHeartbeats 4000000 in
theorem c_X11_goldenMany (G : GL) (ex : Bool) (n : Nat) (σ : Nat → va_E) (F : Nat → Int32) (s : Int32) (v : Int32) (hc0 : σ 279 = o11 G F) (hn : 294 ≤ n) : Ct G yX11_goldenMany cX11_goldenMany 3 (some .int) ⟨4, 0, 0, 101⟩ [.ref (q_h G + 279), .int (s), .int (v)] ex n σ (fun v9 σ2 => (v9 = some (.int (nI (0))) ∧ (∀ j : Nat, 1 ≤ j → j ≤ 5 → s = nI j → False) ∧ σ2 279 = o11 G (upd F 7 (nI (1))) ∧ (∀ i : Nat, i ≠ 279 → σ2 i = σ i)) ∨ (∃ (s1 : Nat), v9 = some (.int (nI (0))) ∧ (s = nI s1) ∧ (1 ≤ s1) ∧ (s1 ≤ 5) ∧ (∀ j : Nat, 0 ≤ j → j ≤ 500000000 → v = nI j → False) ∧ σ2 279 = o11 G (upd F 7 (nI (1))) ∧ (∀ i : Nat, i ≠ 279 → σ2 i = σ i)) ∨ (∃ (s1 : Nat), ∃ (v1 : Nat), v9 = some (.int (nI (s_li s1 true v1))) ∧ (s = nI s1) ∧ (1 ≤ s1) ∧ (s1 ≤ 5) ∧ (v = nI v1) ∧ (0 ≤ v1) ∧ (v1 ≤ 500000000) ∧ σ2 279 = o11 G (upd F 7 (nI (0))) ∧ (∀ i : Nat, i ≠ 279 → σ2 i = σ i))) := by
  refine q_enter [some (.ref (q_h G + 279)), some (.int (s)), some (.int (v))] (by decide) (Nat.le_of_ble_eq_true rfl) rfl ?_
  intro K hg
  obtain ⟨Q, hQ⟩ : ∃ Q, Q = q_Q G K ex n 0 0 (fun v9 n' σ' => n' = n ∧ (fun v9 σ2 => (v9 = some (.int (nI (0))) ∧ (∀ j : Nat, 1 ≤ j → j ≤ 5 → s = nI j → False) ∧ σ2 279 = o11 G (upd F 7 (nI (1))) ∧ (∀ i : Nat, i ≠ 279 → σ2 i = σ i)) ∨ (∃ (s1 : Nat), v9 = some (.int (nI (0))) ∧ (s = nI s1) ∧ (1 ≤ s1) ∧ (s1 ≤ 5) ∧ (∀ j : Nat, 0 ≤ j → j ≤ 500000000 → v = nI j → False) ∧ σ2 279 = o11 G (upd F 7 (nI (1))) ∧ (∀ i : Nat, i ≠ 279 → σ2 i = σ i)) ∨ (∃ (s1 : Nat), ∃ (v1 : Nat), v9 = some (.int (nI (s_li s1 true v1))) ∧ (s = nI s1) ∧ (1 ≤ s1) ∧ (s1 ≤ 5) ∧ (v = nI v1) ∧ (0 ≤ v1) ∧ (v1 ≤ 500000000) ∧ σ2 279 = o11 G (upd F 7 (nI (0))) ∧ (∀ i : Nat, i ≠ 279 → σ2 i = σ i))) v9 σ') q_noX := ⟨_, rfl⟩
  refine (?_ : AJ G K (q_Q G K ex n 0 0 _ _) 0 0 ex n 0 _ _ σ)
  rw [← hQ]
  refine A_aload_n hg dX11_goldenMany_0 rfl rfl ?_
  refine A_iconst (v := (nI (0))) hg dX11_goldenMany_1 (by decide) ?_
  refine A_putf hg fl_RX11_67 dX11_goldenMany_2 hc0 (by omega) (Nat.le_of_ble_eq_true rfl) rfl rfl rfl (fun σ_1 hc_2 hf_3 => ?_)
  have hc_2 : σ_1 279 = o11 G (upd F 7 (nI (0))) := hc_2
  refine A_aload_n hg dX11_goldenMany_5 rfl rfl ?_
  refine A_iload_n hg dX11_goldenMany_6 rfl rfl ?_
  refine A_hV (kc2 := 0) (ks2 := 0) (As := [.int (s)]) (rest := []) hg lk_RX11_427 in_X11_noSlack se_X11_noSlack rfl dX11_goldenMany_7 ⟨by decide, by decide⟩ rfl rfl ⟨by decide, by decide⟩ hc_2 (by omega) rfl rfl (Nat.le_of_ble_eq_true rfl) (c_X11_noSlack G ex n σ_1 (upd F 7 (nI (0))) s hc_2 (by omega)) ?_
  rintro _ σ_7 (⟨rfl, hno, hc_4, hf_5⟩ | ⟨s1, rfl, hse, hsa, hsl, he_6⟩)
  · skip
    refine (?_ : AJ G K Q 0 0 ex n 10 [some (.ref (q_h G + 279)), some (.int (s)), some (.int (v))] [.int (nI (1))] σ_7)
    have hc_4 : σ_7 279 = o11 G (upd F 7 (nI (1))) := hc_4
    refine A_if_neN (tgt := 25) hg dX11_goldenMany_10 (by decide) (by decide) (fun c10 => ?_) (fun c10 => absurd c10 (by decide))
    refine A_iconst (v := (nI (0))) hg dX11_goldenMany_25 (by decide) ?_
    refine A_goto (tgt := 37) hg dX11_goldenMany_26 (by decide) ?_
    rw [hQ]
    exact A_ireturn hg (by decide) (by decide) rfl dX11_goldenMany_37 ⟨rfl, Or.inl (⟨rfl, (by first | rfl | assumption | omega), hc_4, (fun i hi => ((hf_5 i (by omega)).trans (hf_3 i (by omega))))⟩)⟩
  · skip
    rw [he_6]
    refine (?_ : AJ G K Q 0 0 ex n 10 [some (.ref (q_h G + 279)), some (.int (s)), some (.int (v))] [.int (nI (0))] σ_1)
    refine A_if_neN (tgt := 25) hg dX11_goldenMany_10 (by decide) (by decide) (fun c10 => absurd (by decide) c10) (fun c10 => ?_)
    subst hse
    refine A_aload_n hg dX11_goldenMany_13 rfl rfl ?_
    refine A_iload_n hg dX11_goldenMany_14 rfl rfl ?_
    refine A_iconst (v := (nI (0))) hg dX11_goldenMany_15 (by decide) ?_
    refine A_ldcw (v := nI 500000000) hg dX11_goldenMany_16 (q_mt 1917 (by decide +kernel)) ?_
    refine A_hV (kc2 := 0) (ks2 := 0) (As := [.int (v), .int (nI (0)), .int (nI (500000000))]) (rest := []) hg lk_RX11_431 in_X11_noNumber se_X11_noNumber rfl dX11_goldenMany_19 ⟨by decide, by decide⟩ rfl rfl ⟨by decide, by decide⟩ hc_2 (by omega) rfl rfl (Nat.le_of_ble_eq_true rfl) (c_X11_noNumber G ex n σ_1 (upd F 7 (nI (0))) v 0 500000000 hc_2 (by omega) (by omega) (by omega)) ?_
    rintro _ σ_11 (⟨rfl, hnn, hc_8, hf_9⟩ | ⟨v1, rfl, hve, hva, hvl, he_10⟩)
    · skip
      refine (?_ : AJ G K Q 0 0 ex n 22 [some (.ref (q_h G + 279)), some (.int (nI (s1))), some (.int (v))] [.int (nI (1))] σ_11)
      have hc_8 : σ_11 279 = o11 G (upd F 7 (nI (1))) := hc_8
      refine A_if_eqN (tgt := 29) hg dX11_goldenMany_22 (by decide) (by decide) (fun c22 => absurd c22 (by decide)) (fun c22 => ?_)
      refine A_iconst (v := (nI (0))) hg dX11_goldenMany_25 (by decide) ?_
      refine A_goto (tgt := 37) hg dX11_goldenMany_26 (by decide) ?_
      rw [hQ]
      exact A_ireturn hg (by decide) (by decide) rfl dX11_goldenMany_37 ⟨rfl, Or.inr (Or.inl (⟨s1, rfl, (by first | rfl | assumption | omega), (by first | rfl | assumption | omega), (by first | rfl | assumption | omega), (by first | rfl | assumption | omega), hc_8, (fun i hi => ((hf_9 i (by omega)).trans (hf_3 i (by omega))))⟩))⟩
    · skip
      rw [he_10]
      refine (?_ : AJ G K Q 0 0 ex n 22 [some (.ref (q_h G + 279)), some (.int (nI (s1))), some (.int (v))] [.int (nI (0))] σ_1)
      refine A_if_eqN (tgt := 29) hg dX11_goldenMany_22 (by decide) (by decide) (fun c22 => ?_) (fun c22 => absurd (by decide) c22)
      subst hve
      refine A_iload_n hg dX11_goldenMany_29 rfl rfl ?_
      refine A_iload_n hg dX11_goldenMany_30 rfl rfl ?_
      refine A_i2lP hg dX11_goldenMany_31 (by omega) ?_
      refine A_iconst (v := (nI (1))) hg dX11_goldenMany_32 (by decide) ?_
      refine A_eS (kc2 := 0) (ks2 := 0) (As := [.int (nI (s1)), .long (lN (v1)), .int (nI (1))]) (rest := []) hg lk_RX11_163 st_X11_lastIndex dX11_goldenMany_33 ⟨by decide, by decide⟩ rfl rfl ⟨by decide, by decide⟩ rfl rfl (Nat.le_of_ble_eq_true rfl) (c_X11_lastIndex G ex n σ_1 s1 v1 true (by omega) (by omega)) ?_
      refine A_l2iP hg dX11_goldenMany_36 ?_
      rw [hQ]
      exact A_ireturn hg (by decide) (by decide) rfl dX11_goldenMany_37 ⟨rfl, Or.inr (Or.inr ((⟨s1, v1, rfl, (by first | rfl | assumption | omega), (by first | rfl | assumption | omega), (by first | rfl | assumption | omega), (by first | rfl | assumption | omega), (by first | rfl | assumption | omega), (by first | rfl | assumption | omega), hc_2, (fun i hi => (hf_3 i (by omega)))⟩)))⟩
end
