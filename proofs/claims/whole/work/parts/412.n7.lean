section
set_option maxRecDepth 100000 in
set_option maxHeartbeats 4000000 in
theorem c_X11_readBoard (G : GL) (ex : Bool) (n : Nat) (σ : Nat → va_E) (F : Nat → Int32) (g : Nat → Nat) (f : Nat → Nat) (m : Nat) (t : Nat) (hc0 : σ 279 = o11 G F) (hc1 : σ 292 = q_an G 600 f) (hc2 : σ 280 = q_an G 265 g) (hn : 294 ≤ n) (hF21 : F 21 = nI m) (hm : m ≤ 600) (hbb : ∀ k : Nat, s_byte f m k ≤ 256) (htm : t ≤ m) (hF24 : F 24 = nI 0) (hF26 : F 26 = nI (tk_be f m t)) (hF27 : F 27 = nI t) (hF28 : F 28 = nI (tk_vl f m t)) (hF30 : F 30 = nI (tk_kd f m t)) (hi : rd_inv g) : Ct G yX11_readBoard cX11_readBoard 3 (some .boolean) ⟨4, 0, 0, 86⟩ [.ref (q_h G + 279)] ex n σ (fun v9 σ2 => (∃ (F' : Nat → Int32), ∃ (g' : Nat → Nat), ∃ (c : Nat), ∃ (o : Nat), v9 = some (.int (nI (0))) ∧ (rd_d f m g t = .inl (c, o)) ∧ (¬ c = 0) ∧ (∀ j : Nat, j ≠ 24 ∧ j ≠ 25 ∧ j ≠ 26 ∧ j ≠ 27 ∧ j ≠ 28 ∧ j ≠ 30 ∧ j ≠ 31 → F' j = F j) ∧ (F' 24 = nI c) ∧ (F' 25 = nI o) ∧ σ2 279 = o11 G F' ∧ σ2 280 = q_an G 265 g' ∧ (∀ i : Nat, i ≠ 279 ∧ i ≠ 280 → σ2 i = σ i)) ∨ (∃ (F' : Nat → Int32), ∃ (t' : Nat), ∃ (g' : Nat → Nat), v9 = some (.int (nI (1))) ∧ (rd_d f m g t = .inr (g', t')) ∧ (t' ≤ m) ∧ (t ≤ t') ∧ (∀ j : Nat, j ≠ 26 ∧ j ≠ 27 ∧ j ≠ 28 ∧ j ≠ 30 ∧ j ≠ 31 → F' j = F j) ∧ (F' 26 = nI (tk_be f m t')) ∧ (F' 27 = nI t') ∧ (F' 28 = nI (tk_vl f m t')) ∧ (F' 30 = nI (tk_kd f m t')) ∧ σ2 279 = o11 G F' ∧ σ2 280 = q_an G 265 g' ∧ (∀ i : Nat, i ≠ 279 ∧ i ≠ 280 → σ2 i = σ i))) := by
  refine q_enter [some (.ref (q_h G + 279)), none, none] (by decide) (Nat.le_of_ble_eq_true rfl) rfl ?_
  intro K hg
  obtain ⟨Q, hQ⟩ : ∃ Q, Q = q_Q G K ex n 0 0 (fun v9 n' σ' => n' = n ∧ (fun v9 σ2 => (∃ (F' : Nat → Int32), ∃ (g' : Nat → Nat), ∃ (c : Nat), ∃ (o : Nat), v9 = some (.int (nI (0))) ∧ (rd_d f m g t = .inl (c, o)) ∧ (¬ c = 0) ∧ (∀ j : Nat, j ≠ 24 ∧ j ≠ 25 ∧ j ≠ 26 ∧ j ≠ 27 ∧ j ≠ 28 ∧ j ≠ 30 ∧ j ≠ 31 → F' j = F j) ∧ (F' 24 = nI c) ∧ (F' 25 = nI o) ∧ σ2 279 = o11 G F' ∧ σ2 280 = q_an G 265 g' ∧ (∀ i : Nat, i ≠ 279 ∧ i ≠ 280 → σ2 i = σ i)) ∨ (∃ (F' : Nat → Int32), ∃ (t' : Nat), ∃ (g' : Nat → Nat), v9 = some (.int (nI (1))) ∧ (rd_d f m g t = .inr (g', t')) ∧ (t' ≤ m) ∧ (t ≤ t') ∧ (∀ j : Nat, j ≠ 26 ∧ j ≠ 27 ∧ j ≠ 28 ∧ j ≠ 30 ∧ j ≠ 31 → F' j = F j) ∧ (F' 26 = nI (tk_be f m t')) ∧ (F' 27 = nI t') ∧ (F' 28 = nI (tk_vl f m t')) ∧ (F' 30 = nI (tk_kd f m t')) ∧ σ2 279 = o11 G F' ∧ σ2 280 = q_an G 265 g' ∧ (∀ i : Nat, i ≠ 279 ∧ i ≠ 280 → σ2 i = σ i))) v9 σ') q_noX := ⟨_, rfl⟩
  refine (?_ : AJ G K (q_Q G K ex n 0 0 _ _) 0 0 ex n 0 _ _ σ)
  rw [← hQ]
  have hbl := tk_be_le (f := f) htm
  have hbg := tk_be_ge (f := f) (m := m) (t := t)
  have hkd := tk_kd_lt f m t
  have hvl := tk_vl_lt f m t
  have hg04 := hi.1.1
  have hg14 := hi.1.2.1
  have hgv := hi.2.1
  refine A_aload_n hg dX11_readBoard_0 rfl rfl ?_
  refine A_getf (v := .ref (q_h G + 280)) hg fl_RX11_7 dX11_readBoard_1 hc0 (by omega) rfl ?_
  refine A_iconst (v := (nI (1))) hg dX11_readBoard_4 (by decide) ?_
  refine A_iald (j := 1) hg dX11_readBoard_5 hc2 (by omega) (by omega) (by decide) ?_
  refine A_iconst (v := (nI (4))) hg dX11_readBoard_6 (by decide) ?_
  refine A_icmp_neN (tgt := 16) hg dX11_readBoard_7 (by omega) (by decide) (by decide) (fun c7 => ?_) (fun c7 => ?_)
  · skip
    refine A_aload_n hg dX11_readBoard_16 rfl rfl ?_
    refine A_vV (kc2 := 0) (ks2 := 0) (As := []) (rest := []) hg lk_RX11_301 in_X11_advanceToken se_X11_advanceToken rfl dX11_readBoard_17 ⟨by decide, by decide⟩ rfl rfl ⟨by decide, by decide⟩ hc0 (by omega) rfl rfl (Nat.le_of_ble_eq_true rfl) (c_X11_advanceToken G ex n σ F f m (tk_be f m t) hc0 hc1 (by omega) hF21 (by omega) hbb (tk_be_le htm) hF26) ?_
    rintro σ_3 ⟨F_t2, t2, ht_t2, htm_t2, hfr_t2, h26_t2, h27_t2, h28_t2, h30_t2, hc_1, hf_2⟩
    have hc_4 : σ_3 292 = q_an G 600 f := (hf_2 _ (by omega)).trans hc1
    have hc_5 : σ_3 280 = q_an G 265 g := (hf_2 _ (by omega)).trans hc2
    have hn2 : t2 = tk_nx f m t := ht_t2
    have hg2 := tk_ge2 hn2
    refine A_aload_n hg dX11_readBoard_20 rfl rfl ?_
    refine A_hV (kc2 := 0) (ks2 := 0) (As := []) (rest := []) hg lk_RX11_325 in_X11_seesName se_X11_seesName rfl dX11_readBoard_21 ⟨by decide, by decide⟩ rfl rfl ⟨by decide, by decide⟩ hc_1 (by omega) rfl rfl (Nat.le_of_ble_eq_true rfl) (c_X11_seesName G ex n σ_3 F_t2 f m t2 hc_1 (by omega) ((hfr_t2 21 (by decide)).trans hF21) (by omega) hbb (by omega) ((hfr_t2 24 (by decide)).trans hF24) h26_t2 h27_t2 h28_t2 h30_t2) ?_
    rintro _ σ_9 (⟨rfl, hn, hc_6, hf_7⟩ | ⟨rfl, hn, he_8⟩)
    · skip
      refine (?_ : AJ G K Q 0 0 ex n 24 [some (.ref (q_h G + 279)), none, none] [.int (nI (0))] σ_9)
      have hc_6 : σ_9 279 = o11 G (upd (upd F_t2 24 (nI (1))) 25 (nI (t2))) := hc_6
      have hc_10 : σ_9 292 = q_an G 600 f := (hf_7 _ (by omega)).trans hc_4
      have hc_11 : σ_9 280 = q_an G 265 g := (hf_7 _ (by omega)).trans hc_5
      refine A_if_neN (tgt := 29) hg dX11_readBoard_24 (by decide) (by decide) (fun c24 => absurd (by decide) c24) (fun c24 => ?_)
      refine A_iconst (v := (nI (0))) hg dX11_readBoard_27 (by decide) ?_
      rw [hQ]
      exact A_zreturn hg (by decide) (by decide) rfl rfl dX11_readBoard_28 ⟨rfl, Or.inl (⟨(upd (upd F_t2 24 (nI (1))) 25 (nI (t2))), g, 1, t2, rfl, (by unfold rd_d; rw [if_neg c7, ← hn2, if_neg (by rw [hn]; decide)]), (by decide), (fun j hj => ((q_upn (by omega)).trans ((q_upn (by omega)).trans (hfr_t2 j (by omega))))), rfl, rfl, hc_6, hc_11, (fun i hi => ((hf_7 i (by omega)).trans (hf_2 i (by omega))))⟩)⟩
    · skip
      rw [he_8]
      refine (?_ : AJ G K Q 0 0 ex n 24 [some (.ref (q_h G + 279)), none, none] [.int (nI (1))] σ_3)
      refine A_if_neN (tgt := 29) hg dX11_readBoard_24 (by decide) (by decide) (fun c24 => ?_) (fun c24 => absurd c24 (by decide))
      refine A_aload_n hg dX11_readBoard_29 rfl rfl ?_
      refine A_hV (kc2 := 0) (ks2 := 0) (As := []) (rest := []) hg lk_RX11_328 in_X11_named se_X11_named rfl dX11_readBoard_30 ⟨by decide, by decide⟩ rfl rfl ⟨by decide, by decide⟩ hc_1 (by omega) rfl rfl (Nat.le_of_ble_eq_true rfl) (c_X11_named G ex n σ_3 F_t2 g f m t2 hc_1 hc_4 hc_5 (by omega) ((hfr_t2 21 (by decide)).trans hF21) (by omega) hbb (by omega) ((hfr_t2 24 (by decide)).trans hF24) h26_t2 h27_t2 h28_t2 h30_t2 (by omega) hgv hn) ?_
      rintro _ σ_14 (⟨rfl, hh, he_12⟩ | ⟨rfl, hh, he_13⟩)
      · skip
        rw [he_12]
        refine (?_ : AJ G K Q 0 0 ex n 33 [some (.ref (q_h G + 279)), none, none] [.int (nI (s_nmi f m g t2))] σ_3)
        refine A_istore_n hg dX11_readBoard_33 rfl (by decide) (q_c1d rfl) ?_
        refine A_eq (ls2 := [some (.ref (q_h G + 279)), some (.int (nI (s_nmi f m g t2))), none]) (st2 := []) (pc2 := 0) rfl rfl ?_
        refine A_iload_n hg dX11_readBoard_34 rfl rfl ?_
        refine A_iconst (v := (q_d (0))) hg dX11_readBoard_35 (by decide) ?_
        refine A_icmp_ne (tgt := 45) hg dX11_readBoard_36 (by decide) (fun c36 => ?_) (fun c36 => absurd c36 (q_nM (by omega)))
        refine A_aload_n hg dX11_readBoard_45 rfl rfl ?_
        refine A_vV (kc2 := 0) (ks2 := 0) (As := []) (rest := []) hg lk_RX11_301 in_X11_advanceToken se_X11_advanceToken rfl dX11_readBoard_46 ⟨by decide, by decide⟩ rfl rfl ⟨by decide, by decide⟩ hc_1 (by omega) rfl rfl (Nat.le_of_ble_eq_true rfl) (c_X11_advanceToken G ex n σ_3 F_t2 f m (tk_be f m t2) hc_1 hc_4 (by omega) ((hfr_t2 21 (by decide)).trans hF21) (by omega) hbb (tk_be_le htm_t2) h26_t2) ?_
        rintro σ_17 ⟨F_t3, t3, ht_t3, htm_t3, hfr_t3, h26_t3, h27_t3, h28_t3, h30_t3, hc_15, hf_16⟩
        have hc_18 : σ_17 292 = q_an G 600 f := (hf_16 _ (by omega)).trans hc_4
        have hc_19 : σ_17 280 = q_an G 265 g := (hf_16 _ (by omega)).trans hc_5
        have hg3 := tk_ge2 ht_t3
        refine A_aload_n hg dX11_readBoard_49 rfl rfl ?_
        refine A_iconst (v := (nI (0))) hg dX11_readBoard_50 (by decide) ?_
        refine A_bipush (v := (nI (40))) hg dX11_readBoard_51 (by decide) ?_
        refine A_hV (kc2 := 0) (ks2 := 0) (As := [.int (nI (0)), .int (nI (40))]) (rest := []) hg lk_RX11_319 in_X11_takesNumber se_X11_takesNumber rfl dX11_readBoard_53 ⟨by decide, by decide⟩ rfl rfl ⟨by decide, by decide⟩ hc_15 (by omega) rfl rfl (Nat.le_of_ble_eq_true rfl) (c_X11_takesNumber G ex n σ_17 F_t3 f m t3 0 40 hc_15 hc_18 (by omega) ((hfr_t3 21 (by decide)).trans ((hfr_t2 21 (by decide)).trans hF21)) (by omega) hbb (by omega) ((hfr_t3 24 (by decide)).trans ((hfr_t2 24 (by decide)).trans hF24)) h26_t3 h27_t3 h28_t3 h30_t3 (by omega) (by omega)) ?_
        rintro _ σ_24 (⟨rfl, hc0_t4, hc_20, hf_21⟩ | ⟨F_t4, t4, rfl, ht_t4, htm_t4, hfr_t4, h26_t4, h27_t4, h28_t4, h30_t4, h31_t4, hc0_t4, hc_22, hf_23⟩)
        · skip
          refine (?_ : AJ G K Q 0 0 ex n 56 [some (.ref (q_h G + 279)), some (.int (nI (s_nmi f m g t2))), none] [.int (nI (0))] σ_24)
          have hc_20 : σ_24 279 = o11 G (upd (upd F_t3 24 (nI (tk_nc f m t3 0 40))) 25 (nI (t3))) := hc_20
          have hc_25 : σ_24 292 = q_an G 600 f := (hf_21 _ (by omega)).trans hc_18
          have hc_26 : σ_24 280 = q_an G 265 g := (hf_21 _ (by omega)).trans hc_19
          refine A_if_neN (tgt := 61) hg dX11_readBoard_56 (by decide) (by decide) (fun c56 => absurd (by decide) c56) (fun c56 => ?_)
          refine A_iconst (v := (nI (0))) hg dX11_readBoard_59 (by decide) ?_
          rw [hQ]
          exact A_zreturn hg (by decide) (by decide) rfl rfl dX11_readBoard_60 ⟨rfl, Or.inl (⟨(upd (upd F_t3 24 (nI (tk_nc f m t3 0 40))) 25 (nI (t3))), g, (tk_nc f m t3 0 40), t3, rfl, ((rd_d_go c7 hn2 hn hh ht_t3).trans (rd_2_1 hc0_t4)), hc0_t4, (fun j hj => ((q_upn (by omega)).trans ((q_upn (by omega)).trans ((hfr_t3 j (by omega)).trans (hfr_t2 j (by omega)))))), rfl, rfl, hc_20, hc_26, (fun i hi => ((hf_21 i (by omega)).trans ((hf_16 i (by omega)).trans (hf_2 i (by omega)))))⟩)⟩
        · skip
          refine (?_ : AJ G K Q 0 0 ex n 56 [some (.ref (q_h G + 279)), some (.int (nI (s_nmi f m g t2))), none] [.int (nI (1))] σ_24)
          have hc_27 : σ_24 292 = q_an G 600 f := (hf_23 _ (by omega)).trans hc_18
          have hc_28 : σ_24 280 = q_an G 265 g := (hf_23 _ (by omega)).trans hc_19
          refine A_if_neN (tgt := 61) hg dX11_readBoard_56 (by decide) (by decide) (fun c56 => ?_) (fun c56 => absurd c56 (by decide))
          have hg4 := tk_ge2 ht_t4
          refine A_aload_n hg dX11_readBoard_61 rfl rfl ?_
          refine A_getf (v := .int (nI (tk_vl f m t3))) hg fl_RX11_295 dX11_readBoard_62 hc_22 (by omega) (congrArg (fun z => some (Value.int z)) h31_t4) ?_
          refine A_istore_n hg dX11_readBoard_65 rfl (by decide) (q_c1d rfl) ?_
          refine A_eq (ls2 := [some (.ref (q_h G + 279)), some (.int (nI (s_nmi f m g t2))), some (.int (nI (tk_vl f m t3)))]) (st2 := []) (pc2 := 0) rfl rfl ?_
          refine A_aload_n hg dX11_readBoard_66 rfl rfl ?_
          refine A_iconst (v := (nI (0))) hg dX11_readBoard_67 (by decide) ?_
          refine A_bipush (v := (nI (40))) hg dX11_readBoard_68 (by decide) ?_
          refine A_hV (kc2 := 0) (ks2 := 0) (As := [.int (nI (0)), .int (nI (40))]) (rest := []) hg lk_RX11_319 in_X11_takesNumber se_X11_takesNumber rfl dX11_readBoard_70 ⟨by decide, by decide⟩ rfl rfl ⟨by decide, by decide⟩ hc_22 (by omega) rfl rfl (Nat.le_of_ble_eq_true rfl) (c_X11_takesNumber G ex n σ_24 F_t4 f m t4 0 40 hc_22 hc_27 (by omega) ((hfr_t4 21 (by decide)).trans ((hfr_t3 21 (by decide)).trans ((hfr_t2 21 (by decide)).trans hF21))) (by omega) hbb (by omega) ((hfr_t4 24 (by decide)).trans ((hfr_t3 24 (by decide)).trans ((hfr_t2 24 (by decide)).trans hF24))) h26_t4 h27_t4 h28_t4 h30_t4 (by omega) (by omega)) ?_
          rintro _ σ_33 (⟨rfl, hc0_t5, hc_29, hf_30⟩ | ⟨F_t5, t5, rfl, ht_t5, htm_t5, hfr_t5, h26_t5, h27_t5, h28_t5, h30_t5, h31_t5, hc0_t5, hc_31, hf_32⟩)
          · skip
            refine (?_ : AJ G K Q 0 0 ex n 73 [some (.ref (q_h G + 279)), some (.int (nI (s_nmi f m g t2))), some (.int (nI (tk_vl f m t3)))] [.int (nI (0))] σ_33)
            have hc_29 : σ_33 279 = o11 G (upd (upd F_t4 24 (nI (tk_nc f m t4 0 40))) 25 (nI (t4))) := hc_29
            have hc_34 : σ_33 292 = q_an G 600 f := (hf_30 _ (by omega)).trans hc_27
            have hc_35 : σ_33 280 = q_an G 265 g := (hf_30 _ (by omega)).trans hc_28
            refine A_if_neN (tgt := 78) hg dX11_readBoard_73 (by decide) (by decide) (fun c73 => absurd (by decide) c73) (fun c73 => ?_)
            refine A_iconst (v := (nI (0))) hg dX11_readBoard_76 (by decide) ?_
            rw [hQ]
            exact A_zreturn hg (by decide) (by decide) rfl rfl dX11_readBoard_77 ⟨rfl, Or.inl (⟨(upd (upd F_t4 24 (nI (tk_nc f m t4 0 40))) 25 (nI (t4))), g, (tk_nc f m t4 0 40), t4, rfl, ((rd_d_go c7 hn2 hn hh ht_t3).trans (rd_2_2 hc0_t4 ht_t4 hc0_t5)), hc0_t5, (fun j hj => ((q_upn (by omega)).trans ((q_upn (by omega)).trans ((hfr_t4 j (by omega)).trans ((hfr_t3 j (by omega)).trans (hfr_t2 j (by omega))))))), rfl, rfl, hc_29, hc_35, (fun i hi => ((hf_30 i (by omega)).trans ((hf_23 i (by omega)).trans ((hf_16 i (by omega)).trans (hf_2 i (by omega))))))⟩)⟩
          · skip
            refine (?_ : AJ G K Q 0 0 ex n 73 [some (.ref (q_h G + 279)), some (.int (nI (s_nmi f m g t2))), some (.int (nI (tk_vl f m t3)))] [.int (nI (1))] σ_33)
            have hc_36 : σ_33 292 = q_an G 600 f := (hf_32 _ (by omega)).trans hc_27
            have hc_37 : σ_33 280 = q_an G 265 g := (hf_32 _ (by omega)).trans hc_28
            refine A_if_neN (tgt := 78) hg dX11_readBoard_73 (by decide) (by decide) (fun c73 => ?_) (fun c73 => absurd c73 (by decide))
            have hg5 := tk_ge2 ht_t5
            refine A_aload_n hg dX11_readBoard_78 rfl rfl ?_
            refine A_iload_n hg dX11_readBoard_79 rfl rfl ?_
            refine A_iload_n hg dX11_readBoard_80 rfl rfl ?_
            refine A_aload_n hg dX11_readBoard_81 rfl rfl ?_
            refine A_getf (v := .int (nI (tk_vl f m t4))) hg fl_RX11_295 dX11_readBoard_82 hc_31 (by omega) (congrArg (fun z => some (Value.int z)) h31_t5) ?_
            refine A_vV (kc2 := 0) (ks2 := 0) (As := [.int (nI (s_nmi f m g t2)), .int (nI (tk_vl f m t3)), .int (nI (tk_vl f m t4))]) (rest := []) hg lk_RX11_64 in_X11_makesBoard se_X11_makesBoard rfl dX11_readBoard_85 ⟨by decide, by decide⟩ rfl rfl ⟨by decide, by decide⟩ hc_31 (by omega) rfl rfl (Nat.le_of_ble_eq_true rfl) (c_X11_makesBoard G ex n σ_33 F_t5 g (s_nmi f m g t2) (tk_vl f m t3) (tk_vl f m t4) hc_31 hc_37 (by omega) (by omega)) ?_
            rintro σ_40 ⟨hc_38, hf_39⟩
            have hc_41 : σ_40 292 = q_an G 600 f := (hf_39 _ (by omega)).trans hc_36
            have hc_42 : σ_40 279 = o11 G F_t5 := (hf_39 _ (by omega)).trans hc_31
            refine A_iconst (v := (nI (1))) hg dX11_readBoard_88 (by decide) ?_
            rw [hQ]
            exact A_zreturn hg (by decide) (by decide) rfl rfl dX11_readBoard_89 ⟨rfl, Or.inr ((⟨F_t5, t5, (s_addB g (s_nmi f m g t2) (tk_vl f m t3) (tk_vl f m t4)), rfl, ((rd_d_go c7 hn2 hn hh ht_t3).trans (rd_2_ok hc0_t4 ht_t4 hc0_t5 ht_t5)), htm_t5, (by omega), (fun j hj => ((hfr_t5 j (by omega)).trans ((hfr_t4 j (by omega)).trans ((hfr_t3 j (by omega)).trans (hfr_t2 j (by omega)))))), h26_t5, h27_t5, h28_t5, h30_t5, hc_42, hc_38, (fun i hi => ((hf_39 i (by omega)).trans ((hf_32 i (by omega)).trans ((hf_23 i (by omega)).trans ((hf_16 i (by omega)).trans (hf_2 i (by omega)))))))⟩))⟩
      · skip
        rw [he_13]
        refine (?_ : AJ G K Q 0 0 ex n 33 [some (.ref (q_h G + 279)), none, none] [.int (q_d (0))] σ_3)
        refine A_istore_n hg dX11_readBoard_33 rfl (by decide) (q_c1d rfl) ?_
        refine A_eq (ls2 := [some (.ref (q_h G + 279)), some (.int (q_d (0))), none]) (st2 := []) (pc2 := 0) rfl rfl ?_
        refine A_iload_n hg dX11_readBoard_34 rfl rfl ?_
        refine A_iconst (v := (q_d (0))) hg dX11_readBoard_35 (by decide) ?_
        refine A_icmp_neM (tgt := 45) hg dX11_readBoard_36 (by decide) (by decide) (by decide) (fun c36 => absurd rfl c36) (fun c36 => ?_)
        refine A_aload_n hg dX11_readBoard_39 rfl rfl ?_
        refine A_iconst (v := (nI (3))) hg dX11_readBoard_40 (by decide) ?_
        refine A_hV (kc2 := 0) (ks2 := 0) (As := [.int (nI (3))]) (rest := []) hg lk_RX11_292 in_X11_failsAt se_X11_failsAt rfl dX11_readBoard_41 ⟨by decide, by decide⟩ rfl rfl ⟨by decide, by decide⟩ hc_1 (by omega) rfl rfl (Nat.le_of_ble_eq_true rfl) (c_X11_failsAt G ex n σ_3 F_t2 t2 3 hc_1 (by omega) ((hfr_t2 24 (by decide)).trans hF24) h27_t2) ?_
        rintro _ σ_45 ⟨rfl, hc_43, hf_44⟩
        refine (?_ : AJ G K Q 0 0 ex n 44 [some (.ref (q_h G + 279)), some (.int (q_d (0))), none] [.int (nI (0))] σ_45)
        have hc_43 : σ_45 279 = o11 G (upd (upd F_t2 24 (nI (3))) 25 (nI (t2))) := hc_43
        have hc_46 : σ_45 292 = q_an G 600 f := (hf_44 _ (by omega)).trans hc_4
        have hc_47 : σ_45 280 = q_an G 265 g := (hf_44 _ (by omega)).trans hc_5
        rw [hQ]
        exact A_zreturn hg (by decide) (by decide) rfl rfl dX11_readBoard_44 ⟨rfl, Or.inl (⟨(upd (upd F_t2 24 (nI (3))) 25 (nI (t2))), g, 3, t2, rfl, (by unfold rd_d; rw [if_neg c7, ← hn2, if_pos hn, if_neg hh]), (by decide), (fun j hj => ((q_upn (by omega)).trans ((q_upn (by omega)).trans (hfr_t2 j (by omega))))), rfl, rfl, hc_43, hc_47, (fun i hi => ((hf_44 i (by omega)).trans (hf_2 i (by omega))))⟩)⟩
  · skip
    refine A_aload_n hg dX11_readBoard_10 rfl rfl ?_
    refine A_iconst (v := (nI (5))) hg dX11_readBoard_11 (by decide) ?_
    refine A_hV (kc2 := 0) (ks2 := 0) (As := [.int (nI (5))]) (rest := []) hg lk_RX11_292 in_X11_failsAt se_X11_failsAt rfl dX11_readBoard_12 ⟨by decide, by decide⟩ rfl rfl ⟨by decide, by decide⟩ hc0 (by omega) rfl rfl (Nat.le_of_ble_eq_true rfl) (c_X11_failsAt G ex n σ F t 5 hc0 (by omega) hF24 hF27) ?_
    rintro _ σ_50 ⟨rfl, hc_48, hf_49⟩
    refine (?_ : AJ G K Q 0 0 ex n 15 [some (.ref (q_h G + 279)), none, none] [.int (nI (0))] σ_50)
    have hc_48 : σ_50 279 = o11 G (upd (upd F 24 (nI (5))) 25 (nI (t))) := hc_48
    have hc_51 : σ_50 292 = q_an G 600 f := (hf_49 _ (by omega)).trans hc1
    have hc_52 : σ_50 280 = q_an G 265 g := (hf_49 _ (by omega)).trans hc2
    rw [hQ]
    exact A_zreturn hg (by decide) (by decide) rfl rfl dX11_readBoard_15 ⟨rfl, Or.inl (⟨(upd (upd F 24 (nI (5))) 25 (nI (t))), g, 5, t, rfl, (by unfold rd_d; rw [if_pos c7]), (by decide), (fun j hj => ((q_upn (by omega)).trans (q_upn (by omega)))), rfl, rfl, hc_48, hc_52, (fun i hi => (hf_49 i (by omega)))⟩)⟩
set_option maxRecDepth 100000 in
set_option maxHeartbeats 4000000 in
theorem c_X11_readStick (G : GL) (ex : Bool) (n : Nat) (σ : Nat → va_E) (F : Nat → Int32) (g : Nat → Nat) (f : Nat → Nat) (m : Nat) (t : Nat) (hc0 : σ 279 = o11 G F) (hc1 : σ 292 = q_an G 600 f) (hc2 : σ 280 = q_an G 265 g) (hn : 294 ≤ n) (hF21 : F 21 = nI m) (hm : m ≤ 600) (hbb : ∀ k : Nat, s_byte f m k ≤ 256) (htm : t ≤ m) (hF24 : F 24 = nI 0) (hF26 : F 26 = nI (tk_be f m t)) (hF27 : F 27 = nI t) (hF28 : F 28 = nI (tk_vl f m t)) (hF30 : F 30 = nI (tk_kd f m t)) (hi : rd_inv g) : Ct G yX11_readStick cX11_readStick 2 (some .boolean) ⟨4, 0, 0, 86⟩ [.ref (q_h G + 279)] ex n σ (fun v9 σ2 => (∃ (F' : Nat → Int32), ∃ (g' : Nat → Nat), ∃ (c : Nat), ∃ (o : Nat), v9 = some (.int (nI (0))) ∧ (rd_s f m g t = .inl (c, o)) ∧ (¬ c = 0) ∧ (∀ j : Nat, j ≠ 24 ∧ j ≠ 25 ∧ j ≠ 26 ∧ j ≠ 27 ∧ j ≠ 28 ∧ j ≠ 30 ∧ j ≠ 31 → F' j = F j) ∧ (F' 24 = nI c) ∧ (F' 25 = nI o) ∧ σ2 279 = o11 G F' ∧ σ2 280 = q_an G 265 g' ∧ (∀ i : Nat, i ≠ 279 ∧ i ≠ 280 → σ2 i = σ i)) ∨ (∃ (F' : Nat → Int32), ∃ (t' : Nat), ∃ (g' : Nat → Nat), v9 = some (.int (nI (1))) ∧ (rd_s f m g t = .inr (g', t')) ∧ (t' ≤ m) ∧ (t ≤ t') ∧ (∀ j : Nat, j ≠ 26 ∧ j ≠ 27 ∧ j ≠ 28 ∧ j ≠ 30 ∧ j ≠ 31 → F' j = F j) ∧ (F' 26 = nI (tk_be f m t')) ∧ (F' 27 = nI t') ∧ (F' 28 = nI (tk_vl f m t')) ∧ (F' 30 = nI (tk_kd f m t')) ∧ σ2 279 = o11 G F' ∧ σ2 280 = q_an G 265 g' ∧ (∀ i : Nat, i ≠ 279 ∧ i ≠ 280 → σ2 i = σ i))) := by
  refine q_enter [some (.ref (q_h G + 279)), none] (by decide) (Nat.le_of_ble_eq_true rfl) rfl ?_
  intro K hg
  obtain ⟨Q, hQ⟩ : ∃ Q, Q = q_Q G K ex n 0 0 (fun v9 n' σ' => n' = n ∧ (fun v9 σ2 => (∃ (F' : Nat → Int32), ∃ (g' : Nat → Nat), ∃ (c : Nat), ∃ (o : Nat), v9 = some (.int (nI (0))) ∧ (rd_s f m g t = .inl (c, o)) ∧ (¬ c = 0) ∧ (∀ j : Nat, j ≠ 24 ∧ j ≠ 25 ∧ j ≠ 26 ∧ j ≠ 27 ∧ j ≠ 28 ∧ j ≠ 30 ∧ j ≠ 31 → F' j = F j) ∧ (F' 24 = nI c) ∧ (F' 25 = nI o) ∧ σ2 279 = o11 G F' ∧ σ2 280 = q_an G 265 g' ∧ (∀ i : Nat, i ≠ 279 ∧ i ≠ 280 → σ2 i = σ i)) ∨ (∃ (F' : Nat → Int32), ∃ (t' : Nat), ∃ (g' : Nat → Nat), v9 = some (.int (nI (1))) ∧ (rd_s f m g t = .inr (g', t')) ∧ (t' ≤ m) ∧ (t ≤ t') ∧ (∀ j : Nat, j ≠ 26 ∧ j ≠ 27 ∧ j ≠ 28 ∧ j ≠ 30 ∧ j ≠ 31 → F' j = F j) ∧ (F' 26 = nI (tk_be f m t')) ∧ (F' 27 = nI t') ∧ (F' 28 = nI (tk_vl f m t')) ∧ (F' 30 = nI (tk_kd f m t')) ∧ σ2 279 = o11 G F' ∧ σ2 280 = q_an G 265 g' ∧ (∀ i : Nat, i ≠ 279 ∧ i ≠ 280 → σ2 i = σ i))) v9 σ') q_noX := ⟨_, rfl⟩
  refine (?_ : AJ G K (q_Q G K ex n 0 0 _ _) 0 0 ex n 0 _ _ σ)
  rw [← hQ]
  have hbl := tk_be_le (f := f) htm
  have hbg := tk_be_ge (f := f) (m := m) (t := t)
  have hkd := tk_kd_lt f m t
  have hvl := tk_vl_lt f m t
  have hg24 := hi.1.2.2.1
  have hgv := hi.2.1
  refine A_aload_n hg dX11_readStick_0 rfl rfl ?_
  refine A_getf (v := .ref (q_h G + 280)) hg fl_RX11_7 dX11_readStick_1 hc0 (by omega) rfl ?_
  refine A_iconst (v := (nI (2))) hg dX11_readStick_4 (by decide) ?_
  refine A_iald (j := 2) hg dX11_readStick_5 hc2 (by omega) (by omega) (by decide) ?_
  refine A_iconst (v := (nI (4))) hg dX11_readStick_6 (by decide) ?_
  refine A_icmp_neN (tgt := 16) hg dX11_readStick_7 (by omega) (by decide) (by decide) (fun c7 => ?_) (fun c7 => ?_)
  · skip
    refine A_aload_n hg dX11_readStick_16 rfl rfl ?_
    refine A_vV (kc2 := 0) (ks2 := 0) (As := []) (rest := []) hg lk_RX11_301 in_X11_advanceToken se_X11_advanceToken rfl dX11_readStick_17 ⟨by decide, by decide⟩ rfl rfl ⟨by decide, by decide⟩ hc0 (by omega) rfl rfl (Nat.le_of_ble_eq_true rfl) (c_X11_advanceToken G ex n σ F f m (tk_be f m t) hc0 hc1 (by omega) hF21 (by omega) hbb (tk_be_le htm) hF26) ?_
    rintro σ_3 ⟨F_t2, t2, ht_t2, htm_t2, hfr_t2, h26_t2, h27_t2, h28_t2, h30_t2, hc_1, hf_2⟩
    have hc_4 : σ_3 292 = q_an G 600 f := (hf_2 _ (by omega)).trans hc1
    have hc_5 : σ_3 280 = q_an G 265 g := (hf_2 _ (by omega)).trans hc2
    have hn2 : t2 = tk_nx f m t := ht_t2
    have hg2 := tk_ge2 hn2
    refine A_aload_n hg dX11_readStick_20 rfl rfl ?_
    refine A_iconst (v := (nI (0))) hg dX11_readStick_21 (by decide) ?_
    refine A_bipush (v := (nI (60))) hg dX11_readStick_22 (by decide) ?_
    refine A_hV (kc2 := 0) (ks2 := 0) (As := [.int (nI (0)), .int (nI (60))]) (rest := []) hg lk_RX11_319 in_X11_takesNumber se_X11_takesNumber rfl dX11_readStick_24 ⟨by decide, by decide⟩ rfl rfl ⟨by decide, by decide⟩ hc_1 (by omega) rfl rfl (Nat.le_of_ble_eq_true rfl) (c_X11_takesNumber G ex n σ_3 F_t2 f m t2 0 60 hc_1 hc_4 (by omega) ((hfr_t2 21 (by decide)).trans hF21) (by omega) hbb (by omega) ((hfr_t2 24 (by decide)).trans hF24) h26_t2 h27_t2 h28_t2 h30_t2 (by omega) (by omega)) ?_
    rintro _ σ_10 (⟨rfl, hc0_t4, hc_6, hf_7⟩ | ⟨F_t4, t4, rfl, ht_t4, htm_t4, hfr_t4, h26_t4, h27_t4, h28_t4, h30_t4, h31_t4, hc0_t4, hc_8, hf_9⟩)
    · skip
      refine (?_ : AJ G K Q 0 0 ex n 27 [some (.ref (q_h G + 279)), none] [.int (nI (0))] σ_10)
      have hc_6 : σ_10 279 = o11 G (upd (upd F_t2 24 (nI (tk_nc f m t2 0 60))) 25 (nI (t2))) := hc_6
      have hc_11 : σ_10 292 = q_an G 600 f := (hf_7 _ (by omega)).trans hc_4
      have hc_12 : σ_10 280 = q_an G 265 g := (hf_7 _ (by omega)).trans hc_5
      refine A_if_neN (tgt := 32) hg dX11_readStick_27 (by decide) (by decide) (fun c27 => absurd (by decide) c27) (fun c27 => ?_)
      refine A_iconst (v := (nI (0))) hg dX11_readStick_30 (by decide) ?_
      rw [hQ]
      exact A_zreturn hg (by decide) (by decide) rfl rfl dX11_readStick_31 ⟨rfl, Or.inl (⟨(upd (upd F_t2 24 (nI (tk_nc f m t2 0 60))) 25 (nI (t2))), g, (tk_nc f m t2 0 60), t2, rfl, ((show rd_s f m g t = rd_2 f m 0 60 1 9 (fun x y => s_addS g x y) t2 from by unfold rd_s; rw [if_neg c7, ← hn2]).trans (rd_2_1 hc0_t4)), hc0_t4, (fun j hj => ((q_upn (by omega)).trans ((q_upn (by omega)).trans (hfr_t2 j (by omega))))), rfl, rfl, hc_6, hc_12, (fun i hi => ((hf_7 i (by omega)).trans (hf_2 i (by omega))))⟩)⟩
    · skip
      refine (?_ : AJ G K Q 0 0 ex n 27 [some (.ref (q_h G + 279)), none] [.int (nI (1))] σ_10)
      have hc_13 : σ_10 292 = q_an G 600 f := (hf_9 _ (by omega)).trans hc_4
      have hc_14 : σ_10 280 = q_an G 265 g := (hf_9 _ (by omega)).trans hc_5
      refine A_if_neN (tgt := 32) hg dX11_readStick_27 (by decide) (by decide) (fun c27 => ?_) (fun c27 => absurd c27 (by decide))
      have hg4 := tk_ge2 ht_t4
      refine A_aload_n hg dX11_readStick_32 rfl rfl ?_
      refine A_getf (v := .int (nI (tk_vl f m t2))) hg fl_RX11_295 dX11_readStick_33 hc_8 (by omega) (congrArg (fun z => some (Value.int z)) h31_t4) ?_
      refine A_istore_n hg dX11_readStick_36 rfl (by decide) (q_c1d rfl) ?_
      refine A_eq (ls2 := [some (.ref (q_h G + 279)), some (.int (nI (tk_vl f m t2)))]) (st2 := []) (pc2 := 0) rfl rfl ?_
      refine A_aload_n hg dX11_readStick_37 rfl rfl ?_
      refine A_iconst (v := (nI (1))) hg dX11_readStick_38 (by decide) ?_
      refine A_bipush (v := (nI (9))) hg dX11_readStick_39 (by decide) ?_
      refine A_hV (kc2 := 0) (ks2 := 0) (As := [.int (nI (1)), .int (nI (9))]) (rest := []) hg lk_RX11_319 in_X11_takesNumber se_X11_takesNumber rfl dX11_readStick_41 ⟨by decide, by decide⟩ rfl rfl ⟨by decide, by decide⟩ hc_8 (by omega) rfl rfl (Nat.le_of_ble_eq_true rfl) (c_X11_takesNumber G ex n σ_10 F_t4 f m t4 1 9 hc_8 hc_13 (by omega) ((hfr_t4 21 (by decide)).trans ((hfr_t2 21 (by decide)).trans hF21)) (by omega) hbb (by omega) ((hfr_t4 24 (by decide)).trans ((hfr_t2 24 (by decide)).trans hF24)) h26_t4 h27_t4 h28_t4 h30_t4 (by omega) (by omega)) ?_
      rintro _ σ_19 (⟨rfl, hc0_t5, hc_15, hf_16⟩ | ⟨F_t5, t5, rfl, ht_t5, htm_t5, hfr_t5, h26_t5, h27_t5, h28_t5, h30_t5, h31_t5, hc0_t5, hc_17, hf_18⟩)
      · skip
        refine (?_ : AJ G K Q 0 0 ex n 44 [some (.ref (q_h G + 279)), some (.int (nI (tk_vl f m t2)))] [.int (nI (0))] σ_19)
        have hc_15 : σ_19 279 = o11 G (upd (upd F_t4 24 (nI (tk_nc f m t4 1 9))) 25 (nI (t4))) := hc_15
        have hc_20 : σ_19 292 = q_an G 600 f := (hf_16 _ (by omega)).trans hc_13
        have hc_21 : σ_19 280 = q_an G 265 g := (hf_16 _ (by omega)).trans hc_14
        refine A_if_neN (tgt := 49) hg dX11_readStick_44 (by decide) (by decide) (fun c44 => absurd (by decide) c44) (fun c44 => ?_)
        refine A_iconst (v := (nI (0))) hg dX11_readStick_47 (by decide) ?_
        rw [hQ]
        exact A_zreturn hg (by decide) (by decide) rfl rfl dX11_readStick_48 ⟨rfl, Or.inl (⟨(upd (upd F_t4 24 (nI (tk_nc f m t4 1 9))) 25 (nI (t4))), g, (tk_nc f m t4 1 9), t4, rfl, ((show rd_s f m g t = rd_2 f m 0 60 1 9 (fun x y => s_addS g x y) t2 from by unfold rd_s; rw [if_neg c7, ← hn2]).trans (rd_2_2 hc0_t4 ht_t4 hc0_t5)), hc0_t5, (fun j hj => ((q_upn (by omega)).trans ((q_upn (by omega)).trans ((hfr_t4 j (by omega)).trans (hfr_t2 j (by omega)))))), rfl, rfl, hc_15, hc_21, (fun i hi => ((hf_16 i (by omega)).trans ((hf_9 i (by omega)).trans (hf_2 i (by omega)))))⟩)⟩
      · skip
        refine (?_ : AJ G K Q 0 0 ex n 44 [some (.ref (q_h G + 279)), some (.int (nI (tk_vl f m t2)))] [.int (nI (1))] σ_19)
        have hc_22 : σ_19 292 = q_an G 600 f := (hf_18 _ (by omega)).trans hc_13
        have hc_23 : σ_19 280 = q_an G 265 g := (hf_18 _ (by omega)).trans hc_14
        refine A_if_neN (tgt := 49) hg dX11_readStick_44 (by decide) (by decide) (fun c44 => ?_) (fun c44 => absurd c44 (by decide))
        have hg5 := tk_ge2 ht_t5
        refine A_aload_n hg dX11_readStick_49 rfl rfl ?_
        refine A_iload_n hg dX11_readStick_50 rfl rfl ?_
        refine A_aload_n hg dX11_readStick_51 rfl rfl ?_
        refine A_getf (v := .int (nI (tk_vl f m t4))) hg fl_RX11_295 dX11_readStick_52 hc_17 (by omega) (congrArg (fun z => some (Value.int z)) h31_t5) ?_
        refine A_vV (kc2 := 0) (ks2 := 0) (As := [.int (nI (tk_vl f m t2)), .int (nI (tk_vl f m t4))]) (rest := []) hg lk_RX11_350 in_X11_makesStick se_X11_makesStick rfl dX11_readStick_55 ⟨by decide, by decide⟩ rfl rfl ⟨by decide, by decide⟩ hc_17 (by omega) rfl rfl (Nat.le_of_ble_eq_true rfl) (c_X11_makesStick G ex n σ_19 F_t5 g (tk_vl f m t2) (tk_vl f m t4) hc_17 hc_23 (by omega) (by omega)) ?_
        rintro σ_26 ⟨hc_24, hf_25⟩
        have hc_27 : σ_26 292 = q_an G 600 f := (hf_25 _ (by omega)).trans hc_22
        have hc_28 : σ_26 279 = o11 G F_t5 := (hf_25 _ (by omega)).trans hc_17
        refine A_iconst (v := (nI (1))) hg dX11_readStick_58 (by decide) ?_
        rw [hQ]
        exact A_zreturn hg (by decide) (by decide) rfl rfl dX11_readStick_59 ⟨rfl, Or.inr ((⟨F_t5, t5, (s_addS g (tk_vl f m t2) (tk_vl f m t4)), rfl, ((show rd_s f m g t = rd_2 f m 0 60 1 9 (fun x y => s_addS g x y) t2 from by unfold rd_s; rw [if_neg c7, ← hn2]).trans (rd_2_ok hc0_t4 ht_t4 hc0_t5 ht_t5)), htm_t5, (by omega), (fun j hj => ((hfr_t5 j (by omega)).trans ((hfr_t4 j (by omega)).trans (hfr_t2 j (by omega))))), h26_t5, h27_t5, h28_t5, h30_t5, hc_28, hc_24, (fun i hi => ((hf_25 i (by omega)).trans ((hf_18 i (by omega)).trans ((hf_9 i (by omega)).trans (hf_2 i (by omega))))))⟩))⟩
  · skip
    refine A_aload_n hg dX11_readStick_10 rfl rfl ?_
    refine A_iconst (v := (nI (5))) hg dX11_readStick_11 (by decide) ?_
    refine A_hV (kc2 := 0) (ks2 := 0) (As := [.int (nI (5))]) (rest := []) hg lk_RX11_292 in_X11_failsAt se_X11_failsAt rfl dX11_readStick_12 ⟨by decide, by decide⟩ rfl rfl ⟨by decide, by decide⟩ hc0 (by omega) rfl rfl (Nat.le_of_ble_eq_true rfl) (c_X11_failsAt G ex n σ F t 5 hc0 (by omega) hF24 hF27) ?_
    rintro _ σ_31 ⟨rfl, hc_29, hf_30⟩
    refine (?_ : AJ G K Q 0 0 ex n 15 [some (.ref (q_h G + 279)), none] [.int (nI (0))] σ_31)
    have hc_29 : σ_31 279 = o11 G (upd (upd F 24 (nI (5))) 25 (nI (t))) := hc_29
    have hc_32 : σ_31 292 = q_an G 600 f := (hf_30 _ (by omega)).trans hc1
    have hc_33 : σ_31 280 = q_an G 265 g := (hf_30 _ (by omega)).trans hc2
    rw [hQ]
    exact A_zreturn hg (by decide) (by decide) rfl rfl dX11_readStick_15 ⟨rfl, Or.inl (⟨(upd (upd F 24 (nI (5))) 25 (nI (t))), g, 5, t, rfl, (by unfold rd_s; rw [if_pos c7]), (by decide), (fun j hj => ((q_upn (by omega)).trans (q_upn (by omega)))), rfl, rfl, hc_29, hc_33, (fun i hi => (hf_30 i (by omega)))⟩)⟩
set_option maxRecDepth 100000 in
set_option maxHeartbeats 4000000 in
theorem c_X11_readFirst (G : GL) (ex : Bool) (n : Nat) (σ : Nat → va_E) (F : Nat → Int32) (g : Nat → Nat) (f : Nat → Nat) (m : Nat) (t : Nat) (u : Nat) (hc0 : σ 279 = o11 G F) (hc1 : σ 292 = q_an G 600 f) (hc2 : σ 280 = q_an G 265 g) (hn : 294 ≤ n) (hF21 : F 21 = nI m) (hm : m ≤ 600) (hbb : ∀ k : Nat, s_byte f m k ≤ 256) (htm : t ≤ m) (hF24 : F 24 = nI 0) (hF26 : F 26 = nI (tk_be f m t)) (hF27 : F 27 = nI t) (hF28 : F 28 = nI (tk_vl f m t)) (hF30 : F 30 = nI (tk_kd f m t)) (hF29 : F 29 = nI u) (hu : u ≤ 1) (hi : rd_inv g) : Ct G yX11_readFirst cX11_readFirst 1 (some .boolean) ⟨4, 0, 0, 86⟩ [.ref (q_h G + 279)] ex n σ (fun v9 σ2 => (∃ (F' : Nat → Int32), ∃ (g' : Nat → Nat), ∃ (c : Nat), ∃ (o : Nat), v9 = some (.int (nI (0))) ∧ (rd_f f m u g t = .inl (c, o)) ∧ (¬ c = 0) ∧ (∀ j : Nat, j ≠ 24 ∧ j ≠ 25 ∧ j ≠ 26 ∧ j ≠ 27 ∧ j ≠ 28 ∧ j ≠ 30 ∧ j ≠ 31 ∧ j ≠ 29 → F' j = F j) ∧ (F' 24 = nI c) ∧ (F' 25 = nI o) ∧ σ2 279 = o11 G F' ∧ σ2 280 = q_an G 265 g' ∧ (∀ i : Nat, i ≠ 279 ∧ i ≠ 280 → σ2 i = σ i)) ∨ (∃ (F' : Nat → Int32), ∃ (t' : Nat), ∃ (g' : Nat → Nat), v9 = some (.int (nI (1))) ∧ (rd_f f m u g t = .inr (g', t')) ∧ (t' ≤ m) ∧ (t ≤ t') ∧ (∀ j : Nat, j ≠ 26 ∧ j ≠ 27 ∧ j ≠ 28 ∧ j ≠ 30 ∧ j ≠ 31 ∧ j ≠ 29 → F' j = F j) ∧ (F' 26 = nI (tk_be f m t')) ∧ (F' 27 = nI t') ∧ (F' 28 = nI (tk_vl f m t')) ∧ (F' 30 = nI (tk_kd f m t')) ∧ (F' 29 = nI (1)) ∧ σ2 279 = o11 G F' ∧ σ2 280 = q_an G 265 g' ∧ (∀ i : Nat, i ≠ 279 ∧ i ≠ 280 → σ2 i = σ i))) := by
  refine q_enter [some (.ref (q_h G + 279))] (by decide) (Nat.le_of_ble_eq_true rfl) rfl ?_
  intro K hg
  obtain ⟨Q, hQ⟩ : ∃ Q, Q = q_Q G K ex n 0 0 (fun v9 n' σ' => n' = n ∧ (fun v9 σ2 => (∃ (F' : Nat → Int32), ∃ (g' : Nat → Nat), ∃ (c : Nat), ∃ (o : Nat), v9 = some (.int (nI (0))) ∧ (rd_f f m u g t = .inl (c, o)) ∧ (¬ c = 0) ∧ (∀ j : Nat, j ≠ 24 ∧ j ≠ 25 ∧ j ≠ 26 ∧ j ≠ 27 ∧ j ≠ 28 ∧ j ≠ 30 ∧ j ≠ 31 ∧ j ≠ 29 → F' j = F j) ∧ (F' 24 = nI c) ∧ (F' 25 = nI o) ∧ σ2 279 = o11 G F' ∧ σ2 280 = q_an G 265 g' ∧ (∀ i : Nat, i ≠ 279 ∧ i ≠ 280 → σ2 i = σ i)) ∨ (∃ (F' : Nat → Int32), ∃ (t' : Nat), ∃ (g' : Nat → Nat), v9 = some (.int (nI (1))) ∧ (rd_f f m u g t = .inr (g', t')) ∧ (t' ≤ m) ∧ (t ≤ t') ∧ (∀ j : Nat, j ≠ 26 ∧ j ≠ 27 ∧ j ≠ 28 ∧ j ≠ 30 ∧ j ≠ 31 ∧ j ≠ 29 → F' j = F j) ∧ (F' 26 = nI (tk_be f m t')) ∧ (F' 27 = nI t') ∧ (F' 28 = nI (tk_vl f m t')) ∧ (F' 30 = nI (tk_kd f m t')) ∧ (F' 29 = nI (1)) ∧ σ2 279 = o11 G F' ∧ σ2 280 = q_an G 265 g' ∧ (∀ i : Nat, i ≠ 279 ∧ i ≠ 280 → σ2 i = σ i))) v9 σ') q_noX := ⟨_, rfl⟩
  refine (?_ : AJ G K (q_Q G K ex n 0 0 _ _) 0 0 ex n 0 _ _ σ)
  rw [← hQ]
  have hbl := tk_be_le (f := f) htm
  have hbg := tk_be_ge (f := f) (m := m) (t := t)
  have hkd := tk_kd_lt f m t
  have hvl := tk_vl_lt f m t
  have hgv := hi.2.1
  refine A_aload_n hg dX11_readFirst_0 rfl rfl ?_
  refine A_getf (v := .int (nI (u))) hg fl_RX11_353 dX11_readFirst_1 hc0 (by omega) (congrArg (fun z => some (Value.int z)) hF29) ?_
  refine A_if_eqN (tgt := 13) hg dX11_readFirst_4 (by omega) (by decide) (fun c4 => ?_) (fun c4 => ?_)
  · skip
    refine A_aload_n hg dX11_readFirst_13 rfl rfl ?_
    refine A_iconst (v := (nI (1))) hg dX11_readFirst_14 (by decide) ?_
    refine A_putf hg fl_RX11_353 dX11_readFirst_15 hc0 (by omega) (Nat.le_of_ble_eq_true rfl) rfl rfl rfl (fun σ_1 hc_2 hf_3 => ?_)
    have hc_2 : σ_1 279 = o11 G (upd F 29 (nI (1))) := hc_2
    have hc_4 : σ_1 292 = q_an G 600 f := (hf_3 _ (by omega)).trans hc1
    have hc_5 : σ_1 280 = q_an G 265 g := (hf_3 _ (by omega)).trans hc2
    refine A_aload_n hg dX11_readFirst_18 rfl rfl ?_
    refine A_vV (kc2 := 0) (ks2 := 0) (As := []) (rest := []) hg lk_RX11_301 in_X11_advanceToken se_X11_advanceToken rfl dX11_readFirst_19 ⟨by decide, by decide⟩ rfl rfl ⟨by decide, by decide⟩ hc_2 (by omega) rfl rfl (Nat.le_of_ble_eq_true rfl) (c_X11_advanceToken G ex n σ_1 (upd F 29 (nI (1))) f m (tk_be f m t) hc_2 hc_4 (by omega) hF21 (by omega) hbb (tk_be_le htm) hF26) ?_
    rintro σ_8 ⟨F_t2, t2, ht_t2, htm_t2, hfr_t2, h26_t2, h27_t2, h28_t2, h30_t2, hc_6, hf_7⟩
    have hc_9 : σ_8 292 = q_an G 600 f := (hf_7 _ (by omega)).trans hc_4
    have hc_10 : σ_8 280 = q_an G 265 g := (hf_7 _ (by omega)).trans hc_5
    have hn2 : t2 = tk_nx f m t := ht_t2
    have hg2 := tk_ge2 hn2
    refine A_aload_n hg dX11_readFirst_22 rfl rfl ?_
    refine A_iconst (v := (nI (0))) hg dX11_readFirst_23 (by decide) ?_
    refine A_iconst (v := (nI (1))) hg dX11_readFirst_24 (by decide) ?_
    refine A_hV (kc2 := 0) (ks2 := 0) (As := [.int (nI (0)), .int (nI (1))]) (rest := []) hg lk_RX11_319 in_X11_takesNumber se_X11_takesNumber rfl dX11_readFirst_25 ⟨by decide, by decide⟩ rfl rfl ⟨by decide, by decide⟩ hc_6 (by omega) rfl rfl (Nat.le_of_ble_eq_true rfl) (c_X11_takesNumber G ex n σ_8 F_t2 f m t2 0 1 hc_6 hc_9 (by omega) ((hfr_t2 21 (by decide)).trans hF21) (by omega) hbb (by omega) ((hfr_t2 24 (by decide)).trans hF24) h26_t2 h27_t2 h28_t2 h30_t2 (by omega) (by omega)) ?_
    rintro _ σ_15 (⟨rfl, hc0_t4, hc_11, hf_12⟩ | ⟨F_t4, t4, rfl, ht_t4, htm_t4, hfr_t4, h26_t4, h27_t4, h28_t4, h30_t4, h31_t4, hc0_t4, hc_13, hf_14⟩)
    · skip
      refine (?_ : AJ G K Q 0 0 ex n 28 [some (.ref (q_h G + 279))] [.int (nI (0))] σ_15)
      have hc_11 : σ_15 279 = o11 G (upd (upd F_t2 24 (nI (tk_nc f m t2 0 1))) 25 (nI (t2))) := hc_11
      have hc_16 : σ_15 292 = q_an G 600 f := (hf_12 _ (by omega)).trans hc_9
      have hc_17 : σ_15 280 = q_an G 265 g := (hf_12 _ (by omega)).trans hc_10
      refine A_if_neN (tgt := 33) hg dX11_readFirst_28 (by decide) (by decide) (fun c28 => absurd (by decide) c28) (fun c28 => ?_)
      refine A_iconst (v := (nI (0))) hg dX11_readFirst_31 (by decide) ?_
      rw [hQ]
      exact A_zreturn hg (by decide) (by decide) rfl rfl dX11_readFirst_32 ⟨rfl, Or.inl (⟨(upd (upd F_t2 24 (nI (tk_nc f m t2 0 1))) 25 (nI (t2))), g, (tk_nc f m t2 0 1), t2, rfl, (by unfold rd_f; rw [if_neg (show ¬ u = 1 by omega), ← hn2, if_neg hc0_t4]), hc0_t4, (fun j hj => ((q_upn (by omega)).trans ((q_upn (by omega)).trans ((hfr_t2 j (by omega)).trans (q_upn (by omega)))))), rfl, rfl, hc_11, hc_17, (fun i hi => ((hf_12 i (by omega)).trans ((hf_7 i (by omega)).trans (hf_3 i (by omega)))))⟩)⟩
    · skip
      refine (?_ : AJ G K Q 0 0 ex n 28 [some (.ref (q_h G + 279))] [.int (nI (1))] σ_15)
      have hc_18 : σ_15 292 = q_an G 600 f := (hf_14 _ (by omega)).trans hc_9
      have hc_19 : σ_15 280 = q_an G 265 g := (hf_14 _ (by omega)).trans hc_10
      refine A_if_neN (tgt := 33) hg dX11_readFirst_28 (by decide) (by decide) (fun c28 => ?_) (fun c28 => absurd c28 (by decide))
      have hg4 := tk_ge2 ht_t4
      refine A_aload_n hg dX11_readFirst_33 rfl rfl ?_
      refine A_getf (v := .ref (q_h G + 280)) hg fl_RX11_7 dX11_readFirst_34 hc_13 (by omega) rfl ?_
      refine A_iconst (v := (nI (3))) hg dX11_readFirst_37 (by decide) ?_
      refine A_aload_n hg dX11_readFirst_38 rfl rfl ?_
      refine A_getf (v := .int (nI (tk_vl f m t2))) hg fl_RX11_295 dX11_readFirst_39 hc_13 (by omega) (congrArg (fun z => some (Value.int z)) h31_t4) ?_
      refine A_iast (j := 3) (x := (tk_vl f m t2)) hg dX11_readFirst_42 hc_19 (by omega) (by omega) (by decide) (fun σ_20 hc_21 hf_22 => ?_)
      have hc_23 : σ_20 292 = q_an G 600 f := (hf_22 _ (by omega)).trans hc_18
      have hc_24 : σ_20 279 = o11 G F_t4 := (hf_22 _ (by omega)).trans hc_13
      refine A_iconst (v := (nI (1))) hg dX11_readFirst_43 (by decide) ?_
      rw [hQ]
      exact A_zreturn hg (by decide) (by decide) rfl rfl dX11_readFirst_44 ⟨rfl, Or.inr ((⟨F_t4, t4, (va_up g 3 (tk_vl f m t2)), rfl, (by unfold rd_f; rw [if_neg (show ¬ u = 1 by omega), ← hn2, if_pos hc0_t4, ← ht_t4]), htm_t4, (by omega), (fun j hj => ((hfr_t4 j (by omega)).trans ((hfr_t2 j (by omega)).trans (q_upn (by omega))))), h26_t4, h27_t4, h28_t4, h30_t4, ((hfr_t4 29 (by decide)).trans ((hfr_t2 29 (by decide)).trans rfl)), hc_24, hc_21, (fun i hi => ((hf_22 i (by omega)).trans ((hf_14 i (by omega)).trans ((hf_7 i (by omega)).trans (hf_3 i (by omega))))))⟩))⟩
  · skip
    refine A_aload_n hg dX11_readFirst_7 rfl rfl ?_
    refine A_iconst (v := (nI (4))) hg dX11_readFirst_8 (by decide) ?_
    refine A_hV (kc2 := 0) (ks2 := 0) (As := [.int (nI (4))]) (rest := []) hg lk_RX11_292 in_X11_failsAt se_X11_failsAt rfl dX11_readFirst_9 ⟨by decide, by decide⟩ rfl rfl ⟨by decide, by decide⟩ hc0 (by omega) rfl rfl (Nat.le_of_ble_eq_true rfl) (c_X11_failsAt G ex n σ F t 4 hc0 (by omega) hF24 hF27) ?_
    rintro _ σ_27 ⟨rfl, hc_25, hf_26⟩
    refine (?_ : AJ G K Q 0 0 ex n 12 [some (.ref (q_h G + 279))] [.int (nI (0))] σ_27)
    have hc_25 : σ_27 279 = o11 G (upd (upd F 24 (nI (4))) 25 (nI (t))) := hc_25
    have hc_28 : σ_27 292 = q_an G 600 f := (hf_26 _ (by omega)).trans hc1
    have hc_29 : σ_27 280 = q_an G 265 g := (hf_26 _ (by omega)).trans hc2
    rw [hQ]
    exact A_zreturn hg (by decide) (by decide) rfl rfl dX11_readFirst_12 ⟨rfl, Or.inl (⟨(upd (upd F 24 (nI (4))) 25 (nI (t))), g, 4, t, rfl, (by unfold rd_f; rw [if_pos (show u = 1 by omega)]), (by decide), (fun j hj => ((q_upn (by omega)).trans (q_upn (by omega)))), rfl, rfl, hc_25, hc_29, (fun i hi => (hf_26 i (by omega)))⟩)⟩
set_option maxRecDepth 100000 in
set_option maxHeartbeats 4000000 in
theorem c_X11_readStatement (G : GL) (ex : Bool) (n : Nat) (σ : Nat → va_E) (F : Nat → Int32) (g : Nat → Nat) (f : Nat → Nat) (m : Nat) (t : Nat) (u : Nat) (hc0 : σ 279 = o11 G F) (hc1 : σ 292 = q_an G 600 f) (hc2 : σ 280 = q_an G 265 g) (hn : 294 ≤ n) (hF21 : F 21 = nI m) (hm : m ≤ 600) (hbb : ∀ k : Nat, s_byte f m k ≤ 256) (htm : t ≤ m) (hF24 : F 24 = nI 0) (hF26 : F 26 = nI (tk_be f m t)) (hF27 : F 27 = nI t) (hF28 : F 28 = nI (tk_vl f m t)) (hF30 : F 30 = nI (tk_kd f m t)) (hF29 : F 29 = nI u) (hu : u ≤ 1) (hi : rd_inv g) : Ct G yX11_readStatement cX11_readStatement 1 (some .boolean) ⟨7, 0, 0, 153⟩ [.ref (q_h G + 279)] ex n σ (fun v9 σ2 => (∃ (F' : Nat → Int32), ∃ (g' : Nat → Nat), ∃ (c : Nat), ∃ (o : Nat), v9 = some (.int (nI (0))) ∧ (rd_m f m u g t = .inl (c, o)) ∧ (¬ c = 0) ∧ (∀ j : Nat, j ≠ 24 ∧ j ≠ 25 ∧ j ≠ 26 ∧ j ≠ 27 ∧ j ≠ 28 ∧ j ≠ 30 ∧ j ≠ 31 ∧ j ≠ 29 → F' j = F j) ∧ (F' 24 = nI c) ∧ (F' 25 = nI o) ∧ σ2 279 = o11 G F' ∧ σ2 280 = q_an G 265 g' ∧ (∀ i : Nat, i ≠ 279 ∧ i ≠ 280 → σ2 i = σ i)) ∨ (∃ (F' : Nat → Int32), ∃ (t' : Nat), ∃ (g' : Nat → Nat), v9 = some (.int (nI (1))) ∧ (rd_m f m u g t = .inr (g', t')) ∧ (t' ≤ m) ∧ (t ≤ t') ∧ (∀ j : Nat, j ≠ 26 ∧ j ≠ 27 ∧ j ≠ 28 ∧ j ≠ 30 ∧ j ≠ 31 ∧ j ≠ 29 → F' j = F j) ∧ (F' 26 = nI (tk_be f m t')) ∧ (F' 27 = nI t') ∧ (F' 28 = nI (tk_vl f m t')) ∧ (F' 30 = nI (tk_kd f m t')) ∧ (F' 29 = nI (rd_u f m u t)) ∧ σ2 279 = o11 G F' ∧ σ2 280 = q_an G 265 g' ∧ (∀ i : Nat, i ≠ 279 ∧ i ≠ 280 → σ2 i = σ i))) := by
  refine q_enter [some (.ref (q_h G + 279))] (by decide) (Nat.le_of_ble_eq_true rfl) rfl ?_
  intro K hg
  obtain ⟨Q, hQ⟩ : ∃ Q, Q = q_Q G K ex n 0 0 (fun v9 n' σ' => n' = n ∧ (fun v9 σ2 => (∃ (F' : Nat → Int32), ∃ (g' : Nat → Nat), ∃ (c : Nat), ∃ (o : Nat), v9 = some (.int (nI (0))) ∧ (rd_m f m u g t = .inl (c, o)) ∧ (¬ c = 0) ∧ (∀ j : Nat, j ≠ 24 ∧ j ≠ 25 ∧ j ≠ 26 ∧ j ≠ 27 ∧ j ≠ 28 ∧ j ≠ 30 ∧ j ≠ 31 ∧ j ≠ 29 → F' j = F j) ∧ (F' 24 = nI c) ∧ (F' 25 = nI o) ∧ σ2 279 = o11 G F' ∧ σ2 280 = q_an G 265 g' ∧ (∀ i : Nat, i ≠ 279 ∧ i ≠ 280 → σ2 i = σ i)) ∨ (∃ (F' : Nat → Int32), ∃ (t' : Nat), ∃ (g' : Nat → Nat), v9 = some (.int (nI (1))) ∧ (rd_m f m u g t = .inr (g', t')) ∧ (t' ≤ m) ∧ (t ≤ t') ∧ (∀ j : Nat, j ≠ 26 ∧ j ≠ 27 ∧ j ≠ 28 ∧ j ≠ 30 ∧ j ≠ 31 ∧ j ≠ 29 → F' j = F j) ∧ (F' 26 = nI (tk_be f m t')) ∧ (F' 27 = nI t') ∧ (F' 28 = nI (tk_vl f m t')) ∧ (F' 30 = nI (tk_kd f m t')) ∧ (F' 29 = nI (rd_u f m u t)) ∧ σ2 279 = o11 G F' ∧ σ2 280 = q_an G 265 g' ∧ (∀ i : Nat, i ≠ 279 ∧ i ≠ 280 → σ2 i = σ i))) v9 σ') q_noX := ⟨_, rfl⟩
  refine (?_ : AJ G K (q_Q G K ex n 0 0 _ _) 0 0 ex n 0 _ _ σ)
  rw [← hQ]
  have hbl := tk_be_le (f := f) htm
  have hbg := tk_be_ge (f := f) (m := m) (t := t)
  have hkd := tk_kd_lt f m t
  have hvl := tk_vl_lt f m t
  refine A_aload_n hg dX11_readStatement_0 rfl rfl ?_
  refine A_ldcwS hg (sc_RX11_357 hg.2.2.2.2.2.2.1.1).1 dX11_readStatement_1 ?_
  refine A_eV (kc2 := 0) (ks2 := 0) (As := [.ref (q_sa G RX11 357)]) (rest := []) hg lk_RX11_312 in_X11_isWord se_X11_isWord rfl dX11_readStatement_4 ⟨by decide, by decide⟩ rfl rfl ⟨by decide, by decide⟩ hc0 (by omega) rfl rfl (Nat.le_of_ble_eq_true rfl) (c_X11_isWord G ex n σ F f m t (q_sa G RX11 357) ([114, 117, 108, 101]) hc0 hc1 (by omega) hF21 (by omega) hbb (by omega) hF24 hF26 hF27 hF28 hF30 ((sc_RX11_357 hg.2.2.2.2.2.2.1.1).2)) ?_
  refine A_if_eqB (tgt := 15) hg dX11_readStatement_7 (by decide) (fun c7 => ?_) (fun c7 => ?_)
  · skip
    refine A_aload_n hg dX11_readStatement_15 rfl rfl ?_
    refine A_ldcwS hg (sc_RX11_362 hg.2.2.2.2.2.2.1.1).1 dX11_readStatement_16 ?_
    refine A_eV (kc2 := 0) (ks2 := 0) (As := [.ref (q_sa G RX11 362)]) (rest := []) hg lk_RX11_312 in_X11_isWord se_X11_isWord rfl dX11_readStatement_19 ⟨by decide, by decide⟩ rfl rfl ⟨by decide, by decide⟩ hc0 (by omega) rfl rfl (Nat.le_of_ble_eq_true rfl) (c_X11_isWord G ex n σ F f m t (q_sa G RX11 362) ([98, 111, 97, 114, 100]) hc0 hc1 (by omega) hF21 (by omega) hbb (by omega) hF24 hF26 hF27 hF28 hF30 ((sc_RX11_362 hg.2.2.2.2.2.2.1.1).2)) ?_
    refine A_if_eqB (tgt := 30) hg dX11_readStatement_22 (by decide) (fun c22 => ?_) (fun c22 => ?_)
    · skip
      refine A_aload_n hg dX11_readStatement_30 rfl rfl ?_
      refine A_ldcwS hg (sc_RX11_367 hg.2.2.2.2.2.2.1.1).1 dX11_readStatement_31 ?_
      refine A_eV (kc2 := 0) (ks2 := 0) (As := [.ref (q_sa G RX11 367)]) (rest := []) hg lk_RX11_312 in_X11_isWord se_X11_isWord rfl dX11_readStatement_34 ⟨by decide, by decide⟩ rfl rfl ⟨by decide, by decide⟩ hc0 (by omega) rfl rfl (Nat.le_of_ble_eq_true rfl) (c_X11_isWord G ex n σ F f m t (q_sa G RX11 367) ([115, 116, 105, 99, 107]) hc0 hc1 (by omega) hF21 (by omega) hbb (by omega) hF24 hF26 hF27 hF28 hF30 ((sc_RX11_367 hg.2.2.2.2.2.2.1.1).2)) ?_
      refine A_if_eqB (tgt := 45) hg dX11_readStatement_37 (by decide) (fun c37 => ?_) (fun c37 => ?_)
      · skip
        refine A_aload_n hg dX11_readStatement_45 rfl rfl ?_
        refine A_ldcwS hg (sc_RX11_372 hg.2.2.2.2.2.2.1.1).1 dX11_readStatement_46 ?_
        refine A_eV (kc2 := 0) (ks2 := 0) (As := [.ref (q_sa G RX11 372)]) (rest := []) hg lk_RX11_312 in_X11_isWord se_X11_isWord rfl dX11_readStatement_49 ⟨by decide, by decide⟩ rfl rfl ⟨by decide, by decide⟩ hc0 (by omega) rfl rfl (Nat.le_of_ble_eq_true rfl) (c_X11_isWord G ex n σ F f m t (q_sa G RX11 372) ([102, 105, 114, 115, 116]) hc0 hc1 (by omega) hF21 (by omega) hbb (by omega) hF24 hF26 hF27 hF28 hF30 ((sc_RX11_372 hg.2.2.2.2.2.2.1.1).2)) ?_
        refine A_if_eqB (tgt := 62) hg dX11_readStatement_52 (by decide) (fun c52 => ?_) (fun c52 => ?_)
        · skip
          refine A_aload_n hg dX11_readStatement_62 rfl rfl ?_
          refine A_iconst (v := (nI (1))) hg dX11_readStatement_63 (by decide) ?_
          refine A_hV (kc2 := 0) (ks2 := 0) (As := [.int (nI (1))]) (rest := []) hg lk_RX11_292 in_X11_failsAt se_X11_failsAt rfl dX11_readStatement_64 ⟨by decide, by decide⟩ rfl rfl ⟨by decide, by decide⟩ hc0 (by omega) rfl rfl (Nat.le_of_ble_eq_true rfl) (c_X11_failsAt G ex n σ F t 1 hc0 (by omega) hF24 hF27) ?_
          rintro _ σ_3 ⟨rfl, hc_1, hf_2⟩
          refine (?_ : AJ G K Q 0 0 ex n 67 [some (.ref (q_h G + 279))] [.int (nI (0))] σ_3)
          have hc_1 : σ_3 279 = o11 G (upd (upd F 24 (nI (1))) 25 (nI (t))) := hc_1
          have hc_4 : σ_3 292 = q_an G 600 f := (hf_2 _ (by omega)).trans hc1
          have hc_5 : σ_3 280 = q_an G 265 g := (hf_2 _ (by omega)).trans hc2
          rw [hQ]
          exact A_zreturn hg (by decide) (by decide) rfl rfl dX11_readStatement_67 ⟨rfl, Or.inl (⟨(upd (upd F 24 (nI (1))) 25 (nI (t))), g, 1, t, rfl, (by unfold rd_m; rw [if_neg (by rw [c7]; decide), if_neg (by rw [c22]; decide), if_neg (by rw [c37]; decide), if_neg (by rw [c52]; decide)]), (by decide), (fun j hj => ((q_upn (by omega)).trans (q_upn (by omega)))), rfl, rfl, hc_1, hc_5, (fun i hi => (hf_2 i (by omega)))⟩)⟩
        · skip
          refine A_aload_n hg dX11_readStatement_55 rfl rfl ?_
          refine A_hV (kc2 := 0) (ks2 := 0) (As := []) (rest := []) hg lk_RX11_374 in_X11_readFirst se_X11_readFirst rfl dX11_readStatement_56 ⟨by decide, by decide⟩ rfl rfl ⟨by decide, by decide⟩ hc0 (by omega) rfl rfl (Nat.le_of_ble_eq_true rfl) (c_X11_readFirst G ex n σ F g f m t u hc0 hc1 hc2 (by omega) hF21 (by omega) hbb (by omega) hF24 hF26 hF27 hF28 hF30 hF29 (by omega) hi) ?_
          rintro _ σ_12 (⟨F_t4, g4, c_t4, o_t4, rfl, hR_t4, hc0_t4, hfr_t4, h24_t4, h25_t4, hc_6, hc_7, hf_8⟩ | ⟨F_t4, t4, g4, rfl, hR_t4, htm_t4, hge_t4, hfr_t4, h26_t4, h27_t4, h28_t4, h30_t4, h29_t4, hc_9, hc_10, hf_11⟩)
          · skip
            refine (?_ : AJ G K Q 0 0 ex n 59 [some (.ref (q_h G + 279))] [.int (nI (0))] σ_12)
            have hc_13 : σ_12 292 = q_an G 600 f := (hf_8 _ (by omega)).trans hc1
            refine A_goto (tgt := 67) hg dX11_readStatement_59 (by decide) ?_
            rw [hQ]
            exact A_zreturn hg (by decide) (by decide) rfl rfl dX11_readStatement_67 ⟨rfl, Or.inl (⟨F_t4, g4, c_t4, o_t4, rfl, (by unfold rd_m; rw [if_neg (by rw [c7]; decide), if_neg (by rw [c22]; decide), if_neg (by rw [c37]; decide), if_pos c52]; exact hR_t4), hc0_t4, (fun j hj => (hfr_t4 j (by omega))), h24_t4, h25_t4, hc_6, hc_7, (fun i hi => (hf_8 i (by omega)))⟩)⟩
          · skip
            refine (?_ : AJ G K Q 0 0 ex n 59 [some (.ref (q_h G + 279))] [.int (nI (1))] σ_12)
            have hc_14 : σ_12 292 = q_an G 600 f := (hf_11 _ (by omega)).trans hc1
            refine A_goto (tgt := 67) hg dX11_readStatement_59 (by decide) ?_
            rw [hQ]
            exact A_zreturn hg (by decide) (by decide) rfl rfl dX11_readStatement_67 ⟨rfl, Or.inr ((⟨F_t4, t4, g4, rfl, (by unfold rd_m; rw [if_neg (by rw [c7]; decide), if_neg (by rw [c22]; decide), if_neg (by rw [c37]; decide), if_pos c52]; exact hR_t4), htm_t4, hge_t4, (fun j hj => (hfr_t4 j (by omega))), h26_t4, h27_t4, h28_t4, h30_t4, (h29_t4.trans (by unfold rd_u; rw [if_pos c52])), hc_9, hc_10, (fun i hi => (hf_11 i (by omega)))⟩))⟩
      · skip
        refine A_aload_n hg dX11_readStatement_40 rfl rfl ?_
        refine A_hV (kc2 := 0) (ks2 := 0) (As := []) (rest := []) hg lk_RX11_369 in_X11_readStick se_X11_readStick rfl dX11_readStatement_41 ⟨by decide, by decide⟩ rfl rfl ⟨by decide, by decide⟩ hc0 (by omega) rfl rfl (Nat.le_of_ble_eq_true rfl) (c_X11_readStick G ex n σ F g f m t hc0 hc1 hc2 (by omega) hF21 (by omega) hbb (by omega) hF24 hF26 hF27 hF28 hF30 hi) ?_
        rintro _ σ_21 (⟨F_t4, g4, c_t4, o_t4, rfl, hR_t4, hc0_t4, hfr_t4, h24_t4, h25_t4, hc_15, hc_16, hf_17⟩ | ⟨F_t4, t4, g4, rfl, hR_t4, htm_t4, hge_t4, hfr_t4, h26_t4, h27_t4, h28_t4, h30_t4, hc_18, hc_19, hf_20⟩)
        · skip
          refine (?_ : AJ G K Q 0 0 ex n 44 [some (.ref (q_h G + 279))] [.int (nI (0))] σ_21)
          have hc_22 : σ_21 292 = q_an G 600 f := (hf_17 _ (by omega)).trans hc1
          rw [hQ]
          exact A_zreturn hg (by decide) (by decide) rfl rfl dX11_readStatement_44 ⟨rfl, Or.inl (⟨F_t4, g4, c_t4, o_t4, rfl, (by unfold rd_m; rw [if_neg (by rw [c7]; decide), if_neg (by rw [c22]; decide), if_pos c37]; exact hR_t4), hc0_t4, (fun j hj => (hfr_t4 j (by omega))), h24_t4, h25_t4, hc_15, hc_16, (fun i hi => (hf_17 i (by omega)))⟩)⟩
        · skip
          refine (?_ : AJ G K Q 0 0 ex n 44 [some (.ref (q_h G + 279))] [.int (nI (1))] σ_21)
          have hc_23 : σ_21 292 = q_an G 600 f := (hf_20 _ (by omega)).trans hc1
          rw [hQ]
          exact A_zreturn hg (by decide) (by decide) rfl rfl dX11_readStatement_44 ⟨rfl, Or.inr ((⟨F_t4, t4, g4, rfl, (by unfold rd_m; rw [if_neg (by rw [c7]; decide), if_neg (by rw [c22]; decide), if_pos c37]; exact hR_t4), htm_t4, hge_t4, (fun j hj => (hfr_t4 j (by omega))), h26_t4, h27_t4, h28_t4, h30_t4, (((hfr_t4 29 (by decide)).trans hF29).trans (by rw [rd_u_n c37 (by decide)])), hc_18, hc_19, (fun i hi => (hf_20 i (by omega)))⟩))⟩
    · skip
      refine A_aload_n hg dX11_readStatement_25 rfl rfl ?_
      refine A_hV (kc2 := 0) (ks2 := 0) (As := []) (rest := []) hg lk_RX11_364 in_X11_readBoard se_X11_readBoard rfl dX11_readStatement_26 ⟨by decide, by decide⟩ rfl rfl ⟨by decide, by decide⟩ hc0 (by omega) rfl rfl (Nat.le_of_ble_eq_true rfl) (c_X11_readBoard G ex n σ F g f m t hc0 hc1 hc2 (by omega) hF21 (by omega) hbb (by omega) hF24 hF26 hF27 hF28 hF30 hi) ?_
      rintro _ σ_30 (⟨F_t4, g4, c_t4, o_t4, rfl, hR_t4, hc0_t4, hfr_t4, h24_t4, h25_t4, hc_24, hc_25, hf_26⟩ | ⟨F_t4, t4, g4, rfl, hR_t4, htm_t4, hge_t4, hfr_t4, h26_t4, h27_t4, h28_t4, h30_t4, hc_27, hc_28, hf_29⟩)
      · skip
        refine (?_ : AJ G K Q 0 0 ex n 29 [some (.ref (q_h G + 279))] [.int (nI (0))] σ_30)
        have hc_31 : σ_30 292 = q_an G 600 f := (hf_26 _ (by omega)).trans hc1
        rw [hQ]
        exact A_zreturn hg (by decide) (by decide) rfl rfl dX11_readStatement_29 ⟨rfl, Or.inl (⟨F_t4, g4, c_t4, o_t4, rfl, (by unfold rd_m; rw [if_neg (by rw [c7]; decide), if_pos c22]; exact hR_t4), hc0_t4, (fun j hj => (hfr_t4 j (by omega))), h24_t4, h25_t4, hc_24, hc_25, (fun i hi => (hf_26 i (by omega)))⟩)⟩
      · skip
        refine (?_ : AJ G K Q 0 0 ex n 29 [some (.ref (q_h G + 279))] [.int (nI (1))] σ_30)
        have hc_32 : σ_30 292 = q_an G 600 f := (hf_29 _ (by omega)).trans hc1
        rw [hQ]
        exact A_zreturn hg (by decide) (by decide) rfl rfl dX11_readStatement_29 ⟨rfl, Or.inr ((⟨F_t4, t4, g4, rfl, (by unfold rd_m; rw [if_neg (by rw [c7]; decide), if_pos c22]; exact hR_t4), htm_t4, hge_t4, (fun j hj => (hfr_t4 j (by omega))), h26_t4, h27_t4, h28_t4, h30_t4, (((hfr_t4 29 (by decide)).trans hF29).trans (by rw [rd_u_n c22 (by decide)])), hc_27, hc_28, (fun i hi => (hf_29 i (by omega)))⟩))⟩
  · skip
    refine A_aload_n hg dX11_readStatement_10 rfl rfl ?_
    refine A_hV (kc2 := 0) (ks2 := 0) (As := []) (rest := []) hg lk_RX11_359 in_X11_readRule se_X11_readRule rfl dX11_readStatement_11 ⟨by decide, by decide⟩ rfl rfl ⟨by decide, by decide⟩ hc0 (by omega) rfl rfl (Nat.le_of_ble_eq_true rfl) (c_X11_readRule G ex n σ F g f m t hc0 hc1 hc2 (by omega) hF21 (by omega) hbb (by omega) hF24 hF26 hF27 hF28 hF30 hi) ?_
    rintro _ σ_39 (⟨F_t4, g4, c_t4, o_t4, rfl, hR_t4, hc0_t4, hfr_t4, h24_t4, h25_t4, hc_33, hc_34, hf_35⟩ | ⟨F_t4, t4, g4, rfl, hR_t4, htm_t4, hge_t4, hfr_t4, h26_t4, h27_t4, h28_t4, h30_t4, hc_36, hc_37, hf_38⟩)
    · skip
      refine (?_ : AJ G K Q 0 0 ex n 14 [some (.ref (q_h G + 279))] [.int (nI (0))] σ_39)
      have hc_40 : σ_39 292 = q_an G 600 f := (hf_35 _ (by omega)).trans hc1
      rw [hQ]
      exact A_zreturn hg (by decide) (by decide) rfl rfl dX11_readStatement_14 ⟨rfl, Or.inl (⟨F_t4, g4, c_t4, o_t4, rfl, (by unfold rd_m; rw [if_pos c7]; exact hR_t4), hc0_t4, (fun j hj => (hfr_t4 j (by omega))), h24_t4, h25_t4, hc_33, hc_34, (fun i hi => (hf_35 i (by omega)))⟩)⟩
    · skip
      refine (?_ : AJ G K Q 0 0 ex n 14 [some (.ref (q_h G + 279))] [.int (nI (1))] σ_39)
      have hc_41 : σ_39 292 = q_an G 600 f := (hf_38 _ (by omega)).trans hc1
      rw [hQ]
      exact A_zreturn hg (by decide) (by decide) rfl rfl dX11_readStatement_14 ⟨rfl, Or.inr ((⟨F_t4, t4, g4, rfl, (by unfold rd_m; rw [if_pos c7]; exact hR_t4), htm_t4, hge_t4, (fun j hj => (hfr_t4 j (by omega))), h26_t4, h27_t4, h28_t4, h30_t4, (((hfr_t4 29 (by decide)).trans hF29).trans (by rw [rd_u_n c7 (by decide)])), hc_36, hc_37, (fun i hi => (hf_38 i (by omega)))⟩))⟩
end
