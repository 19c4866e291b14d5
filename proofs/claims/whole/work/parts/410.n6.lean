section
set_option maxRecDepth 100000 in
set_option maxHeartbeats 4000000 in
theorem c_X11_readRule (G : GL) (ex : Bool) (n : Nat) (σ : Nat → va_E) (F : Nat → Int32) (g : Nat → Nat) (f : Nat → Nat) (m : Nat) (t : Nat) (hc0 : σ 279 = o11 G F) (hc1 : σ 292 = q_an G 600 f) (hc2 : σ 280 = q_an G 265 g) (hn : 294 ≤ n) (hF21 : F 21 = nI m) (hm : m ≤ 600) (hbb : ∀ k : Nat, s_byte f m k ≤ 256) (htm : t ≤ m) (hF24 : F 24 = nI 0) (hF26 : F 26 = nI (tk_be f m t)) (hF27 : F 27 = nI t) (hF28 : F 28 = nI (tk_vl f m t)) (hF30 : F 30 = nI (tk_kd f m t)) (hi : rd_inv g) : Ct G yX11_readRule cX11_readRule 2 (some .boolean) ⟨6, 0, 0, 132⟩ [.ref (q_h G + 279)] ex n σ (fun v9 σ2 => (∃ (F' : Nat → Int32), ∃ (g' : Nat → Nat), ∃ (c : Nat), ∃ (o : Nat), v9 = some (.int (nI (0))) ∧ (rd_r f m g t = .inl (c, o)) ∧ (¬ c = 0) ∧ (∀ j : Nat, j ≠ 24 ∧ j ≠ 25 ∧ j ≠ 26 ∧ j ≠ 27 ∧ j ≠ 28 ∧ j ≠ 30 ∧ j ≠ 31 → F' j = F j) ∧ (F' 24 = nI c) ∧ (F' 25 = nI o) ∧ σ2 279 = o11 G F' ∧ σ2 280 = q_an G 265 g' ∧ (∀ i : Nat, i ≠ 279 ∧ i ≠ 280 → σ2 i = σ i)) ∨ (∃ (F' : Nat → Int32), ∃ (t' : Nat), ∃ (g' : Nat → Nat), v9 = some (.int (nI (1))) ∧ (rd_r f m g t = .inr (g', t')) ∧ (t' ≤ m) ∧ (t ≤ t') ∧ (∀ j : Nat, j ≠ 26 ∧ j ≠ 27 ∧ j ≠ 28 ∧ j ≠ 30 ∧ j ≠ 31 → F' j = F j) ∧ (F' 26 = nI (tk_be f m t')) ∧ (F' 27 = nI t') ∧ (F' 28 = nI (tk_vl f m t')) ∧ (F' 30 = nI (tk_kd f m t')) ∧ σ2 279 = o11 G F' ∧ σ2 280 = q_an G 265 g' ∧ (∀ i : Nat, i ≠ 279 ∧ i ≠ 280 → σ2 i = σ i))) := by
  refine q_enter [some (.ref (q_h G + 279)), none] (by decide) (Nat.le_of_ble_eq_true rfl) rfl ?_
  intro K hg
  obtain ⟨Q, hQ⟩ : ∃ Q, Q = q_Q G K ex n 0 0 (fun v9 n' σ' => n' = n ∧ (fun v9 σ2 => (∃ (F' : Nat → Int32), ∃ (g' : Nat → Nat), ∃ (c : Nat), ∃ (o : Nat), v9 = some (.int (nI (0))) ∧ (rd_r f m g t = .inl (c, o)) ∧ (¬ c = 0) ∧ (∀ j : Nat, j ≠ 24 ∧ j ≠ 25 ∧ j ≠ 26 ∧ j ≠ 27 ∧ j ≠ 28 ∧ j ≠ 30 ∧ j ≠ 31 → F' j = F j) ∧ (F' 24 = nI c) ∧ (F' 25 = nI o) ∧ σ2 279 = o11 G F' ∧ σ2 280 = q_an G 265 g' ∧ (∀ i : Nat, i ≠ 279 ∧ i ≠ 280 → σ2 i = σ i)) ∨ (∃ (F' : Nat → Int32), ∃ (t' : Nat), ∃ (g' : Nat → Nat), v9 = some (.int (nI (1))) ∧ (rd_r f m g t = .inr (g', t')) ∧ (t' ≤ m) ∧ (t ≤ t') ∧ (∀ j : Nat, j ≠ 26 ∧ j ≠ 27 ∧ j ≠ 28 ∧ j ≠ 30 ∧ j ≠ 31 → F' j = F j) ∧ (F' 26 = nI (tk_be f m t')) ∧ (F' 27 = nI t') ∧ (F' 28 = nI (tk_vl f m t')) ∧ (F' 30 = nI (tk_kd f m t')) ∧ σ2 279 = o11 G F' ∧ σ2 280 = q_an G 265 g' ∧ (∀ i : Nat, i ≠ 279 ∧ i ≠ 280 → σ2 i = σ i))) v9 σ') q_noX := ⟨_, rfl⟩
  refine (?_ : AJ G K (q_Q G K ex n 0 0 _ _) 0 0 ex n 0 _ _ σ)
  rw [← hQ]
  have hbl := tk_be_le (f := f) htm
  have hbg := tk_be_ge (f := f) (m := m) (t := t)
  have hkd := tk_kd_lt f m t
  have hvl := tk_vl_lt f m t
  have hg04 := hi.1.1
  have hgv := hi.2.1
  refine A_aload_n hg dX11_readRule_0 rfl rfl ?_
  refine A_getf (v := .ref (q_h G + 280)) hg fl_RX11_7 dX11_readRule_1 hc0 (by omega) rfl ?_
  refine A_iconst (v := (nI (0))) hg dX11_readRule_4 (by decide) ?_
  refine A_iald (j := 0) hg dX11_readRule_5 hc2 (by omega) (by omega) (by decide) ?_
  refine A_istore_n hg dX11_readRule_6 rfl (by decide) (q_c1d rfl) ?_
  refine A_eq (ls2 := [some (.ref (q_h G + 279)), some (.int (nI (g 0)))]) (st2 := []) (pc2 := 0) rfl rfl ?_
  refine A_iload_n hg dX11_readRule_7 rfl rfl ?_
  refine A_iconst (v := (nI (4))) hg dX11_readRule_8 (by decide) ?_
  refine A_icmp_neN (tgt := 18) hg dX11_readRule_9 (by omega) (by decide) (by decide) (fun c9 => ?_) (fun c9 => ?_)
  · skip
    refine A_aload_n hg dX11_readRule_18 rfl rfl ?_
    refine A_vV (kc2 := 0) (ks2 := 0) (As := []) (rest := []) hg lk_RX11_301 in_X11_advanceToken se_X11_advanceToken rfl dX11_readRule_19 ⟨by decide, by decide⟩ rfl rfl ⟨by decide, by decide⟩ hc0 (by omega) rfl rfl (Nat.le_of_ble_eq_true rfl) (c_X11_advanceToken G ex n σ F f m (tk_be f m t) hc0 hc1 (by omega) hF21 (by omega) hbb (tk_be_le htm) hF26) ?_
    rintro σ_3 ⟨F_t2, t2, ht_t2, htm_t2, hfr_t2, h26_t2, h27_t2, h28_t2, h30_t2, hc_1, hf_2⟩
    have hc_4 : σ_3 292 = q_an G 600 f := (hf_2 _ (by omega)).trans hc1
    have hc_5 : σ_3 280 = q_an G 265 g := (hf_2 _ (by omega)).trans hc2
    have hn2 : t2 = tk_nx f m t := ht_t2
    have hg2 := tk_ge2 hn2
    refine A_aload_n hg dX11_readRule_22 rfl rfl ?_
    refine A_hV (kc2 := 0) (ks2 := 0) (As := []) (rest := []) hg lk_RX11_325 in_X11_seesName se_X11_seesName rfl dX11_readRule_23 ⟨by decide, by decide⟩ rfl rfl ⟨by decide, by decide⟩ hc_1 (by omega) rfl rfl (Nat.le_of_ble_eq_true rfl) (c_X11_seesName G ex n σ_3 F_t2 f m t2 hc_1 (by omega) ((hfr_t2 21 (by decide)).trans hF21) (by omega) hbb (by omega) ((hfr_t2 24 (by decide)).trans hF24) h26_t2 h27_t2 h28_t2 h30_t2) ?_
    rintro _ σ_9 (⟨rfl, hn, hc_6, hf_7⟩ | ⟨rfl, hn, he_8⟩)
    · skip
      refine (?_ : AJ G K Q 0 0 ex n 26 [some (.ref (q_h G + 279)), some (.int (nI (g 0)))] [.int (nI (0))] σ_9)
      have hc_6 : σ_9 279 = o11 G (upd (upd F_t2 24 (nI (1))) 25 (nI (t2))) := hc_6
      have hc_10 : σ_9 292 = q_an G 600 f := (hf_7 _ (by omega)).trans hc_4
      have hc_11 : σ_9 280 = q_an G 265 g := (hf_7 _ (by omega)).trans hc_5
      refine A_if_neN (tgt := 31) hg dX11_readRule_26 (by decide) (by decide) (fun c26 => absurd (by decide) c26) (fun c26 => ?_)
      refine A_iconst (v := (nI (0))) hg dX11_readRule_29 (by decide) ?_
      rw [hQ]
      exact A_zreturn hg (by decide) (by decide) rfl rfl dX11_readRule_30 ⟨rfl, Or.inl (⟨(upd (upd F_t2 24 (nI (1))) 25 (nI (t2))), g, 1, t2, rfl, (by unfold rd_r; rw [if_neg c9, ← hn2, if_neg (by rw [hn]; decide)]), (by decide), (fun j hj => ((q_upn (by omega)).trans ((q_upn (by omega)).trans (hfr_t2 j (by omega))))), rfl, rfl, hc_6, hc_11, (fun i hi => ((hf_7 i (by omega)).trans (hf_2 i (by omega))))⟩)⟩
    · skip
      rw [he_8]
      refine (?_ : AJ G K Q 0 0 ex n 26 [some (.ref (q_h G + 279)), some (.int (nI (g 0)))] [.int (nI (1))] σ_3)
      refine A_if_neN (tgt := 31) hg dX11_readRule_26 (by decide) (by decide) (fun c26 => ?_) (fun c26 => absurd c26 (by decide))
      refine A_aload_n hg dX11_readRule_31 rfl rfl ?_
      refine A_hV (kc2 := 0) (ks2 := 0) (As := []) (rest := []) hg lk_RX11_328 in_X11_named se_X11_named rfl dX11_readRule_32 ⟨by decide, by decide⟩ rfl rfl ⟨by decide, by decide⟩ hc_1 (by omega) rfl rfl (Nat.le_of_ble_eq_true rfl) (c_X11_named G ex n σ_3 F_t2 g f m t2 hc_1 hc_4 hc_5 (by omega) ((hfr_t2 21 (by decide)).trans hF21) (by omega) hbb (by omega) ((hfr_t2 24 (by decide)).trans hF24) h26_t2 h27_t2 h28_t2 h30_t2 (by omega) hgv hn) ?_
      rintro _ σ_14 (⟨rfl, hh, he_12⟩ | ⟨rfl, hh, he_13⟩)
      · skip
        rw [he_12]
        refine (?_ : AJ G K Q 0 0 ex n 35 [some (.ref (q_h G + 279)), some (.int (nI (g 0)))] [.int (nI (s_nmi f m g t2))] σ_3)
        refine A_iconst (v := (q_d (0))) hg dX11_readRule_35 (by decide) ?_
        refine A_icmp_eq (tgt := 45) hg dX11_readRule_36 (by decide) (fun c36 => absurd c36 (q_nM (by omega))) (fun c36 => ?_)
        refine A_aload_n hg dX11_readRule_39 rfl rfl ?_
        refine A_iconst (v := (nI (4))) hg dX11_readRule_40 (by decide) ?_
        refine A_hV (kc2 := 0) (ks2 := 0) (As := [.int (nI (4))]) (rest := []) hg lk_RX11_292 in_X11_failsAt se_X11_failsAt rfl dX11_readRule_41 ⟨by decide, by decide⟩ rfl rfl ⟨by decide, by decide⟩ hc_1 (by omega) rfl rfl (Nat.le_of_ble_eq_true rfl) (c_X11_failsAt G ex n σ_3 F_t2 t2 4 hc_1 (by omega) ((hfr_t2 24 (by decide)).trans hF24) h27_t2) ?_
        rintro _ σ_17 ⟨rfl, hc_15, hf_16⟩
        refine (?_ : AJ G K Q 0 0 ex n 44 [some (.ref (q_h G + 279)), some (.int (nI (g 0)))] [.int (nI (0))] σ_17)
        have hc_15 : σ_17 279 = o11 G (upd (upd F_t2 24 (nI (4))) 25 (nI (t2))) := hc_15
        have hc_18 : σ_17 292 = q_an G 600 f := (hf_16 _ (by omega)).trans hc_4
        have hc_19 : σ_17 280 = q_an G 265 g := (hf_16 _ (by omega)).trans hc_5
        rw [hQ]
        exact A_zreturn hg (by decide) (by decide) rfl rfl dX11_readRule_44 ⟨rfl, Or.inl (⟨(upd (upd F_t2 24 (nI (4))) 25 (nI (t2))), g, 4, t2, rfl, (by unfold rd_r; rw [if_neg c9, ← hn2, if_pos hn, if_pos hh]), (by decide), (fun j hj => ((q_upn (by omega)).trans ((q_upn (by omega)).trans (hfr_t2 j (by omega))))), rfl, rfl, hc_15, hc_19, (fun i hi => ((hf_16 i (by omega)).trans (hf_2 i (by omega))))⟩)⟩
      · skip
        rw [he_13]
        refine (?_ : AJ G K Q 0 0 ex n 35 [some (.ref (q_h G + 279)), some (.int (nI (g 0)))] [.int (q_d (0))] σ_3)
        refine A_iconst (v := (q_d (0))) hg dX11_readRule_35 (by decide) ?_
        refine A_icmp_eqM (tgt := 45) hg dX11_readRule_36 (by decide) (by decide) (by decide) (fun c36 => ?_) (fun c36 => absurd rfl c36)
        refine A_aload_n hg dX11_readRule_45 rfl rfl ?_
        refine A_iload_n hg dX11_readRule_46 rfl rfl ?_
        refine A_vV (kc2 := 0) (ks2 := 0) (As := [.int (nI (g 0))]) (rest := []) hg lk_RX11_331 in_X11_putsName se_X11_putsName rfl dX11_readRule_47 ⟨by decide, by decide⟩ rfl rfl ⟨by decide, by decide⟩ hc_1 (by omega) rfl rfl (Nat.le_of_ble_eq_true rfl) (c_X11_putsName G ex n σ_3 F_t2 g f m t2 (g 0) hc_1 hc_4 hc_5 (by omega) ((hfr_t2 21 (by decide)).trans hF21) (by omega) hbb (by omega) ((hfr_t2 24 (by decide)).trans hF24) h26_t2 h27_t2 h28_t2 h30_t2 (by omega) hn) ?_
        rintro σ_23 ⟨F_t3, t3, ht_t3, htm_t3, hfr_t3, h26_t3, h27_t3, h28_t3, h30_t3, hc_20, hc_21, hf_22⟩
        have hc_24 : σ_23 292 = q_an G 600 f := (hf_22 _ (by omega)).trans hc_4
        refine A_aload_n hg dX11_readRule_50 rfl rfl ?_
        refine A_iload_n hg dX11_readRule_51 rfl rfl ?_
        refine A_bipush (v := (nI (18))) hg dX11_readRule_52 (by decide) ?_
        refine A_iconst (v := (nI (1))) hg dX11_readRule_54 (by decide) ?_
        refine A_vV (kc2 := 0) (ks2 := 0) (As := [.int (nI (g 0)), .int (nI (18)), .int (nI (1))]) (rest := []) hg lk_RX11_60 in_X11_putsRule se_X11_putsRule rfl dX11_readRule_55 ⟨by decide, by decide⟩ rfl rfl ⟨by decide, by decide⟩ hc_20 (by omega) rfl rfl (Nat.le_of_ble_eq_true rfl) (c_X11_putsRule G ex n σ_23 F_t3 (s_pnm f m g t2 (g 0)) (g 0) 18 1 hc_20 hc_21 (by omega) (by omega)) ?_
        rintro σ_27 ⟨hc_25, hf_26⟩
        have hc_28 : σ_27 292 = q_an G 600 f := (hf_26 _ (by omega)).trans hc_24
        have hc_29 : σ_27 279 = o11 G F_t3 := (hf_26 _ (by omega)).trans hc_20
        refine A_aload_n hg dX11_readRule_58 rfl rfl ?_
        refine A_iload_n hg dX11_readRule_59 rfl rfl ?_
        refine A_bipush (v := (nI (19))) hg dX11_readRule_60 (by decide) ?_
        refine A_bipush (v := (nI (40))) hg dX11_readRule_62 (by decide) ?_
        refine A_vV (kc2 := 0) (ks2 := 0) (As := [.int (nI (g 0)), .int (nI (19)), .int (nI (40))]) (rest := []) hg lk_RX11_60 in_X11_putsRule se_X11_putsRule rfl dX11_readRule_64 ⟨by decide, by decide⟩ rfl rfl ⟨by decide, by decide⟩ hc_29 (by omega) rfl rfl (Nat.le_of_ble_eq_true rfl) (c_X11_putsRule G ex n σ_27 F_t3 (va_up (s_pnm f m g t2 (g 0)) (17 + 29 * (g 0) + 18) 1) (g 0) 19 40 hc_29 hc_25 (by omega) (by omega)) ?_
        rintro σ_32 ⟨hc_30, hf_31⟩
        have hc_33 : σ_32 292 = q_an G 600 f := (hf_31 _ (by omega)).trans hc_28
        have hc_34 : σ_32 279 = o11 G F_t3 := (hf_31 _ (by omega)).trans hc_29
        refine A_canon (rd_new f m g t2) hc_30 (fun _ _ => rfl) (fun σ_35 hc_36 hf_37 => ?_)
        have hc_38 : σ_35 292 = q_an G 600 f := (hf_37 _ (by omega)).trans hc_33
        have hc_39 : σ_35 279 = o11 G F_t3 := (hf_37 _ (by omega)).trans hc_34
        have hnew := rd_new_ok hi (by omega) hn
        have hg3 := tk_ge2 ht_t3
        refine A_aload_n hg dX11_readRule_67 rfl rfl ?_
        refine A_iload_n hg dX11_readRule_68 rfl rfl ?_
        refine A_hV (kc2 := 0) (ks2 := 0) (As := [.int (nI (g 0))]) (rest := []) hg lk_RX11_334 in_X11_readOnly se_X11_readOnly rfl dX11_readRule_69 ⟨by decide, by decide⟩ rfl rfl ⟨by decide, by decide⟩ hc_39 (by omega) rfl rfl (Nat.le_of_ble_eq_true rfl) (c_X11_readOnly G ex n σ_35 F_t3 (rd_new f m g t2) f m t3 (g 0) hc_39 hc_38 hc_36 (by omega) ((hfr_t3 21 (by decide)).trans ((hfr_t2 21 (by decide)).trans hF21)) (by omega) hbb (by omega) ((hfr_t3 24 (by decide)).trans ((hfr_t2 24 (by decide)).trans hF24)) h26_t3 h27_t3 h28_t3 h30_t3 (by omega) hnew.1) ?_
        rintro _ σ_46 (⟨F_t4, g4, c_t4, o_t4, rfl, hR_t4, hc0_t4, hfr_t4, h24_t4, h25_t4, hc_40, hc_41, hf_42⟩ | ⟨F_t4, t4, g4, rfl, hR_t4, htm_t4, hge_t4, hfr_t4, h26_t4, h27_t4, h28_t4, h30_t4, hc_43, hc_44, hf_45⟩)
        · skip
          refine (?_ : AJ G K Q 0 0 ex n 72 [some (.ref (q_h G + 279)), some (.int (nI (g 0)))] [.int (nI (0))] σ_46)
          have hc_47 : σ_46 292 = q_an G 600 f := (hf_42 _ (by omega)).trans hc_38
          refine A_if_eqN (tgt := 106) hg dX11_readRule_72 (by decide) (by decide) (fun c72 => ?_) (fun c72 => absurd (by decide) c72)
          refine A_iconst (v := (nI (0))) hg dX11_readRule_106 (by decide) ?_
          rw [hQ]
          exact A_zreturn hg (by decide) (by decide) rfl rfl dX11_readRule_107 ⟨rfl, Or.inl (⟨F_t4, g4, c_t4, o_t4, rfl, (by rw [rd_r_go c9 hn2 hn hh ht_t3]; unfold rd_r2; exact rd_bd_l hR_t4), hc0_t4, (fun j hj => ((hfr_t4 j (by omega)).trans ((hfr_t3 j (by omega)).trans (hfr_t2 j (by omega))))), h24_t4, h25_t4, hc_40, hc_41, (fun i hi => ((hf_42 i (by omega)).trans ((hf_37 i (by omega)).trans ((hf_31 i (by omega)).trans ((hf_26 i (by omega)).trans ((hf_22 i (by omega)).trans (hf_2 i (by omega))))))))⟩)⟩
        · skip
          refine (?_ : AJ G K Q 0 0 ex n 72 [some (.ref (q_h G + 279)), some (.int (nI (g 0)))] [.int (nI (1))] σ_46)
          have hc_48 : σ_46 292 = q_an G 600 f := (hf_45 _ (by omega)).trans hc_38
          refine A_if_eqN (tgt := 106) hg dX11_readRule_72 (by decide) (by decide) (fun c72 => absurd c72 (by decide)) (fun c72 => ?_)
          refine A_aload_n hg dX11_readRule_75 rfl rfl ?_
          refine A_ldcwS hg (sc_RX11_337 hg.2.2.2.2.2.2.1.1).1 dX11_readRule_76 ?_
          refine A_iload_n hg dX11_readRule_79 rfl rfl ?_
          refine A_bipush (v := (nI (18))) hg dX11_readRule_80 (by decide) ?_
          refine A_iconst (v := (nI (0))) hg dX11_readRule_82 (by decide) ?_
          refine A_iconst (v := (nI (5))) hg dX11_readRule_83 (by decide) ?_
          refine A_hV (kc2 := 0) (ks2 := 0) (As := [.ref (q_sa G RX11 337), .int (nI (g 0)), .int (nI (18)), .int (nI (0)), .int (nI (5))]) (rest := []) hg lk_RX11_339 in_X11_readOwn se_X11_readOwn rfl dX11_readRule_84 ⟨by decide, by decide⟩ rfl rfl ⟨by decide, by decide⟩ hc_43 (by omega) rfl rfl (Nat.le_of_ble_eq_true rfl) (c_X11_readOwn G ex n σ_46 F_t4 g4 f m t4 (q_sa G RX11 337) ([115, 108, 97, 99, 107]) (g 0) 18 0 5 hc_43 hc_48 hc_44 (by omega) ((hfr_t4 21 (by decide)).trans ((hfr_t3 21 (by decide)).trans ((hfr_t2 21 (by decide)).trans hF21))) (by omega) hbb (by omega) ((hfr_t4 24 (by decide)).trans ((hfr_t3 24 (by decide)).trans ((hfr_t2 24 (by decide)).trans hF24))) h26_t4 h27_t4 h28_t4 h30_t4 ((sc_RX11_337 hg.2.2.2.2.2.2.1.1).2) (by omega) (by omega) (by omega) (by omega)) ?_
          rintro _ σ_55 (⟨F_t5, g5, c_t5, o_t5, rfl, hR_t5, hc0_t5, hfr_t5, h24_t5, h25_t5, hc_49, hc_50, hf_51⟩ | ⟨F_t5, t5, g5, rfl, hR_t5, htm_t5, hge_t5, hfr_t5, h26_t5, h27_t5, h28_t5, h30_t5, hc_52, hc_53, hf_54⟩)
          · skip
            refine (?_ : AJ G K Q 0 0 ex n 87 [some (.ref (q_h G + 279)), some (.int (nI (g 0)))] [.int (nI (0))] σ_55)
            have hc_56 : σ_55 292 = q_an G 600 f := (hf_51 _ (by omega)).trans hc_48
            refine A_if_eqN (tgt := 106) hg dX11_readRule_87 (by decide) (by decide) (fun c87 => ?_) (fun c87 => absurd (by decide) c87)
            refine A_iconst (v := (nI (0))) hg dX11_readRule_106 (by decide) ?_
            rw [hQ]
            exact A_zreturn hg (by decide) (by decide) rfl rfl dX11_readRule_107 ⟨rfl, Or.inl (⟨F_t5, g5, c_t5, o_t5, rfl, (by rw [rd_r_go c9 hn2 hn hh ht_t3]; unfold rd_r2; exact (rd_bd_r hR_t4).trans (rd_bd_l hR_t5)), hc0_t5, (fun j hj => ((hfr_t5 j (by omega)).trans ((hfr_t4 j (by omega)).trans ((hfr_t3 j (by omega)).trans (hfr_t2 j (by omega)))))), h24_t5, h25_t5, hc_49, hc_50, (fun i hi => ((hf_51 i (by omega)).trans ((hf_45 i (by omega)).trans ((hf_37 i (by omega)).trans ((hf_31 i (by omega)).trans ((hf_26 i (by omega)).trans ((hf_22 i (by omega)).trans (hf_2 i (by omega)))))))))⟩)⟩
          · skip
            refine (?_ : AJ G K Q 0 0 ex n 87 [some (.ref (q_h G + 279)), some (.int (nI (g 0)))] [.int (nI (1))] σ_55)
            have hc_57 : σ_55 292 = q_an G 600 f := (hf_54 _ (by omega)).trans hc_48
            refine A_if_eqN (tgt := 106) hg dX11_readRule_87 (by decide) (by decide) (fun c87 => absurd c87 (by decide)) (fun c87 => ?_)
            refine A_aload_n hg dX11_readRule_90 rfl rfl ?_
            refine A_ldcwS hg (sc_RX11_343 hg.2.2.2.2.2.2.1.1).1 dX11_readRule_91 ?_
            refine A_iload_n hg dX11_readRule_94 rfl rfl ?_
            refine A_bipush (v := (nI (19))) hg dX11_readRule_95 (by decide) ?_
            refine A_iconst (v := (nI (1))) hg dX11_readRule_97 (by decide) ?_
            refine A_bipush (v := (nI (40))) hg dX11_readRule_98 (by decide) ?_
            refine A_hV (kc2 := 0) (ks2 := 0) (As := [.ref (q_sa G RX11 343), .int (nI (g 0)), .int (nI (19)), .int (nI (1)), .int (nI (40))]) (rest := []) hg lk_RX11_339 in_X11_readOwn se_X11_readOwn rfl dX11_readRule_100 ⟨by decide, by decide⟩ rfl rfl ⟨by decide, by decide⟩ hc_52 (by omega) rfl rfl (Nat.le_of_ble_eq_true rfl) (c_X11_readOwn G ex n σ_55 F_t5 g5 f m t5 (q_sa G RX11 343) ([109, 111, 115, 116]) (g 0) 19 1 40 hc_52 hc_57 hc_53 (by omega) ((hfr_t5 21 (by decide)).trans ((hfr_t4 21 (by decide)).trans ((hfr_t3 21 (by decide)).trans ((hfr_t2 21 (by decide)).trans hF21)))) (by omega) hbb (by omega) ((hfr_t5 24 (by decide)).trans ((hfr_t4 24 (by decide)).trans ((hfr_t3 24 (by decide)).trans ((hfr_t2 24 (by decide)).trans hF24)))) h26_t5 h27_t5 h28_t5 h30_t5 ((sc_RX11_343 hg.2.2.2.2.2.2.1.1).2) (by omega) (by omega) (by omega) (by omega)) ?_
            rintro _ σ_64 (⟨F_t6, g6, c_t6, o_t6, rfl, hR_t6, hc0_t6, hfr_t6, h24_t6, h25_t6, hc_58, hc_59, hf_60⟩ | ⟨F_t6, t6, g6, rfl, hR_t6, htm_t6, hge_t6, hfr_t6, h26_t6, h27_t6, h28_t6, h30_t6, hc_61, hc_62, hf_63⟩)
            · skip
              refine (?_ : AJ G K Q 0 0 ex n 103 [some (.ref (q_h G + 279)), some (.int (nI (g 0)))] [.int (nI (0))] σ_64)
              have hc_65 : σ_64 292 = q_an G 600 f := (hf_60 _ (by omega)).trans hc_57
              refine A_if_neN (tgt := 108) hg dX11_readRule_103 (by decide) (by decide) (fun c103 => absurd (by decide) c103) (fun c103 => ?_)
              refine A_iconst (v := (nI (0))) hg dX11_readRule_106 (by decide) ?_
              rw [hQ]
              exact A_zreturn hg (by decide) (by decide) rfl rfl dX11_readRule_107 ⟨rfl, Or.inl (⟨F_t6, g6, c_t6, o_t6, rfl, (by rw [rd_r_go c9 hn2 hn hh ht_t3]; unfold rd_r2; exact (rd_bd_r hR_t4).trans ((rd_bd_r hR_t5).trans (rd_bd_l hR_t6))), hc0_t6, (fun j hj => ((hfr_t6 j (by omega)).trans ((hfr_t5 j (by omega)).trans ((hfr_t4 j (by omega)).trans ((hfr_t3 j (by omega)).trans (hfr_t2 j (by omega))))))), h24_t6, h25_t6, hc_58, hc_59, (fun i hi => ((hf_60 i (by omega)).trans ((hf_54 i (by omega)).trans ((hf_45 i (by omega)).trans ((hf_37 i (by omega)).trans ((hf_31 i (by omega)).trans ((hf_26 i (by omega)).trans ((hf_22 i (by omega)).trans (hf_2 i (by omega))))))))))⟩)⟩
            · skip
              refine (?_ : AJ G K Q 0 0 ex n 103 [some (.ref (q_h G + 279)), some (.int (nI (g 0)))] [.int (nI (1))] σ_64)
              have hc_66 : σ_64 292 = q_an G 600 f := (hf_63 _ (by omega)).trans hc_57
              refine A_if_neN (tgt := 108) hg dX11_readRule_103 (by decide) (by decide) (fun c103 => ?_) (fun c103 => absurd c103 (by decide))
              have hk4 := rd_o_wf hnew.1 hR_t4
              have hk5 := rd_w_wf hk4.1 (by omega) hR_t5
              have hk6 := rd_w_wf hk5.1 (by omega) hR_t6
              have hsm := rw_sm_trans (rw_sm_trans (rw_sm_trans hnew.2 hk4.2) hk5.2) hk6.2
              have hRR : rd_r f m g t = rd_bd (rd_bL f m (g 0) 5 g6 t6) (fun g5 t5 => .inr (va_up g5 0 (g5 0 + 1), t5)) := by
                rw [rd_r_go c9 hn2 hn hh ht_t3]; unfold rd_r2
                exact (rd_bd_r hR_t4).trans ((rd_bd_r hR_t5).trans (rd_bd_r hR_t6))
              have hL108 : ∀ (fu : Nat) (k : Nat) (F8 : Nat → Int32) (t8 : Nat) (g8 : Nat → Nat) (σ_67 : Nat → va_E), (σ_67 292 = q_an G 600 f) → (σ_67 279 = o11 G F8) → (σ_67 280 = q_an G 265 g8) → (∀ i : Nat, i ≠ 279 ∧ i ≠ 280 → σ_67 i = σ i) → (F8 26 = nI (tk_be f m t8)) → (F8 27 = nI t8) → (F8 28 = nI (tk_vl f m t8)) → (F8 30 = nI (tk_kd f m t8)) → (∀ j : Nat, j ≠ 26 ∧ j ≠ 27 ∧ j ≠ 28 ∧ j ≠ 30 ∧ j ≠ 31 → F8 j = F_t6 j) → (t8 ≤ m) → (t ≤ t8) → (rw_ok (g 0) g8) → (rw_sm (g 0) g g8) → (5 ≤ k + s_rule g8 (g 0) 20) → (rd_bL f m (g 0) k g8 t8 = rd_bL f m (g 0) 5 g6 t6) → k < fu → AJ G K Q 0 0 ex n 108 [some (.ref (q_h G + 279)), some (.int (nI (g 0)))] [] σ_67 := by
                intro fu
                induction fu with
                | zero => intro k F8 t8 g8 σ_67 hc_68 hc_69 hc_70 hf_71 h8_26 h8_27 h8_28 h8_30 hfr8 htm_t8 hge8 hok8 hsm8 hmy hpu hm; exact absurd hm (Nat.not_lt_zero _)
                | succ fu ih108 =>
                  intro k F8 t8 g8 σ_67 hc_68 hc_69 hc_70 hf_71 h8_26 h8_27 h8_28 h8_30 hfr8 htm_t8 hge8 hok8 hsm8 hmy hpu hm108
                  have hw8 := hok8.1.2.2.2.2.1
                  obtain ⟨k, rfl⟩ : ∃ j, k = j + 1 := ⟨k - 1, by omega⟩
                  refine A_aload_n hg dX11_readRule_108 rfl rfl ?_
                  refine A_ldcwS hg (sc_RX11_345 hg.2.2.2.2.2.2.1.1).1 dX11_readRule_109 ?_
                  refine A_eV (kc2 := 0) (ks2 := 0) (As := [.ref (q_sa G RX11 345)]) (rest := []) hg lk_RX11_312 in_X11_isWord se_X11_isWord rfl dX11_readRule_112 ⟨by decide, by decide⟩ rfl rfl ⟨by decide, by decide⟩ hc_69 (by omega) rfl rfl (Nat.le_of_ble_eq_true rfl) (c_X11_isWord G ex n σ_67 F8 f m t8 (q_sa G RX11 345) ([98, 97, 114]) hc_69 hc_68 (by omega) ((hfr8 21 (by decide)).trans ((hfr_t6 21 (by decide)).trans ((hfr_t5 21 (by decide)).trans ((hfr_t4 21 (by decide)).trans ((hfr_t3 21 (by decide)).trans ((hfr_t2 21 (by decide)).trans hF21)))))) (by omega) hbb (by omega) ((hfr8 24 (by decide)).trans ((hfr_t6 24 (by decide)).trans ((hfr_t5 24 (by decide)).trans ((hfr_t4 24 (by decide)).trans ((hfr_t3 24 (by decide)).trans ((hfr_t2 24 (by decide)).trans hF24)))))) h8_26 h8_27 h8_28 h8_30 ((sc_RX11_345 hg.2.2.2.2.2.2.1.1).2)) ?_
                  refine A_if_eqB (tgt := 128) hg dX11_readRule_115 (by decide) (fun c115 => ?_) (fun c115 => ?_)
                  · skip
                    refine A_aload_n hg dX11_readRule_128 rfl rfl ?_
                    refine A_getf (v := .ref (q_h G + 280)) hg fl_RX11_7 dX11_readRule_129 hc_69 (by omega) rfl ?_
                    refine A_iconst (v := (nI (0))) hg dX11_readRule_132 (by decide) ?_
                    refine A_dup2 hg dX11_readRule_133 rfl rfl ?_
                    refine A_iald (j := 0) hg dX11_readRule_134 hc_70 (by omega) (by omega) (by decide) ?_
                    refine A_iconst (v := (nI (1))) hg dX11_readRule_135 (by decide) ?_
                    refine A_iaddN hg dX11_readRule_136 ?_
                    refine A_iast (j := 0) (x := ((g8 0) + 1)) hg dX11_readRule_137 hc_70 (by omega) (by omega) (by decide) (fun σ_72 hc_73 hf_74 => ?_)
                    have hc_75 : σ_72 292 = q_an G 600 f := (hf_74 _ (by omega)).trans hc_68
                    have hc_76 : σ_72 279 = o11 G F8 := (hf_74 _ (by omega)).trans hc_69
                    refine A_iconst (v := (nI (1))) hg dX11_readRule_138 (by decide) ?_
                    rw [hQ]
                    exact A_zreturn hg (by decide) (by decide) rfl rfl dX11_readRule_139 ⟨rfl, Or.inr ((⟨F8, t8, (va_up g8 0 ((g8 0) + 1)), rfl, (hRR.trans (rd_bd_r (hpu.symm.trans (rd_bL_n (by rw [c115]; decide))))), htm_t8, (by omega), (fun j hj => ((hfr8 j (by omega)).trans ((hfr_t6 j (by omega)).trans ((hfr_t5 j (by omega)).trans ((hfr_t4 j (by omega)).trans ((hfr_t3 j (by omega)).trans (hfr_t2 j (by omega)))))))), h8_26, h8_27, h8_28, h8_30, hc_76, hc_73, (fun i hi => ((hf_74 i (by omega)).trans (hf_71 i (by omega))))⟩))⟩
                  · skip
                    refine A_aload_n hg dX11_readRule_118 rfl rfl ?_
                    refine A_iload_n hg dX11_readRule_119 rfl rfl ?_
                    refine A_hV (kc2 := 0) (ks2 := 0) (As := [.int (nI (g 0))]) (rest := []) hg lk_RX11_347 in_X11_readBar se_X11_readBar rfl dX11_readRule_120 ⟨by decide, by decide⟩ rfl rfl ⟨by decide, by decide⟩ hc_69 (by omega) rfl rfl (Nat.le_of_ble_eq_true rfl) (c_X11_readBar G ex n σ_67 F8 g8 f m t8 (g 0) hc_69 hc_68 hc_70 (by omega) ((hfr8 21 (by decide)).trans ((hfr_t6 21 (by decide)).trans ((hfr_t5 21 (by decide)).trans ((hfr_t4 21 (by decide)).trans ((hfr_t3 21 (by decide)).trans ((hfr_t2 21 (by decide)).trans hF21)))))) (by omega) hbb (by omega) ((hfr8 24 (by decide)).trans ((hfr_t6 24 (by decide)).trans ((hfr_t5 24 (by decide)).trans ((hfr_t4 24 (by decide)).trans ((hfr_t3 24 (by decide)).trans ((hfr_t2 24 (by decide)).trans hF24)))))) h8_26 h8_27 h8_28 h8_30 (by omega) hok8) ?_
                    rintro _ σ_83 (⟨F_t9, g9, c_t9, o_t9, rfl, hR_t9, hc0_t9, hfr_t9, h24_t9, h25_t9, hc_77, hc_78, hf_79⟩ | ⟨F_t9, t9, g9, rfl, hR_t9, htm_t9, hge_t9, hfr_t9, h26_t9, h27_t9, h28_t9, h30_t9, hc_80, hc_81, hf_82⟩)
                    · skip
                      refine (?_ : AJ G K Q 0 0 ex n 123 [some (.ref (q_h G + 279)), some (.int (nI (g 0)))] [.int (nI (0))] σ_83)
                      have hc_84 : σ_83 292 = q_an G 600 f := (hf_79 _ (by omega)).trans hc_68
                      refine A_if_neN (tgt := 108) hg dX11_readRule_123 (by decide) (by decide) (fun c123 => absurd (by decide) c123) (fun c123 => ?_)
                      refine A_iconst (v := (nI (0))) hg dX11_readRule_126 (by decide) ?_
                      rw [hQ]
                      exact A_zreturn hg (by decide) (by decide) rfl rfl dX11_readRule_127 ⟨rfl, Or.inl (⟨F_t9, g9, c_t9, o_t9, rfl, (hRR.trans (rd_bd_l (hpu.symm.trans (rd_bL_e c115 hR_t9)))), hc0_t9, (fun j hj => ((hfr_t9 j (by omega)).trans ((hfr8 j (by omega)).trans ((hfr_t6 j (by omega)).trans ((hfr_t5 j (by omega)).trans ((hfr_t4 j (by omega)).trans ((hfr_t3 j (by omega)).trans (hfr_t2 j (by omega))))))))), h24_t9, h25_t9, hc_77, hc_78, (fun i hi => ((hf_79 i (by omega)).trans (hf_71 i (by omega))))⟩)⟩
                    · skip
                      refine (?_ : AJ G K Q 0 0 ex n 123 [some (.ref (q_h G + 279)), some (.int (nI (g 0)))] [.int (nI (1))] σ_83)
                      have hc_85 : σ_83 292 = q_an G 600 f := (hf_82 _ (by omega)).trans hc_68
                      refine A_if_neN (tgt := 108) hg dX11_readRule_123 (by decide) (by decide) (fun c123 => ?_) (fun c123 => absurd c123 (by decide))
                      exact ih108 k F_t9 t9 g9 σ_83 hc_85 hc_80 hc_81 (fun i hi => ((hf_82 i (by omega)).trans (hf_71 i (by omega)))) h26_t9 h27_t9 h28_t9 h30_t9 (fun j hj => (hfr_t9 j (by omega)).trans (hfr8 j hj)) htm_t9 (by omega) ((rd_b_wf hok8 hR_t9).1) (rw_sm_trans hsm8 (rd_b_wf hok8 hR_t9).2.1) (by have := (rd_b_wf hok8 hR_t9).2.2; omega) ((rd_bL_s c115 hR_t9).symm.trans hpu) (by omega)
              exact hL108 _ 5 F_t6 t6 g6 σ_64 hc_66 hc_61 hc_62 (fun i hi => ((hf_63 i (by omega)).trans ((hf_54 i (by omega)).trans ((hf_45 i (by omega)).trans ((hf_37 i (by omega)).trans ((hf_31 i (by omega)).trans ((hf_26 i (by omega)).trans ((hf_22 i (by omega)).trans (hf_2 i (by omega)))))))))) h26_t6 h27_t6 h28_t6 h30_t6 (fun _ _ => rfl) htm_t6 (by omega) hk6.1 hsm (Nat.le_add_right _ _) rfl (Nat.lt_succ_self _)
  · skip
    refine A_aload_n hg dX11_readRule_12 rfl rfl ?_
    refine A_iconst (v := (nI (5))) hg dX11_readRule_13 (by decide) ?_
    refine A_hV (kc2 := 0) (ks2 := 0) (As := [.int (nI (5))]) (rest := []) hg lk_RX11_292 in_X11_failsAt se_X11_failsAt rfl dX11_readRule_14 ⟨by decide, by decide⟩ rfl rfl ⟨by decide, by decide⟩ hc0 (by omega) rfl rfl (Nat.le_of_ble_eq_true rfl) (c_X11_failsAt G ex n σ F t 5 hc0 (by omega) hF24 hF27) ?_
    rintro _ σ_88 ⟨rfl, hc_86, hf_87⟩
    refine (?_ : AJ G K Q 0 0 ex n 17 [some (.ref (q_h G + 279)), some (.int (nI (g 0)))] [.int (nI (0))] σ_88)
    have hc_86 : σ_88 279 = o11 G (upd (upd F 24 (nI (5))) 25 (nI (t))) := hc_86
    have hc_89 : σ_88 292 = q_an G 600 f := (hf_87 _ (by omega)).trans hc1
    have hc_90 : σ_88 280 = q_an G 265 g := (hf_87 _ (by omega)).trans hc2
    rw [hQ]
    exact A_zreturn hg (by decide) (by decide) rfl rfl dX11_readRule_17 ⟨rfl, Or.inl (⟨(upd (upd F 24 (nI (5))) 25 (nI (t))), g, 5, t, rfl, (by unfold rd_r; rw [if_pos c9]), (by decide), (fun j hj => ((q_upn (by omega)).trans (q_upn (by omega)))), rfl, rfl, hc_86, hc_90, (fun i hi => (hf_87 i (by omega)))⟩)⟩
end
