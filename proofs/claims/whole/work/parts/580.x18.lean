section
set_option maxRecDepth 100000 in
set_option maxHeartbeats 4000000 in
theorem c_X3_readBars (G : GL) (ex : Bool) (n : Nat) (σ : Nat → va_E) (f : Nat → Nat) (m : Nat) (t : Nat) (nu : Int32) (ft : Nat) (rb : Nat) (nm : Nat) (on : Nat) (bm : Nat → Nat) (g : Nat → Nat) (r : Nat) (hc0 : σ 2 = o3 G (2) (nI (ft)) (nI (0)) (q_d (0))) (hc1 : σ 3 = o9 G (1) (nI (m)) (nI (x_kd f m t)) (nI (t)) (nI (tk_be f m t)) (nu)) (hc2 : σ 1 = q_an G 600 f) (hc3 : σ rb = o7 G (rb) (lN (nm)) (lN (on)) (nI ((s_rule g r) 18)) (nI ((s_rule g r) 19)) (nI ((s_rule g r) 20))) (hc4 : σ (rb + 1) = q_an G 5 bm) (hn9 : 279 ≤ n) (hm6 : m ≤ 600) (hbb : ∀ k : Nat, s_byte f m k ≤ 256) (ht9 : t ≤ m) (hnu : tk_kd f m t = 2 → nu = nI (tk_vl f m t)) (hrbx : 15 ≤ rb ∧ rb + 1 ≤ 22) (hok : rw_ok r g) (hon : x_on (s_rule g r) on) (hbm : x_bm (s_rule g r) bm) (h20 : s_rule g r 20 = 0) : Ct G yX3_readBars cX3_readBars 5 (some .boolean) ⟨5, 0, 0, 107⟩ [.ref (q_h G + 2), .ref (q_h G + rb)] ex n σ (fun v9 σ2 => (∃ (c : Nat), ∃ (o : Nat), ∃ (kd2 : Int32), ∃ (st2 : Int32), ∃ (be2 : Int32), ∃ (nu2 : Int32), ∃ (sl2 : Nat), ∃ (mo2 : Nat), ∃ (nb2 : Nat), ∃ (bm2 : Nat → Nat), v9 = some (.int (nI (0))) ∧ (rd_bL f m r 5 g t = .inl (c, o)) ∧ (¬ c = 0) ∧ σ2 2 = o3 G (2) (nI (ft)) (nI (c)) (nI (o)) ∧ σ2 3 = o9 G (1) (nI (m)) (kd2) (st2) (be2) (nu2) ∧ σ2 rb = o7 G (rb) (lN (nm)) (lN (on)) (nI (sl2)) (nI (mo2)) (nI (nb2)) ∧ σ2 (rb + 1) = q_an G 5 bm2 ∧ (∀ i : Nat, i ≠ 2 ∧ i ≠ 3 ∧ i ≠ rb ∧ i ≠ rb + 1 → σ2 i = σ i)) ∨ (∃ (g' : Nat → Nat), ∃ (t2 : Nat), ∃ (nu2 : Int32), ∃ (bm2 : Nat → Nat), v9 = some (.int (nI (1))) ∧ (rd_bL f m r 5 g t = .inr (g', t2)) ∧ (x_bm (s_rule g' r) bm2) ∧ (∀ j : Nat, j < 20 → s_rule g' r j = s_rule g r j) ∧ (t2 ≤ m) ∧ (tk_kd f m t2 = 2 → nu2 = nI (tk_vl f m t2)) ∧ σ2 3 = o9 G (1) (nI (m)) (nI (x_kd f m t2)) (nI (t2)) (nI (tk_be f m t2)) (nu2) ∧ σ2 rb = o7 G (rb) (lN (nm)) (lN (on)) (nI ((s_rule g' r) 18)) (nI ((s_rule g' r) 19)) (nI ((s_rule g' r) 20)) ∧ σ2 (rb + 1) = q_an G 5 bm2 ∧ (∀ i : Nat, i ≠ 3 ∧ i ≠ rb ∧ i ≠ rb + 1 → σ2 i = σ i))) := by
  refine q_enter [some (.ref (q_h G + 2)), some (.ref (q_h G + rb)), none, none, none] (by decide) (Nat.le_of_ble_eq_true rfl) rfl ?_
  intro K hg
  obtain ⟨Q, hQ⟩ : ∃ Q, Q = q_Q G K ex n 0 0 (fun v9 n' σ' => n' = n ∧ (fun v9 σ2 => (∃ (c : Nat), ∃ (o : Nat), ∃ (kd2 : Int32), ∃ (st2 : Int32), ∃ (be2 : Int32), ∃ (nu2 : Int32), ∃ (sl2 : Nat), ∃ (mo2 : Nat), ∃ (nb2 : Nat), ∃ (bm2 : Nat → Nat), v9 = some (.int (nI (0))) ∧ (rd_bL f m r 5 g t = .inl (c, o)) ∧ (¬ c = 0) ∧ σ2 2 = o3 G (2) (nI (ft)) (nI (c)) (nI (o)) ∧ σ2 3 = o9 G (1) (nI (m)) (kd2) (st2) (be2) (nu2) ∧ σ2 rb = o7 G (rb) (lN (nm)) (lN (on)) (nI (sl2)) (nI (mo2)) (nI (nb2)) ∧ σ2 (rb + 1) = q_an G 5 bm2 ∧ (∀ i : Nat, i ≠ 2 ∧ i ≠ 3 ∧ i ≠ rb ∧ i ≠ rb + 1 → σ2 i = σ i)) ∨ (∃ (g' : Nat → Nat), ∃ (t2 : Nat), ∃ (nu2 : Int32), ∃ (bm2 : Nat → Nat), v9 = some (.int (nI (1))) ∧ (rd_bL f m r 5 g t = .inr (g', t2)) ∧ (x_bm (s_rule g' r) bm2) ∧ (∀ j : Nat, j < 20 → s_rule g' r j = s_rule g r j) ∧ (t2 ≤ m) ∧ (tk_kd f m t2 = 2 → nu2 = nI (tk_vl f m t2)) ∧ σ2 3 = o9 G (1) (nI (m)) (nI (x_kd f m t2)) (nI (t2)) (nI (tk_be f m t2)) (nu2) ∧ σ2 rb = o7 G (rb) (lN (nm)) (lN (on)) (nI ((s_rule g' r) 18)) (nI ((s_rule g' r) 19)) (nI ((s_rule g' r) 20)) ∧ σ2 (rb + 1) = q_an G 5 bm2 ∧ (∀ i : Nat, i ≠ 3 ∧ i ≠ rb ∧ i ≠ rb + 1 → σ2 i = σ i))) v9 σ') q_noX := ⟨_, rfl⟩
  refine (?_ : AJ G K (q_Q G K ex n 0 0 _ _) 0 0 ex n 0 _ _ σ)
  rw [← hQ]
  have hbe := tk_be_le (f := f) ht9
  have hbg := tk_be_ge (f := f) (m := m) (t := t)
  have hkl := x_kd_lt f m t
  refine A_iconst (v := (nI (0))) hg dX3_readBars_0 (by decide) ?_
  refine A_istore_n hg dX3_readBars_1 rfl (by decide) (q_c1d rfl) ?_
  refine A_eq (ls2 := [some (.ref (q_h G + 2)), some (.ref (q_h G + rb)), some (.int (nI (0))), none, none]) (st2 := []) (pc2 := 0) rfl rfl ?_
  have hL2 : ∀ (fu : Nat) (i : Nat) (g1 : Nat → Nat) (t1 : Nat) (nu1 : Int32) (bm1 : Nat → Nat) (σ_1 : Nat → va_E), (σ_1 2 = o3 G (2) (nI (ft)) (nI (0)) (q_d (0))) → (σ_1 3 = o9 G (1) (nI (m)) (nI (x_kd f m t1)) (nI (t1)) (nI (tk_be f m t1)) (nu1)) → (σ_1 1 = q_an G 600 f) → (σ_1 rb = o7 G (rb) (lN (nm)) (lN (on)) (nI ((s_rule g1 r) 18)) (nI ((s_rule g1 r) 19)) (nI ((s_rule g1 r) 20))) → (σ_1 (rb + 1) = q_an G 5 bm1) → (∀ i : Nat, i ≠ 3 ∧ i ≠ rb ∧ i ≠ rb + 1 → σ_1 i = σ i) → (i ≤ 4) → (rd_bL f m r 5 g t = rd_bL f m r (5 - i) g1 t1) → (rw_ok r g1) → (x_on (s_rule g1 r) on) → (x_bm (s_rule g1 r) bm1) → (s_rule g1 r 20 = i) → (∀ j : Nat, j < 20 → s_rule g1 r j = s_rule g r j) → (t1 ≤ m) → (tk_kd f m t1 = 2 → nu1 = nI (tk_vl f m t1)) → (5 - i) < fu → AJ G K Q 0 0 ex n 2 [some (.ref (q_h G + 2)), some (.ref (q_h G + rb)), some (.int (nI (i))), none, none] [] σ_1 := by
    intro fu
    induction fu with
    | zero => intro i g1 t1 nu1 bm1 σ_1 hc_2 hc_3 hc_4 hc_5 hc_6 hf_7 hi hRL hok1 hon1 hbm1 hi20 hsm1 htm1 hnu1 hm; exact absurd hm (Nat.not_lt_zero _)
    | succ fu ih2 =>
      intro i g1 t1 nu1 bm1 σ_1 hc_2 hc_3 hc_4 hc_5 hc_6 hf_7 hi hRL hok1 hon1 hbm1 hi20 hsm1 htm1 hnu1 hm2
      have hbe1 := tk_be_le (f := f) htm1
      refine A_iload_n hg dX3_readBars_2 rfl rfl ?_
      refine A_iconst (v := (nI (4))) hg dX3_readBars_3 (by decide) ?_
      refine A_icmp_gtN (tgt := 128) hg dX3_readBars_4 (by omega) (by decide) (by decide) (fun c4 => absurd c4 (by omega)) (fun c4 => ?_)
      refine A_aload_n hg dX3_readBars_7 rfl rfl ?_
      refine A_getf (v := .ref (q_h G + 3)) hg fl_RX3_12 dX3_readBars_8 hc_2 (by omega) rfl ?_
      refine A_ldcS hg (sc_RX3_149 hg.2.2.2.2.2.2.1.1).1 dX3_readBars_11 ?_
      refine A_eV (kc2 := 0) (ks2 := 0) (As := [.ref (q_sa G RX3 149)]) (rest := []) hg lk_RX3_48 in_X9_isWord se_X9_isWord rfl dX3_readBars_13 ⟨by decide, by decide⟩ rfl rfl ⟨by decide, by decide⟩ hc_3 (by omega) rfl rfl (Nat.le_of_ble_eq_true rfl) (c_X9_isWord G ex n σ_1 f m t1 nu1 (q_sa G RX3 149) ([98, 97, 114]) hc_3 hc_4 (by omega) hm6 hbb htm1 ((sc_RX3_149 hg.2.2.2.2.2.2.1.1).2)) ?_
      refine A_if_eqB (tgt := 128) hg dX3_readBars_16 (by decide) (fun c16 => ?_) (fun c16 => ?_)
      · skip
        refine A_iconst (v := (nI (1))) hg dX3_readBars_128 (by decide) ?_
        rw [hQ]
        exact A_zreturn hg (by decide) (by decide) rfl rfl dX3_readBars_129 ⟨rfl, Or.inr ((⟨g1, t1, nu1, bm1, rfl, (by rw [hRL]; exact rd_bL_n (by rw [c16]; decide)), hbm1, hsm1, htm1, hnu1, hc_3, hc_5, hc_6, (fun i hi => (hf_7 i (by omega)))⟩))⟩
      · skip
        refine A_aload_n hg dX3_readBars_19 rfl rfl ?_
        refine A_getf (v := .int (nI ((s_rule g1 r) 20))) hg fl_RX3_151 dX3_readBars_20 hc_5 (by omega) rfl ?_
        refine A_iconst (v := (nI (4))) hg dX3_readBars_23 (by decide) ?_
        refine A_icmp_ltN (tgt := 33) hg dX3_readBars_24 (by omega) (by decide) (by decide) (fun c24 => ?_) (fun c24 => ?_)
        · skip
          refine A_aload_n hg dX3_readBars_33 rfl rfl ?_
          refine A_getf (v := .ref (q_h G + 3)) hg fl_RX3_12 dX3_readBars_34 hc_2 (by omega) rfl ?_
          refine A_vV (kc2 := 0) (ks2 := 0) (As := []) (rest := []) hg lk_RX3_84 in_X9_advance se_X9_advance rfl dX3_readBars_37 ⟨by decide, by decide⟩ rfl rfl ⟨by decide, by decide⟩ hc_3 (by omega) rfl rfl (Nat.le_of_ble_eq_true rfl) (c_X9_advance G ex n σ_1 f m (nI (x_kd f m t1)) (nI (t1)) (tk_be f m t1) nu1 hc_3 hc_4 (by omega) hm6 hbb (by omega)) ?_
          rintro σ_10 ⟨t2, nu3, ht2, hnu2, hc_8, hf_9⟩
          have hc_11 : σ_10 2 = o3 G (2) (nI (ft)) (nI (0)) (q_d (0)) := (hf_9 _ (by omega)).trans hc_2
          have hc_12 : σ_10 1 = q_an G 600 f := (hf_9 _ (by omega)).trans hc_4
          have hc_13 : σ_10 rb = o7 G (rb) (lN (nm)) (lN (on)) (nI ((s_rule g1 r) 18)) (nI ((s_rule g1 r) 19)) (nI ((s_rule g1 r) 20)) := (hf_9 _ (by omega)).trans hc_5
          have hc_14 : σ_10 (rb + 1) = q_an G 5 bm1 := (hf_9 _ (by omega)).trans hc_6
          have htm2 : t2 ≤ m := by rw [ht2]; exact tk_nx_le htm1
          refine A_aload_n hg dX3_readBars_40 rfl rfl ?_
          refine A_iconst (v := (nI (0))) hg dX3_readBars_41 (by decide) ?_
          refine A_bipush (v := (nI (40))) hg dX3_readBars_42 (by decide) ?_
          refine A_hV (kc2 := 0) (ks2 := 0) (As := [.int (nI (0)), .int (nI (40))]) (rest := []) hg lk_RX3_139 in_X3_readNumber se_X3_readNumber rfl dX3_readBars_44 ⟨by decide, by decide⟩ rfl rfl ⟨by decide, by decide⟩ hc_11 (by omega) rfl rfl (Nat.le_of_ble_eq_true rfl) (c_X3_readNumber G ex n σ_10 f m t2 nu3 ft 0 40 hc_11 hc_8 hc_12 (by omega) hm6 hbb htm2 hnu2 (by omega) (by omega)) ?_
          rintro _ σ_19 (⟨rfl, hnc9, hc_15, hf_16⟩ | ⟨t3, nu4, rfl, hnc9, ht3, htm3, hnu4, hc_17, hf_18⟩)
          · skip
            refine (?_ : AJ G K Q 0 0 ex n 47 [some (.ref (q_h G + 2)), some (.ref (q_h G + rb)), some (.int (nI (i))), none, none] [.int (nI (0))] σ_19)
            have hc_20 : σ_19 1 = q_an G 600 f := (hf_16 _ (by omega)).trans hc_12
            have hc_21 : σ_19 rb = o7 G (rb) (lN (nm)) (lN (on)) (nI ((s_rule g1 r) 18)) (nI ((s_rule g1 r) 19)) (nI ((s_rule g1 r) 20)) := (hf_16 _ (by omega)).trans hc_13
            have hc_22 : σ_19 (rb + 1) = q_an G 5 bm1 := (hf_16 _ (by omega)).trans hc_14
            have hc_23 : σ_19 3 = o9 G (1) (nI (m)) (nI (x_kd f m t2)) (nI (t2)) (nI (tk_be f m t2)) (nu3) := (hf_16 _ (by omega)).trans hc_8
            refine A_istore_n hg dX3_readBars_47 rfl (by decide) (q_c1d rfl) ?_
            refine A_eq (ls2 := [some (.ref (q_h G + 2)), some (.ref (q_h G + rb)), some (.int (nI (i))), some (.int (nI (0))), none]) (st2 := []) (pc2 := 0) rfl rfl ?_
            refine A_aload_n hg dX3_readBars_48 rfl rfl ?_
            refine A_getf (v := .int (nI (tk_nc f m t2 0 40))) hg fl_RX3_29 dX3_readBars_49 hc_15 (by omega) rfl ?_
            refine A_if_neN (tgt := 65) hg dX3_readBars_52 (by have := tk_nc_lt f m t2 0 40; omega) (by decide) (fun c52 => ?_) (fun c52 => absurd c52 hnc9)
            refine A_iconst (v := (nI (0))) hg dX3_readBars_65 (by decide) ?_
            rw [hQ]
            exact A_zreturn hg (by decide) (by decide) rfl rfl dX3_readBars_66 ⟨rfl, Or.inl (⟨tk_nc f m t2 0 40, t2, (nI (x_kd f m t2)), (nI (t2)), (nI (tk_be f m t2)), (nu3), ((s_rule g1 r) 18), ((s_rule g1 r) 19), ((s_rule g1 r) 20), bm1, rfl, (by rw [hRL, show 5 - i = (4 - i) + 1 by omega, rd_bL_e c16 (rd_b_2 (by omega) ht2 hnc9)]), (by first | assumption | omega), hc_15, hc_23, hc_21, hc_22, (fun i hi => ((hf_16 i (by omega)).trans ((hf_9 i (by omega)).trans (hf_7 i (by omega)))))⟩)⟩
          · skip
            refine (?_ : AJ G K Q 0 0 ex n 47 [some (.ref (q_h G + 2)), some (.ref (q_h G + rb)), some (.int (nI (i))), none, none] [.int (nI (tk_vl f m t2))] σ_19)
            have hc_24 : σ_19 2 = o3 G (2) (nI (ft)) (nI (0)) (q_d (0)) := (hf_18 _ (by omega)).trans hc_11
            have hc_25 : σ_19 1 = q_an G 600 f := (hf_18 _ (by omega)).trans hc_12
            have hc_26 : σ_19 rb = o7 G (rb) (lN (nm)) (lN (on)) (nI ((s_rule g1 r) 18)) (nI ((s_rule g1 r) 19)) (nI ((s_rule g1 r) 20)) := (hf_18 _ (by omega)).trans hc_13
            have hc_27 : σ_19 (rb + 1) = q_an G 5 bm1 := (hf_18 _ (by omega)).trans hc_14
            refine A_istore_n hg dX3_readBars_47 rfl (by decide) (q_c1d rfl) ?_
            refine A_eq (ls2 := [some (.ref (q_h G + 2)), some (.ref (q_h G + rb)), some (.int (nI (i))), some (.int (nI (tk_vl f m t2))), none]) (st2 := []) (pc2 := 0) rfl rfl ?_
            refine A_aload_n hg dX3_readBars_48 rfl rfl ?_
            refine A_getf (v := .int (nI (0))) hg fl_RX3_29 dX3_readBars_49 hc_24 (by omega) rfl ?_
            refine A_if_neN (tgt := 65) hg dX3_readBars_52 (by decide) (by decide) (fun c52 => absurd (by decide) c52) (fun c52 => ?_)
            refine A_aload_n hg dX3_readBars_55 rfl rfl ?_
            refine A_iconst (v := (nI (0))) hg dX3_readBars_56 (by decide) ?_
            refine A_bipush (v := (nI (40))) hg dX3_readBars_57 (by decide) ?_
            refine A_hV (kc2 := 0) (ks2 := 0) (As := [.int (nI (0)), .int (nI (40))]) (rest := []) hg lk_RX3_121 in_X3_isNumber se_X3_isNumber rfl dX3_readBars_59 ⟨by decide, by decide⟩ rfl rfl ⟨by decide, by decide⟩ hc_24 (by omega) rfl rfl (Nat.le_of_ble_eq_true rfl) (c_X3_isNumber G ex n σ_19 f m t3 nu4 ft 0 40 hc_24 hc_17 hc_25 (by omega) hm6 hbb htm3 hnu4 (by omega) (by omega)) ?_
            rintro _ σ_31 (⟨rfl, hnc8, hc_28, hf_29⟩ | ⟨rfl, hnc8, hk28, he_30⟩)
            · skip
              refine (?_ : AJ G K Q 0 0 ex n 62 [some (.ref (q_h G + 2)), some (.ref (q_h G + rb)), some (.int (nI (i))), some (.int (nI (tk_vl f m t2))), none] [.int (nI (0))] σ_31)
              have hc_32 : σ_31 1 = q_an G 600 f := (hf_29 _ (by omega)).trans hc_25
              have hc_33 : σ_31 rb = o7 G (rb) (lN (nm)) (lN (on)) (nI ((s_rule g1 r) 18)) (nI ((s_rule g1 r) 19)) (nI ((s_rule g1 r) 20)) := (hf_29 _ (by omega)).trans hc_26
              have hc_34 : σ_31 (rb + 1) = q_an G 5 bm1 := (hf_29 _ (by omega)).trans hc_27
              have hc_35 : σ_31 3 = o9 G (1) (nI (m)) (nI (x_kd f m t3)) (nI (t3)) (nI (tk_be f m t3)) (nu4) := (hf_29 _ (by omega)).trans hc_17
              refine A_if_neN (tgt := 67) hg dX3_readBars_62 (by decide) (by decide) (fun c62 => absurd (by decide) c62) (fun c62 => ?_)
              refine A_iconst (v := (nI (0))) hg dX3_readBars_65 (by decide) ?_
              rw [hQ]
              exact A_zreturn hg (by decide) (by decide) rfl rfl dX3_readBars_66 ⟨rfl, Or.inl (⟨tk_nc f m t3 0 40, t3, (nI (x_kd f m t3)), (nI (t3)), (nI (tk_be f m t3)), (nu4), ((s_rule g1 r) 18), ((s_rule g1 r) 19), ((s_rule g1 r) 20), bm1, rfl, (by rw [hRL, show 5 - i = (4 - i) + 1 by omega, rd_bL_e c16 ((rd_b_3 (by omega) ht2 hnc9 ht3).trans (by rw [rd_b2_1 (by rw [x_nc_k hnc8]; exact hnc8), x_nc_k hnc8]))]), (by first | assumption | omega), hc_28, hc_35, hc_33, hc_34, (fun i hi => ((hf_29 i (by omega)).trans ((hf_18 i (by omega)).trans ((hf_9 i (by omega)).trans (hf_7 i (by omega))))))⟩)⟩
            · skip
              rw [he_30]
              refine (?_ : AJ G K Q 0 0 ex n 62 [some (.ref (q_h G + 2)), some (.ref (q_h G + rb)), some (.int (nI (i))), some (.int (nI (tk_vl f m t2))), none] [.int (nI (1))] σ_19)
              refine A_if_neN (tgt := 67) hg dX3_readBars_62 (by decide) (by decide) (fun c62 => ?_) (fun c62 => absurd c62 (by decide))
              refine A_aload_n hg dX3_readBars_67 rfl rfl ?_
              refine A_getf (v := .ref (q_h G + 3)) hg fl_RX3_12 dX3_readBars_68 hc_24 (by omega) rfl ?_
              refine A_getf (v := .int (nu4)) hg fl_RX3_125 dX3_readBars_71 hc_17 (by omega) rfl ?_
              refine A_top (w := .int (nI (tk_vl f m t3))) (congrArg Value.int (hnu4 hk28)) ?_
              have hv2 := tk_nc_v hnc9
              have hv3 := tk_nc_v hnc8
              refine A_istore hg dX3_readBars_74 (by decide) (q_c1d rfl) ?_
              refine A_eq (ls2 := [some (.ref (q_h G + 2)), some (.ref (q_h G + rb)), some (.int (nI (i))), some (.int (nI (tk_vl f m t2))), some (.int (nI (tk_vl f m t3)))]) (st2 := []) (pc2 := 0) rfl rfl ?_
              refine A_iload_n hg dX3_readBars_76 rfl rfl ?_
              refine A_if_neN (tgt := 91) hg dX3_readBars_77 (Nat.lt_of_lt_of_le (tk_vl_lt f m t2) (by decide)) (by decide) (fun c77 => ?_) (fun c77 => ?_)
              · skip
                have hkl : tk_nc f m t3 (if tk_vl f m t2 = 0 then 1 else 0) 40 = 0 := x_nc_kl hnc8 (by first | exact Or.inl c77 | exact Or.inr c82)
                refine A_aload_n hg dX3_readBars_91 rfl rfl ?_
                refine A_iload_n hg dX3_readBars_92 rfl rfl ?_
                refine A_iload hg dX3_readBars_93 rfl ?_
                refine A_eV (kc2 := 0) (ks2 := 0) (As := [.int (nI (tk_vl f m t2)), .int (nI (tk_vl f m t3))]) (rest := []) hg lk_RX3_154 in_X7_isBarred se_X7_isBarred rfl dX3_readBars_95 ⟨by decide, by decide⟩ rfl rfl ⟨by decide, by decide⟩ hc_26 (by omega) rfl rfl (Nat.le_of_ble_eq_true rfl) (c_X7_isBarred G ex n σ_19 rb (s_rule g1 r) nm on bm1 (tk_vl f m t2) (tk_vl f m t3) hc_26 hc_27 (by omega) (x_w_of hok1.1) hon1 hbm1 (by omega) (by omega)) ?_
                refine A_if_eqB (tgt := 107) hg dX3_readBars_98 (by decide) (fun c98 => ?_) (fun c98 => ?_)
                · skip
                  refine A_aload_n hg dX3_readBars_107 rfl rfl ?_
                  refine A_iload_n hg dX3_readBars_108 rfl rfl ?_
                  refine A_iload hg dX3_readBars_109 rfl ?_
                  refine A_iconst (v := (nI (1))) hg dX3_readBars_111 (by decide) ?_
                  refine A_hV (kc2 := 0) (ks2 := 0) (As := [.int (nI (tk_vl f m t2)), .int (nI (tk_vl f m t3)), .int (nI (1))]) (rest := []) hg lk_RX3_157 in_X7_setBarred se_X7_setBarred rfl dX3_readBars_112 ⟨by decide, by decide⟩ rfl rfl ⟨by decide, by decide⟩ hc_26 (by omega) rfl rfl (Nat.le_of_ble_eq_true rfl) (c_X7_setBarred G ex n σ_19 rb (s_rule g1 r) nm on bm1 (tk_vl f m t2) (tk_vl f m t3) true hc_26 hc_27 (by omega) (x_w_of hok1.1) hon1 hbm1 (by omega) (by omega)) ?_
                  rintro _ σ_43 (⟨rfl, hh9, he_36⟩ | ⟨rfl, hs9, hb9, h59, hc_37, hc_38, hf_39⟩ | ⟨rfl, hs9, hb9, hc_40, hc_41, hf_42⟩)
                  · skip
                    rw [he_36]
                    refine (?_ : AJ G K Q 0 0 ex n 115 [some (.ref (q_h G + 2)), some (.ref (q_h G + rb)), some (.int (nI (i))), some (.int (nI (tk_vl f m t2))), some (.int (nI (tk_vl f m t3)))] [] σ_19)
                    exfalso
                    rcases hh9 with ⟨-, h | h⟩ | ⟨h, -⟩
                    · rw [c98] at h; cases h
                    · omega
                    · cases h
                  · skip
                    refine (?_ : AJ G K Q 0 0 ex n 115 [some (.ref (q_h G + 2)), some (.ref (q_h G + rb)), some (.int (nI (i))), some (.int (nI (tk_vl f m t2))), some (.int (nI (tk_vl f m t3)))] [] σ_43)
                    have hc_44 : σ_43 2 = o3 G (2) (nI (ft)) (nI (0)) (q_d (0)) := (hf_39 _ (by omega)).trans hc_24
                    have hc_45 : σ_43 1 = q_an G 600 f := (hf_39 _ (by omega)).trans hc_25
                    have hc_46 : σ_43 3 = o9 G (1) (nI (m)) (nI (x_kd f m t3)) (nI (t3)) (nI (tk_be f m t3)) (nu4) := (hf_39 _ (by omega)).trans hc_17
                    have e18 : s_rule (s_addBr g1 r (tk_vl f m t2) (tk_vl f m t3)) r 18 = s_rule g1 r 18 := by rw [s_addBr_at g1 r _ _ 18 (by omega) (by omega), if_neg (by omega), if_neg (by omega), if_neg (by omega)]
                    have e19 : s_rule (s_addBr g1 r (tk_vl f m t2) (tk_vl f m t3)) r 19 = s_rule g1 r 19 := by rw [s_addBr_at g1 r _ _ 19 (by omega) (by omega), if_neg (by omega), if_neg (by omega), if_neg (by omega)]
                    have e20 : s_rule (s_addBr g1 r (tk_vl f m t2) (tk_vl f m t3)) r 20 = s_rule g1 r 20 + 1 := by rw [s_addBr_at g1 r _ _ 20 (by omega) (by omega)]; rfl
                    have hc_47 : σ_43 rb = o7 G (rb) (lN (nm)) (lN (on)) (nI ((s_rule (s_addBr g1 r (tk_vl f m t2) (tk_vl f m t3)) r) 18)) (nI ((s_rule (s_addBr g1 r (tk_vl f m t2) (tk_vl f m t3)) r) 19)) (nI ((s_rule (s_addBr g1 r (tk_vl f m t2) (tk_vl f m t3)) r) 20)) := hc_37.trans (by rw [e18, e19, e20])
                    have hbe3 := tk_be_le (f := f) htm3
                    refine A_aload_n hg dX3_readBars_115 rfl rfl ?_
                    refine A_getf (v := .ref (q_h G + 3)) hg fl_RX3_12 dX3_readBars_116 hc_44 (by omega) rfl ?_
                    refine A_vV (kc2 := 0) (ks2 := 0) (As := []) (rest := []) hg lk_RX3_84 in_X9_advance se_X9_advance rfl dX3_readBars_119 ⟨by decide, by decide⟩ rfl rfl ⟨by decide, by decide⟩ hc_46 (by omega) rfl rfl (Nat.le_of_ble_eq_true rfl) (c_X9_advance G ex n σ_43 f m (nI (x_kd f m t3)) (nI (t3)) (tk_be f m t3) nu4 hc_46 hc_45 (by omega) hm6 hbb (by omega)) ?_
                    rintro σ_50 ⟨t4, nu5, ht4, hnu5, hc_48, hf_49⟩
                    have hc_51 : σ_50 2 = o3 G (2) (nI (ft)) (nI (0)) (q_d (0)) := (hf_49 _ (by omega)).trans hc_44
                    have hc_52 : σ_50 1 = q_an G 600 f := (hf_49 _ (by omega)).trans hc_45
                    have hc_53 : σ_50 (rb + 1) = q_an G 5 (va_up bm1 ((s_rule g1 r) 20) ((tk_vl f m t2) * 41 + (tk_vl f m t3))) := (hf_49 _ (by omega)).trans hc_38
                    have hc_54 : σ_50 rb = o7 G (rb) (lN (nm)) (lN (on)) (nI ((s_rule (s_addBr g1 r (tk_vl f m t2) (tk_vl f m t3)) r) 18)) (nI ((s_rule (s_addBr g1 r (tk_vl f m t2) (tk_vl f m t3)) r) 19)) (nI ((s_rule (s_addBr g1 r (tk_vl f m t2) (tk_vl f m t3)) r) 20)) := (hf_49 _ (by omega)).trans hc_47
                    have htm4 : t4 ≤ m := by rw [ht4]; exact tk_nx_le htm3
                    refine A_iincN (k' := 1) hg dX3_readBars_122 (by decide) rfl (by decide) (q_c1d rfl) ?_
                    refine A_eq (ls2 := [some (.ref (q_h G + 2)), some (.ref (q_h G + rb)), some (.int (nI (i + 1))), some (.int (nI (tk_vl f m t2))), some (.int (nI (tk_vl f m t3)))]) (st2 := []) (pc2 := 0) rfl rfl ?_
                    refine A_goto (tgt := 2) hg dX3_readBars_125 (by decide) ?_
                    refine A_drop 3 ?_
                    refine A_drop 4 ?_
                    exact ih2 (i + 1) (s_addBr g1 r (tk_vl f m t2) (tk_vl f m t3)) t4 nu5 (va_up bm1 ((s_rule g1 r) 20) ((tk_vl f m t2) * 41 + (tk_vl f m t3))) σ_50 hc_51 hc_48 hc_52 hc_54 hc_53 (fun i hi => ((hf_49 i (by omega)).trans ((hf_39 i (by omega)).trans ((hf_18 i (by omega)).trans ((hf_9 i (by omega)).trans (hf_7 i (by omega))))))) (by omega) (by rw [hRL, show 5 - i = (4 - i) + 1 by omega, rd_bL_s c16 ((rd_b_3 (by omega) ht2 hnc9 ht3).trans (rd_b2_3 hkl c98 ht4))]; congr 1; omega) ((s_addBr_wf hok1 (by omega) (by omega) (by omega)).1) (x_on_congr (fun j h1 h2 => by rw [s_addBr_at g1 r _ _ j (by omega) (by omega), if_neg (by omega), if_neg (by omega), if_neg (by omega)]) hok1.1.2.1 hon1) (x_bm_add (by omega) hbm1) (by rw [e20]; omega) (fun j hj => Eq.trans (by rw [s_addBr_at g1 r _ _ j (by omega) (by omega), if_neg (by omega), if_neg (by omega), if_neg (by omega)]) (hsm1 j hj)) htm4 hnu5 (by omega)
                  · skip
                    refine (?_ : AJ G K Q 0 0 ex n 115 [some (.ref (q_h G + 2)), some (.ref (q_h G + rb)), some (.int (nI (i))), some (.int (nI (tk_vl f m t2))), some (.int (nI (tk_vl f m t3)))] [] σ_43)
                    have hc_55 : σ_43 2 = o3 G (2) (nI (ft)) (nI (0)) (q_d (0)) := (hf_42 _ (by omega)).trans hc_24
                    have hc_56 : σ_43 1 = q_an G 600 f := (hf_42 _ (by omega)).trans hc_25
                    have hc_57 : σ_43 3 = o9 G (1) (nI (m)) (nI (x_kd f m t3)) (nI (t3)) (nI (tk_be f m t3)) (nu4) := (hf_42 _ (by omega)).trans hc_17
                    exact absurd hs9 (by decide)
                · skip
                  refine A_aload_n hg dX3_readBars_101 rfl rfl ?_
                  refine A_iconst (v := (nI (4))) hg dX3_readBars_102 (by decide) ?_
                  refine A_hV (kc2 := 0) (ks2 := 0) (As := [.int (nI (4))]) (rest := []) hg lk_RX3_71 in_X3_fail se_X3_fail rfl dX3_readBars_103 ⟨by decide, by decide⟩ rfl rfl ⟨by decide, by decide⟩ hc_24 (by omega) rfl rfl (Nat.le_of_ble_eq_true rfl) (c_X3_fail G ex n σ_19 m t3 (nI (x_kd f m t3)) (nI (tk_be f m t3)) nu4 ft (nI (0)) (q_d (0)) 4 hc_24 hc_17 (by omega)) ?_
                  rintro _ σ_60 ⟨rfl, hc_58, hf_59⟩
                  refine (?_ : AJ G K Q 0 0 ex n 106 [some (.ref (q_h G + 2)), some (.ref (q_h G + rb)), some (.int (nI (i))), some (.int (nI (tk_vl f m t2))), some (.int (nI (tk_vl f m t3)))] [.int (nI (0))] σ_60)
                  have hc_61 : σ_60 1 = q_an G 600 f := (hf_59 _ (by omega)).trans hc_25
                  have hc_62 : σ_60 rb = o7 G (rb) (lN (nm)) (lN (on)) (nI ((s_rule g1 r) 18)) (nI ((s_rule g1 r) 19)) (nI ((s_rule g1 r) 20)) := (hf_59 _ (by omega)).trans hc_26
                  have hc_63 : σ_60 (rb + 1) = q_an G 5 bm1 := (hf_59 _ (by omega)).trans hc_27
                  have hc_64 : σ_60 3 = o9 G (1) (nI (m)) (nI (x_kd f m t3)) (nI (t3)) (nI (tk_be f m t3)) (nu4) := (hf_59 _ (by omega)).trans hc_17
                  rw [hQ]
                  exact A_zreturn hg (by decide) (by decide) rfl rfl dX3_readBars_106 ⟨rfl, Or.inl (⟨4, t3, (nI (x_kd f m t3)), (nI (t3)), (nI (tk_be f m t3)), (nu4), ((s_rule g1 r) 18), ((s_rule g1 r) 19), ((s_rule g1 r) 20), bm1, rfl, (by rw [hRL, show 5 - i = (4 - i) + 1 by omega, rd_bL_e c16 ((rd_b_3 (by omega) ht2 hnc9 ht3).trans (rd_b2_2 hkl c98))]), (by first | assumption | omega), hc_58, hc_64, hc_62, hc_63, (fun i hi => ((hf_59 i (by omega)).trans ((hf_18 i (by omega)).trans ((hf_9 i (by omega)).trans (hf_7 i (by omega))))))⟩)⟩
              · skip
                refine A_iload hg dX3_readBars_80 rfl ?_
                refine A_if_neN (tgt := 91) hg dX3_readBars_82 (Nat.lt_of_lt_of_le (tk_vl_lt f m t3) (by decide)) (by decide) (fun c82 => ?_) (fun c82 => ?_)
                · skip
                  have hkl : tk_nc f m t3 (if tk_vl f m t2 = 0 then 1 else 0) 40 = 0 := x_nc_kl hnc8 (by first | exact Or.inl c77 | exact Or.inr c82)
                  refine A_aload_n hg dX3_readBars_91 rfl rfl ?_
                  refine A_iload_n hg dX3_readBars_92 rfl rfl ?_
                  refine A_iload hg dX3_readBars_93 rfl ?_
                  refine A_eV (kc2 := 0) (ks2 := 0) (As := [.int (nI (tk_vl f m t2)), .int (nI (tk_vl f m t3))]) (rest := []) hg lk_RX3_154 in_X7_isBarred se_X7_isBarred rfl dX3_readBars_95 ⟨by decide, by decide⟩ rfl rfl ⟨by decide, by decide⟩ hc_26 (by omega) rfl rfl (Nat.le_of_ble_eq_true rfl) (c_X7_isBarred G ex n σ_19 rb (s_rule g1 r) nm on bm1 (tk_vl f m t2) (tk_vl f m t3) hc_26 hc_27 (by omega) (x_w_of hok1.1) hon1 hbm1 (by omega) (by omega)) ?_
                  refine A_if_eqB (tgt := 107) hg dX3_readBars_98 (by decide) (fun c98 => ?_) (fun c98 => ?_)
                  · skip
                    refine A_aload_n hg dX3_readBars_107 rfl rfl ?_
                    refine A_iload_n hg dX3_readBars_108 rfl rfl ?_
                    refine A_iload hg dX3_readBars_109 rfl ?_
                    refine A_iconst (v := (nI (1))) hg dX3_readBars_111 (by decide) ?_
                    refine A_hV (kc2 := 0) (ks2 := 0) (As := [.int (nI (tk_vl f m t2)), .int (nI (tk_vl f m t3)), .int (nI (1))]) (rest := []) hg lk_RX3_157 in_X7_setBarred se_X7_setBarred rfl dX3_readBars_112 ⟨by decide, by decide⟩ rfl rfl ⟨by decide, by decide⟩ hc_26 (by omega) rfl rfl (Nat.le_of_ble_eq_true rfl) (c_X7_setBarred G ex n σ_19 rb (s_rule g1 r) nm on bm1 (tk_vl f m t2) (tk_vl f m t3) true hc_26 hc_27 (by omega) (x_w_of hok1.1) hon1 hbm1 (by omega) (by omega)) ?_
                    rintro _ σ_72 (⟨rfl, hh9, he_65⟩ | ⟨rfl, hs9, hb9, h59, hc_66, hc_67, hf_68⟩ | ⟨rfl, hs9, hb9, hc_69, hc_70, hf_71⟩)
                    · skip
                      rw [he_65]
                      refine (?_ : AJ G K Q 0 0 ex n 115 [some (.ref (q_h G + 2)), some (.ref (q_h G + rb)), some (.int (nI (i))), some (.int (nI (tk_vl f m t2))), some (.int (nI (tk_vl f m t3)))] [] σ_19)
                      exfalso
                      rcases hh9 with ⟨-, h | h⟩ | ⟨h, -⟩
                      · rw [c98] at h; cases h
                      · omega
                      · cases h
                    · skip
                      refine (?_ : AJ G K Q 0 0 ex n 115 [some (.ref (q_h G + 2)), some (.ref (q_h G + rb)), some (.int (nI (i))), some (.int (nI (tk_vl f m t2))), some (.int (nI (tk_vl f m t3)))] [] σ_72)
                      have hc_73 : σ_72 2 = o3 G (2) (nI (ft)) (nI (0)) (q_d (0)) := (hf_68 _ (by omega)).trans hc_24
                      have hc_74 : σ_72 1 = q_an G 600 f := (hf_68 _ (by omega)).trans hc_25
                      have hc_75 : σ_72 3 = o9 G (1) (nI (m)) (nI (x_kd f m t3)) (nI (t3)) (nI (tk_be f m t3)) (nu4) := (hf_68 _ (by omega)).trans hc_17
                      have e18 : s_rule (s_addBr g1 r (tk_vl f m t2) (tk_vl f m t3)) r 18 = s_rule g1 r 18 := by rw [s_addBr_at g1 r _ _ 18 (by omega) (by omega), if_neg (by omega), if_neg (by omega), if_neg (by omega)]
                      have e19 : s_rule (s_addBr g1 r (tk_vl f m t2) (tk_vl f m t3)) r 19 = s_rule g1 r 19 := by rw [s_addBr_at g1 r _ _ 19 (by omega) (by omega), if_neg (by omega), if_neg (by omega), if_neg (by omega)]
                      have e20 : s_rule (s_addBr g1 r (tk_vl f m t2) (tk_vl f m t3)) r 20 = s_rule g1 r 20 + 1 := by rw [s_addBr_at g1 r _ _ 20 (by omega) (by omega)]; rfl
                      have hc_76 : σ_72 rb = o7 G (rb) (lN (nm)) (lN (on)) (nI ((s_rule (s_addBr g1 r (tk_vl f m t2) (tk_vl f m t3)) r) 18)) (nI ((s_rule (s_addBr g1 r (tk_vl f m t2) (tk_vl f m t3)) r) 19)) (nI ((s_rule (s_addBr g1 r (tk_vl f m t2) (tk_vl f m t3)) r) 20)) := hc_66.trans (by rw [e18, e19, e20])
                      have hbe3 := tk_be_le (f := f) htm3
                      refine A_aload_n hg dX3_readBars_115 rfl rfl ?_
                      refine A_getf (v := .ref (q_h G + 3)) hg fl_RX3_12 dX3_readBars_116 hc_73 (by omega) rfl ?_
                      refine A_vV (kc2 := 0) (ks2 := 0) (As := []) (rest := []) hg lk_RX3_84 in_X9_advance se_X9_advance rfl dX3_readBars_119 ⟨by decide, by decide⟩ rfl rfl ⟨by decide, by decide⟩ hc_75 (by omega) rfl rfl (Nat.le_of_ble_eq_true rfl) (c_X9_advance G ex n σ_72 f m (nI (x_kd f m t3)) (nI (t3)) (tk_be f m t3) nu4 hc_75 hc_74 (by omega) hm6 hbb (by omega)) ?_
                      rintro σ_79 ⟨t4, nu5, ht4, hnu5, hc_77, hf_78⟩
                      have hc_80 : σ_79 2 = o3 G (2) (nI (ft)) (nI (0)) (q_d (0)) := (hf_78 _ (by omega)).trans hc_73
                      have hc_81 : σ_79 1 = q_an G 600 f := (hf_78 _ (by omega)).trans hc_74
                      have hc_82 : σ_79 (rb + 1) = q_an G 5 (va_up bm1 ((s_rule g1 r) 20) ((tk_vl f m t2) * 41 + (tk_vl f m t3))) := (hf_78 _ (by omega)).trans hc_67
                      have hc_83 : σ_79 rb = o7 G (rb) (lN (nm)) (lN (on)) (nI ((s_rule (s_addBr g1 r (tk_vl f m t2) (tk_vl f m t3)) r) 18)) (nI ((s_rule (s_addBr g1 r (tk_vl f m t2) (tk_vl f m t3)) r) 19)) (nI ((s_rule (s_addBr g1 r (tk_vl f m t2) (tk_vl f m t3)) r) 20)) := (hf_78 _ (by omega)).trans hc_76
                      have htm4 : t4 ≤ m := by rw [ht4]; exact tk_nx_le htm3
                      refine A_iincN (k' := 1) hg dX3_readBars_122 (by decide) rfl (by decide) (q_c1d rfl) ?_
                      refine A_eq (ls2 := [some (.ref (q_h G + 2)), some (.ref (q_h G + rb)), some (.int (nI (i + 1))), some (.int (nI (tk_vl f m t2))), some (.int (nI (tk_vl f m t3)))]) (st2 := []) (pc2 := 0) rfl rfl ?_
                      refine A_goto (tgt := 2) hg dX3_readBars_125 (by decide) ?_
                      refine A_drop 3 ?_
                      refine A_drop 4 ?_
                      exact ih2 (i + 1) (s_addBr g1 r (tk_vl f m t2) (tk_vl f m t3)) t4 nu5 (va_up bm1 ((s_rule g1 r) 20) ((tk_vl f m t2) * 41 + (tk_vl f m t3))) σ_79 hc_80 hc_77 hc_81 hc_83 hc_82 (fun i hi => ((hf_78 i (by omega)).trans ((hf_68 i (by omega)).trans ((hf_18 i (by omega)).trans ((hf_9 i (by omega)).trans (hf_7 i (by omega))))))) (by omega) (by rw [hRL, show 5 - i = (4 - i) + 1 by omega, rd_bL_s c16 ((rd_b_3 (by omega) ht2 hnc9 ht3).trans (rd_b2_3 hkl c98 ht4))]; congr 1; omega) ((s_addBr_wf hok1 (by omega) (by omega) (by omega)).1) (x_on_congr (fun j h1 h2 => by rw [s_addBr_at g1 r _ _ j (by omega) (by omega), if_neg (by omega), if_neg (by omega), if_neg (by omega)]) hok1.1.2.1 hon1) (x_bm_add (by omega) hbm1) (by rw [e20]; omega) (fun j hj => Eq.trans (by rw [s_addBr_at g1 r _ _ j (by omega) (by omega), if_neg (by omega), if_neg (by omega), if_neg (by omega)]) (hsm1 j hj)) htm4 hnu5 (by omega)
                    · skip
                      refine (?_ : AJ G K Q 0 0 ex n 115 [some (.ref (q_h G + 2)), some (.ref (q_h G + rb)), some (.int (nI (i))), some (.int (nI (tk_vl f m t2))), some (.int (nI (tk_vl f m t3)))] [] σ_72)
                      have hc_84 : σ_72 2 = o3 G (2) (nI (ft)) (nI (0)) (q_d (0)) := (hf_71 _ (by omega)).trans hc_24
                      have hc_85 : σ_72 1 = q_an G 600 f := (hf_71 _ (by omega)).trans hc_25
                      have hc_86 : σ_72 3 = o9 G (1) (nI (m)) (nI (x_kd f m t3)) (nI (t3)) (nI (tk_be f m t3)) (nu4) := (hf_71 _ (by omega)).trans hc_17
                      exact absurd hs9 (by decide)
                  · skip
                    refine A_aload_n hg dX3_readBars_101 rfl rfl ?_
                    refine A_iconst (v := (nI (4))) hg dX3_readBars_102 (by decide) ?_
                    refine A_hV (kc2 := 0) (ks2 := 0) (As := [.int (nI (4))]) (rest := []) hg lk_RX3_71 in_X3_fail se_X3_fail rfl dX3_readBars_103 ⟨by decide, by decide⟩ rfl rfl ⟨by decide, by decide⟩ hc_24 (by omega) rfl rfl (Nat.le_of_ble_eq_true rfl) (c_X3_fail G ex n σ_19 m t3 (nI (x_kd f m t3)) (nI (tk_be f m t3)) nu4 ft (nI (0)) (q_d (0)) 4 hc_24 hc_17 (by omega)) ?_
                    rintro _ σ_89 ⟨rfl, hc_87, hf_88⟩
                    refine (?_ : AJ G K Q 0 0 ex n 106 [some (.ref (q_h G + 2)), some (.ref (q_h G + rb)), some (.int (nI (i))), some (.int (nI (tk_vl f m t2))), some (.int (nI (tk_vl f m t3)))] [.int (nI (0))] σ_89)
                    have hc_90 : σ_89 1 = q_an G 600 f := (hf_88 _ (by omega)).trans hc_25
                    have hc_91 : σ_89 rb = o7 G (rb) (lN (nm)) (lN (on)) (nI ((s_rule g1 r) 18)) (nI ((s_rule g1 r) 19)) (nI ((s_rule g1 r) 20)) := (hf_88 _ (by omega)).trans hc_26
                    have hc_92 : σ_89 (rb + 1) = q_an G 5 bm1 := (hf_88 _ (by omega)).trans hc_27
                    have hc_93 : σ_89 3 = o9 G (1) (nI (m)) (nI (x_kd f m t3)) (nI (t3)) (nI (tk_be f m t3)) (nu4) := (hf_88 _ (by omega)).trans hc_17
                    rw [hQ]
                    exact A_zreturn hg (by decide) (by decide) rfl rfl dX3_readBars_106 ⟨rfl, Or.inl (⟨4, t3, (nI (x_kd f m t3)), (nI (t3)), (nI (tk_be f m t3)), (nu4), ((s_rule g1 r) 18), ((s_rule g1 r) 19), ((s_rule g1 r) 20), bm1, rfl, (by rw [hRL, show 5 - i = (4 - i) + 1 by omega, rd_bL_e c16 ((rd_b_3 (by omega) ht2 hnc9 ht3).trans (rd_b2_2 hkl c98))]), (by first | assumption | omega), hc_87, hc_93, hc_91, hc_92, (fun i hi => ((hf_88 i (by omega)).trans ((hf_18 i (by omega)).trans ((hf_9 i (by omega)).trans (hf_7 i (by omega))))))⟩)⟩
                · skip
                  refine A_aload_n hg dX3_readBars_85 rfl rfl ?_
                  refine A_iconst (v := (nI (2))) hg dX3_readBars_86 (by decide) ?_
                  refine A_hV (kc2 := 0) (ks2 := 0) (As := [.int (nI (2))]) (rest := []) hg lk_RX3_71 in_X3_fail se_X3_fail rfl dX3_readBars_87 ⟨by decide, by decide⟩ rfl rfl ⟨by decide, by decide⟩ hc_24 (by omega) rfl rfl (Nat.le_of_ble_eq_true rfl) (c_X3_fail G ex n σ_19 m t3 (nI (x_kd f m t3)) (nI (tk_be f m t3)) nu4 ft (nI (0)) (q_d (0)) 2 hc_24 hc_17 (by omega)) ?_
                  rintro _ σ_96 ⟨rfl, hc_94, hf_95⟩
                  refine (?_ : AJ G K Q 0 0 ex n 90 [some (.ref (q_h G + 2)), some (.ref (q_h G + rb)), some (.int (nI (i))), some (.int (nI (tk_vl f m t2))), some (.int (nI (tk_vl f m t3)))] [.int (nI (0))] σ_96)
                  have hc_97 : σ_96 1 = q_an G 600 f := (hf_95 _ (by omega)).trans hc_25
                  have hc_98 : σ_96 rb = o7 G (rb) (lN (nm)) (lN (on)) (nI ((s_rule g1 r) 18)) (nI ((s_rule g1 r) 19)) (nI ((s_rule g1 r) 20)) := (hf_95 _ (by omega)).trans hc_26
                  have hc_99 : σ_96 (rb + 1) = q_an G 5 bm1 := (hf_95 _ (by omega)).trans hc_27
                  have hc_100 : σ_96 3 = o9 G (1) (nI (m)) (nI (x_kd f m t3)) (nI (t3)) (nI (tk_be f m t3)) (nu4) := (hf_95 _ (by omega)).trans hc_17
                  rw [hQ]
                  exact A_zreturn hg (by decide) (by decide) rfl rfl dX3_readBars_90 ⟨rfl, Or.inl (⟨2, t3, (nI (x_kd f m t3)), (nI (t3)), (nI (tk_be f m t3)), (nu4), ((s_rule g1 r) 18), ((s_rule g1 r) 19), ((s_rule g1 r) 20), bm1, rfl, (by rw [hRL, show 5 - i = (4 - i) + 1 by omega, rd_bL_e c16 ((rd_b_3 (by omega) ht2 hnc9 ht3).trans (by rw [rd_b2_1 (by rw [x_nc_00 hnc8 c77 c82]; decide), x_nc_00 hnc8 c77 c82]))]), (by first | assumption | omega), hc_94, hc_100, hc_98, hc_99, (fun i hi => ((hf_95 i (by omega)).trans ((hf_18 i (by omega)).trans ((hf_9 i (by omega)).trans (hf_7 i (by omega))))))⟩)⟩
        · skip
          refine A_aload_n hg dX3_readBars_27 rfl rfl ?_
          refine A_iconst (v := (nI (5))) hg dX3_readBars_28 (by decide) ?_
          refine A_hV (kc2 := 0) (ks2 := 0) (As := [.int (nI (5))]) (rest := []) hg lk_RX3_71 in_X3_fail se_X3_fail rfl dX3_readBars_29 ⟨by decide, by decide⟩ rfl rfl ⟨by decide, by decide⟩ hc_2 (by omega) rfl rfl (Nat.le_of_ble_eq_true rfl) (c_X3_fail G ex n σ_1 m t1 (nI (x_kd f m t1)) (nI (tk_be f m t1)) nu1 ft (nI (0)) (q_d (0)) 5 hc_2 hc_3 (by omega)) ?_
          rintro _ σ_103 ⟨rfl, hc_101, hf_102⟩
          refine (?_ : AJ G K Q 0 0 ex n 32 [some (.ref (q_h G + 2)), some (.ref (q_h G + rb)), some (.int (nI (i))), none, none] [.int (nI (0))] σ_103)
          have hc_104 : σ_103 3 = o9 G (1) (nI (m)) (nI (x_kd f m t1)) (nI (t1)) (nI (tk_be f m t1)) (nu1) := (hf_102 _ (by omega)).trans hc_3
          have hc_105 : σ_103 1 = q_an G 600 f := (hf_102 _ (by omega)).trans hc_4
          have hc_106 : σ_103 rb = o7 G (rb) (lN (nm)) (lN (on)) (nI ((s_rule g1 r) 18)) (nI ((s_rule g1 r) 19)) (nI ((s_rule g1 r) 20)) := (hf_102 _ (by omega)).trans hc_5
          have hc_107 : σ_103 (rb + 1) = q_an G 5 bm1 := (hf_102 _ (by omega)).trans hc_6
          rw [hQ]
          exact A_zreturn hg (by decide) (by decide) rfl rfl dX3_readBars_32 ⟨rfl, Or.inl (⟨5, t1, (nI (x_kd f m t1)), (nI (t1)), (nI (tk_be f m t1)), (nu1), ((s_rule g1 r) 18), ((s_rule g1 r) 19), ((s_rule g1 r) 20), bm1, rfl, (by rw [hRL, show 5 - i = (4 - i) + 1 by omega, rd_bL_e c16 (rd_b_1 (by omega))]), (by first | assumption | omega), hc_101, hc_104, hc_106, hc_107, (fun i hi => ((hf_102 i (by omega)).trans (hf_7 i (by omega))))⟩)⟩
  exact hL2 _ 0 g t nu bm σ hc0 hc1 hc2 hc3 hc4 (fun _ _ => rfl) (by decide) rfl hok hon hbm h20 (fun _ _ => rfl) ht9 hnu (Nat.lt_succ_self _)
set_option maxRecDepth 100000 in
set_option maxHeartbeats 4000000 in
theorem c_X3_readBarsN (G : GL) (ex : Bool) (n : Nat) (σ : Nat → va_E) (f : Nat → Nat) (m : Nat) (t : Nat) (nu : Int32) (ft : Nat) (rb : Nat) (hc0 : σ 2 = o3 G (2) (nI (ft)) (nI (0)) (q_d (0))) (hc1 : σ 3 = o9 G (1) (nI (m)) (nI (x_kd f m t)) (nI (t)) (nI (tk_be f m t)) (nu)) (hc2 : σ 1 = q_an G 600 f) (hn9 : 279 ≤ n) (hm6 : m ≤ 600) (hbb : ∀ k : Nat, s_byte f m k ≤ 256) (ht9 : t ≤ m) (hnu : tk_kd f m t = 2 → nu = nI (tk_vl f m t)) (hnw : tk_wd f m t [98, 97, 114] = false) : Ct G yX3_readBars cX3_readBars 5 (some .boolean) ⟨5, 0, 0, 107⟩ [.ref (q_h G + 2), .ref (q_h G + rb)] ex n σ (fun v9 σ2 => σ2 = σ ∧ v9 = some (.int (nI (1)))) := by
  refine q_enter [some (.ref (q_h G + 2)), some (.ref (q_h G + rb)), none, none, none] (by decide) (Nat.le_of_ble_eq_true rfl) rfl ?_
  intro K hg
  obtain ⟨Q, hQ⟩ : ∃ Q, Q = q_Q G K ex n 0 0 (fun v9 n' σ' => n' = n ∧ (fun v9 σ2 => σ2 = σ ∧ v9 = some (.int (nI (1)))) v9 σ') q_noX := ⟨_, rfl⟩
  refine (?_ : AJ G K (q_Q G K ex n 0 0 _ _) 0 0 ex n 0 _ _ σ)
  rw [← hQ]
  refine A_iconst (v := (nI (0))) hg dX3_readBars_0 (by decide) ?_
  refine A_istore_n hg dX3_readBars_1 rfl (by decide) (q_c1d rfl) ?_
  refine A_eq (ls2 := [some (.ref (q_h G + 2)), some (.ref (q_h G + rb)), some (.int (nI (0))), none, none]) (st2 := []) (pc2 := 0) rfl rfl ?_
  refine A_iload_n hg dX3_readBars_2 rfl rfl ?_
  refine A_iconst (v := (nI (4))) hg dX3_readBars_3 (by decide) ?_
  refine A_icmp_gtN (tgt := 128) hg dX3_readBars_4 (by decide) (by decide) (by decide) (fun c4 => ?_) (fun c4 => ?_)
  · skip
    refine A_iconst (v := (nI (1))) hg dX3_readBars_128 (by decide) ?_
    rw [hQ]
    exact A_zreturn hg (by decide) (by decide) rfl rfl dX3_readBars_129 ⟨rfl, ⟨rfl, rfl⟩⟩
  · skip
    refine A_aload_n hg dX3_readBars_7 rfl rfl ?_
    refine A_getf (v := .ref (q_h G + 3)) hg fl_RX3_12 dX3_readBars_8 hc0 (by omega) rfl ?_
    refine A_ldcS hg (sc_RX3_149 hg.2.2.2.2.2.2.1.1).1 dX3_readBars_11 ?_
    refine A_eV (kc2 := 0) (ks2 := 0) (As := [.ref (q_sa G RX3 149)]) (rest := []) hg lk_RX3_48 in_X9_isWord se_X9_isWord rfl dX3_readBars_13 ⟨by decide, by decide⟩ rfl rfl ⟨by decide, by decide⟩ hc1 (by omega) rfl rfl (Nat.le_of_ble_eq_true rfl) (c_X9_isWord G ex n σ f m t nu (q_sa G RX3 149) ([98, 97, 114]) hc1 hc2 (by omega) hm6 hbb (by omega) ((sc_RX3_149 hg.2.2.2.2.2.2.1.1).2)) ?_
    refine A_if_eqB (tgt := 128) hg dX3_readBars_16 (by decide) (fun c16 => ?_) (fun c16 => absurd (hnw.symm.trans c16) (by decide))
    refine A_iconst (v := (nI (1))) hg dX3_readBars_128 (by decide) ?_
    rw [hQ]
    exact A_zreturn hg (by decide) (by decide) rfl rfl dX3_readBars_129 ⟨rfl, ⟨rfl, rfl⟩⟩
end
