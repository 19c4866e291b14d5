section
set_option maxRecDepth 100000 in
set_option maxHeartbeats 4000000 in
theorem c_X11_readText (G : GL) (ex : Bool) (n : Nat) (σ : Nat → va_E) (F : Nat → Int32) (g : Nat → Nat) (f : Nat → Nat) (m : Nat) (t : Nat) (u : Nat) (hc0 : σ 279 = o11 G F) (hc1 : σ 292 = q_an G 600 f) (hc2 : σ 280 = q_an G 265 g) (hn : 294 ≤ n) (hF21 : F 21 = nI m) (hm : m ≤ 600) (hbb : ∀ k : Nat, s_byte f m k ≤ 256) (htm : t ≤ m) (hF24 : F 24 = nI 0) (hF26 : F 26 = nI (tk_be f m t)) (hF27 : F 27 = nI t) (hF28 : F 28 = nI (tk_vl f m t)) (hF30 : F 30 = nI (tk_kd f m t)) (hF29 : F 29 = nI u) (hu : u ≤ 1) (hi : rd_inv g) : Ct G yX11_readText cX11_readText 1 (some .boolean) ⟨8, 0, 0, 173⟩ [.ref (q_h G + 279)] ex n σ (fun v9 σ2 => (∃ (F' : Nat → Int32), ∃ (g' : Nat → Nat), ∃ (c : Nat), ∃ (o : Nat), v9 = some (.int (nI (0))) ∧ (rd_t f m (m + 1) u g t = .inl (c, o)) ∧ (¬ c = 0) ∧ (∀ j : Nat, j ≠ 24 ∧ j ≠ 25 ∧ j ≠ 26 ∧ j ≠ 27 ∧ j ≠ 28 ∧ j ≠ 30 ∧ j ≠ 31 ∧ j ≠ 29 → F' j = F j) ∧ (F' 24 = nI c) ∧ (F' 25 = nI o) ∧ σ2 279 = o11 G F' ∧ σ2 280 = q_an G 265 g' ∧ (∀ i : Nat, i ≠ 279 ∧ i ≠ 280 → σ2 i = σ i)) ∨ (∃ (F' : Nat → Int32), ∃ (t' : Nat), ∃ (g' : Nat → Nat), v9 = some (.int (nI (1))) ∧ (rd_t f m (m + 1) u g t = .inr (g', t')) ∧ (t' ≤ m) ∧ (t ≤ t') ∧ (∀ j : Nat, j ≠ 26 ∧ j ≠ 27 ∧ j ≠ 28 ∧ j ≠ 30 ∧ j ≠ 31 ∧ j ≠ 29 → F' j = F j) ∧ (F' 26 = nI (tk_be f m t')) ∧ (F' 27 = nI t') ∧ (F' 28 = nI (tk_vl f m t')) ∧ (F' 30 = nI (tk_kd f m t')) ∧ σ2 279 = o11 G F' ∧ σ2 280 = q_an G 265 g' ∧ (∀ i : Nat, i ≠ 279 ∧ i ≠ 280 → σ2 i = σ i))) := by
  refine q_enter [some (.ref (q_h G + 279))] (by decide) (Nat.le_of_ble_eq_true rfl) rfl ?_
  intro K hg
  obtain ⟨Q, hQ⟩ : ∃ Q, Q = q_Q G K ex n 0 0 (fun v9 n' σ' => n' = n ∧ (fun v9 σ2 => (∃ (F' : Nat → Int32), ∃ (g' : Nat → Nat), ∃ (c : Nat), ∃ (o : Nat), v9 = some (.int (nI (0))) ∧ (rd_t f m (m + 1) u g t = .inl (c, o)) ∧ (¬ c = 0) ∧ (∀ j : Nat, j ≠ 24 ∧ j ≠ 25 ∧ j ≠ 26 ∧ j ≠ 27 ∧ j ≠ 28 ∧ j ≠ 30 ∧ j ≠ 31 ∧ j ≠ 29 → F' j = F j) ∧ (F' 24 = nI c) ∧ (F' 25 = nI o) ∧ σ2 279 = o11 G F' ∧ σ2 280 = q_an G 265 g' ∧ (∀ i : Nat, i ≠ 279 ∧ i ≠ 280 → σ2 i = σ i)) ∨ (∃ (F' : Nat → Int32), ∃ (t' : Nat), ∃ (g' : Nat → Nat), v9 = some (.int (nI (1))) ∧ (rd_t f m (m + 1) u g t = .inr (g', t')) ∧ (t' ≤ m) ∧ (t ≤ t') ∧ (∀ j : Nat, j ≠ 26 ∧ j ≠ 27 ∧ j ≠ 28 ∧ j ≠ 30 ∧ j ≠ 31 ∧ j ≠ 29 → F' j = F j) ∧ (F' 26 = nI (tk_be f m t')) ∧ (F' 27 = nI t') ∧ (F' 28 = nI (tk_vl f m t')) ∧ (F' 30 = nI (tk_kd f m t')) ∧ σ2 279 = o11 G F' ∧ σ2 280 = q_an G 265 g' ∧ (∀ i : Nat, i ≠ 279 ∧ i ≠ 280 → σ2 i = σ i))) v9 σ') q_noX := ⟨_, rfl⟩
  refine (?_ : AJ G K (q_Q G K ex n 0 0 _ _) 0 0 ex n 0 _ _ σ)
  rw [← hQ]
  have hL0 : ∀ (fu : Nat) (k : Nat) (F9 : Nat → Int32) (t9 : Nat) (g9 : Nat → Nat) (u9 : Nat) (σ_1 : Nat → va_E), (σ_1 279 = o11 G F9) → (σ_1 292 = q_an G 600 f) → (σ_1 280 = q_an G 265 g9) → (∀ i : Nat, i ≠ 279 ∧ i ≠ 280 → σ_1 i = σ i) → (F9 26 = nI (tk_be f m t9)) → (F9 27 = nI t9) → (F9 28 = nI (tk_vl f m t9)) → (F9 30 = nI (tk_kd f m t9)) → (F9 29 = nI u9) → (∀ j : Nat, j ≠ 26 ∧ j ≠ 27 ∧ j ≠ 28 ∧ j ≠ 30 ∧ j ≠ 31 ∧ j ≠ 29 → F9 j = F j) → (t9 ≤ m) → (t ≤ t9) → (u9 ≤ 1) → (rd_inv g9) → (m + 1 ≤ k + t9) → (rd_t f m k u9 g9 t9 = rd_t f m (m + 1) u g t) → k < fu → AJ G K Q 0 0 ex n 0 [some (.ref (q_h G + 279))] [] σ_1 := by
    intro fu
    induction fu with
    | zero => intro k F9 t9 g9 u9 σ_1 hc_2 hc_3 hc_4 hf_5 h9_26 h9_27 h9_28 h9_30 h9_29 hfr9 htm_t9 hge9 hu9 hi9 hfu hpu hm; exact absurd hm (Nat.not_lt_zero _)
    | succ fu ih0 =>
      intro k F9 t9 g9 u9 σ_1 hc_2 hc_3 hc_4 hf_5 h9_26 h9_27 h9_28 h9_30 h9_29 hfr9 htm_t9 hge9 hu9 hi9 hfu hpu hm0
      have hkd9 := tk_kd_lt f m t9
      have hg09 := hi9.1.1
      obtain ⟨k, rfl⟩ : ∃ j, k = j + 1 := ⟨k - 1, by omega⟩
      refine A_aload_n hg dX11_readText_0 rfl rfl ?_
      refine A_getf (v := .int (nI (tk_kd f m t9))) hg fl_RX11_271 dX11_readText_1 hc_2 (by omega) (congrArg (fun z => some (Value.int z)) h9_30) ?_
      refine A_if_eqN (tgt := 37) hg dX11_readText_4 (by omega) (by decide) (fun c4 => ?_) (fun c4 => ?_)
      · skip
        refine A_aload_n hg dX11_readText_37 rfl rfl ?_
        refine A_getf (v := .ref (q_h G + 280)) hg fl_RX11_7 dX11_readText_38 hc_2 (by omega) rfl ?_
        refine A_iconst (v := (nI (0))) hg dX11_readText_41 (by decide) ?_
        refine A_iald (j := 0) hg dX11_readText_42 hc_4 (by omega) (by omega) (by decide) ?_
        refine A_if_gtN (tgt := 54) hg dX11_readText_43 (by omega) (by decide) (fun c43 => ?_) (fun c43 => ?_)
        · skip
          refine A_iconst (v := (nI (1))) hg dX11_readText_54 (by decide) ?_
          refine A_goto (tgt := 59) hg dX11_readText_55 (by decide) ?_
          rw [hQ]
          exact A_zreturn hg (by decide) (by decide) rfl rfl dX11_readText_59 ⟨rfl, Or.inr ((⟨F9, t9, g9, rfl, (hpu.symm.trans ((rd_t_n c4).trans (if_pos c43))), htm_t9, (by omega), (fun j hj => (hfr9 j (by omega))), h9_26, h9_27, h9_28, h9_30, hc_2, hc_4, (fun i hi => (hf_5 i (by omega)))⟩))⟩
        · skip
          refine A_aload_n hg dX11_readText_46 rfl rfl ?_
          refine A_iconst (v := (nI (1))) hg dX11_readText_47 (by decide) ?_
          refine A_hV (kc2 := 0) (ks2 := 0) (As := [.int (nI (1))]) (rest := []) hg lk_RX11_292 in_X11_failsAt se_X11_failsAt rfl dX11_readText_48 ⟨by decide, by decide⟩ rfl rfl ⟨by decide, by decide⟩ hc_2 (by omega) rfl rfl (Nat.le_of_ble_eq_true rfl) (c_X11_failsAt G ex n σ_1 F9 t9 1 hc_2 (by omega) ((hfr9 24 (by decide)).trans hF24) h9_27) ?_
          rintro _ σ_8 ⟨rfl, hc_6, hf_7⟩
          refine (?_ : AJ G K Q 0 0 ex n 51 [some (.ref (q_h G + 279))] [.int (nI (0))] σ_8)
          have hc_6 : σ_8 279 = o11 G (upd (upd F9 24 (nI (1))) 25 (nI (t9))) := hc_6
          have hc_9 : σ_8 292 = q_an G 600 f := (hf_7 _ (by omega)).trans hc_3
          have hc_10 : σ_8 280 = q_an G 265 g9 := (hf_7 _ (by omega)).trans hc_4
          refine A_if_eqN (tgt := 58) hg dX11_readText_51 (by decide) (by decide) (fun c51 => ?_) (fun c51 => absurd (by decide) c51)
          refine A_iconst (v := (nI (0))) hg dX11_readText_58 (by decide) ?_
          rw [hQ]
          exact A_zreturn hg (by decide) (by decide) rfl rfl dX11_readText_59 ⟨rfl, Or.inl (⟨(upd (upd F9 24 (nI (1))) 25 (nI (t9))), g9, 1, t9, rfl, (hpu.symm.trans ((rd_t_n c4).trans (if_neg c43))), (by decide), (fun j hj => ((q_upn (by omega)).trans ((q_upn (by omega)).trans (hfr9 j (by omega))))), rfl, rfl, hc_6, hc_10, (fun i hi => ((hf_7 i (by omega)).trans (hf_5 i (by omega))))⟩)⟩
      · skip
        refine A_aload_n hg dX11_readText_7 rfl rfl ?_
        refine A_hV (kc2 := 0) (ks2 := 0) (As := []) (rest := []) hg lk_RX11_377 in_X11_readStatement se_X11_readStatement rfl dX11_readText_8 ⟨by decide, by decide⟩ rfl rfl ⟨by decide, by decide⟩ hc_2 (by omega) rfl rfl (Nat.le_of_ble_eq_true rfl) (c_X11_readStatement G ex n σ_1 F9 g9 f m t9 u9 hc_2 hc_3 hc_4 (by omega) ((hfr9 21 (by decide)).trans hF21) (by omega) hbb (by omega) ((hfr9 24 (by decide)).trans hF24) h9_26 h9_27 h9_28 h9_30 h9_29 (by omega) hi9) ?_
        rintro _ σ_17 (⟨F_t10, g10, c_t10, o_t10, rfl, hR_t10, hc0_t10, hfr_t10, h24_t10, h25_t10, hc_11, hc_12, hf_13⟩ | ⟨F_t10, t10, g10, rfl, hR_t10, htm_t10, hge_t10, hfr_t10, h26_t10, h27_t10, h28_t10, h30_t10, h29_t10, hc_14, hc_15, hf_16⟩)
        · skip
          refine (?_ : AJ G K Q 0 0 ex n 11 [some (.ref (q_h G + 279))] [.int (nI (0))] σ_17)
          have hc_18 : σ_17 292 = q_an G 600 f := (hf_13 _ (by omega)).trans hc_3
          refine A_if_neN (tgt := 16) hg dX11_readText_11 (by decide) (by decide) (fun c11 => absurd (by decide) c11) (fun c11 => ?_)
          refine A_iconst (v := (nI (0))) hg dX11_readText_14 (by decide) ?_
          rw [hQ]
          exact A_zreturn hg (by decide) (by decide) rfl rfl dX11_readText_15 ⟨rfl, Or.inl (⟨F_t10, g10, c_t10, o_t10, rfl, (hpu.symm.trans ((rd_t_s c4).trans (rd_bd_l hR_t10))), hc0_t10, (fun j hj => ((hfr_t10 j (by omega)).trans (hfr9 j (by omega)))), h24_t10, h25_t10, hc_11, hc_12, (fun i hi => ((hf_13 i (by omega)).trans (hf_5 i (by omega))))⟩)⟩
        · skip
          refine (?_ : AJ G K Q 0 0 ex n 11 [some (.ref (q_h G + 279))] [.int (nI (1))] σ_17)
          have hc_19 : σ_17 292 = q_an G 600 f := (hf_16 _ (by omega)).trans hc_3
          refine A_if_neN (tgt := 16) hg dX11_readText_11 (by decide) (by decide) (fun c11 => ?_) (fun c11 => absurd c11 (by decide))
          refine A_aload_n hg dX11_readText_16 rfl rfl ?_
          refine A_getf (v := .int (nI (tk_kd f m t10))) hg fl_RX11_271 dX11_readText_17 hc_14 (by omega) (congrArg (fun z => some (Value.int z)) h30_t10) ?_
          have hkd10 := tk_kd_lt f m t10
          refine A_iconst (v := (nI (3))) hg dX11_readText_20 (by decide) ?_
          refine A_icmp_eqN (tgt := 30) hg dX11_readText_21 (by omega) (by decide) (by decide) (fun c21 => ?_) (fun c21 => ?_)
          · skip
            refine A_aload_n hg dX11_readText_30 rfl rfl ?_
            refine A_vV (kc2 := 0) (ks2 := 0) (As := []) (rest := []) hg lk_RX11_301 in_X11_advanceToken se_X11_advanceToken rfl dX11_readText_31 ⟨by decide, by decide⟩ rfl rfl ⟨by decide, by decide⟩ hc_14 (by omega) rfl rfl (Nat.le_of_ble_eq_true rfl) (c_X11_advanceToken G ex n σ_17 F_t10 f m (tk_be f m t10) hc_14 hc_19 (by omega) ((hfr_t10 21 (by decide)).trans ((hfr9 21 (by decide)).trans hF21)) (by omega) hbb (tk_be_le htm_t10) h26_t10) ?_
            rintro σ_22 ⟨F_t11, t11, ht_t11, htm_t11, hfr_t11, h26_t11, h27_t11, h28_t11, h30_t11, hc_20, hf_21⟩
            have hc_23 : σ_22 292 = q_an G 600 f := (hf_21 _ (by omega)).trans hc_19
            have hc_24 : σ_22 280 = q_an G 265 g10 := (hf_21 _ (by omega)).trans hc_15
            have hn11 : t11 = tk_nx f m t10 := ht_t11
            refine A_goto (tgt := 0) hg dX11_readText_34 (by decide) ?_
            exact ih0 k F_t11 t11 g10 (rd_u f m u9 t9) σ_22 hc_20 hc_23 hc_24 (fun i hi => ((hf_21 i (by omega)).trans ((hf_16 i (by omega)).trans (hf_5 i (by omega))))) h26_t11 h27_t11 h28_t11 h30_t11 ((hfr_t11 29 (by decide)).trans h29_t10) (fun j hj => (hfr_t11 j (by omega)).trans ((hfr_t10 j (by omega)).trans (hfr9 j hj))) htm_t11 (by have := tk_ge2 hn11; omega) (rd_u_le hu9) (rd_m_inv hi9 hR_t10) (by have h1 := tk_be_3 c21; have h2 := tk_ge2 hn11; omega) (by rw [hn11]; exact ((rd_t_s c4).trans ((rd_bd_r hR_t10).trans (if_pos c21))).symm.trans hpu) (by omega)
          · skip
            refine A_aload_n hg dX11_readText_24 rfl rfl ?_
            refine A_iconst (v := (nI (1))) hg dX11_readText_25 (by decide) ?_
            refine A_hV (kc2 := 0) (ks2 := 0) (As := [.int (nI (1))]) (rest := []) hg lk_RX11_292 in_X11_failsAt se_X11_failsAt rfl dX11_readText_26 ⟨by decide, by decide⟩ rfl rfl ⟨by decide, by decide⟩ hc_14 (by omega) rfl rfl (Nat.le_of_ble_eq_true rfl) (c_X11_failsAt G ex n σ_17 F_t10 t10 1 hc_14 (by omega) ((hfr_t10 24 (by decide)).trans ((hfr9 24 (by decide)).trans hF24)) h27_t10) ?_
            rintro _ σ_27 ⟨rfl, hc_25, hf_26⟩
            refine (?_ : AJ G K Q 0 0 ex n 29 [some (.ref (q_h G + 279))] [.int (nI (0))] σ_27)
            have hc_25 : σ_27 279 = o11 G (upd (upd F_t10 24 (nI (1))) 25 (nI (t10))) := hc_25
            have hc_28 : σ_27 292 = q_an G 600 f := (hf_26 _ (by omega)).trans hc_19
            have hc_29 : σ_27 280 = q_an G 265 g10 := (hf_26 _ (by omega)).trans hc_15
            rw [hQ]
            exact A_zreturn hg (by decide) (by decide) rfl rfl dX11_readText_29 ⟨rfl, Or.inl (⟨(upd (upd F_t10 24 (nI (1))) 25 (nI (t10))), g10, 1, t10, rfl, (hpu.symm.trans ((rd_t_s c4).trans ((rd_bd_r hR_t10).trans (if_neg c21)))), (by decide), (fun j hj => ((q_upn (by omega)).trans ((q_upn (by omega)).trans ((hfr_t10 j (by omega)).trans (hfr9 j (by omega)))))), rfl, rfl, hc_25, hc_29, (fun i hi => ((hf_26 i (by omega)).trans ((hf_16 i (by omega)).trans (hf_5 i (by omega)))))⟩)⟩
  exact hL0 _ (m + 1) F t g u σ hc0 hc1 hc2 (fun _ _ => rfl) hF26 hF27 hF28 hF30 hF29 (fun _ _ => rfl) htm (Nat.le_refl _) hu hi (Nat.le_add_right _ _) rfl (Nat.lt_succ_self _)
set_option maxRecDepth 100000 in
set_option maxHeartbeats 4000000 in
theorem c_X11_loadHeaps (G : GL) (ex : Bool) (n : Nat) (σ : Nat → va_E) (F : Nat → Int32) (g : Nat → Nat) (wk : Nat → Nat) (f : Nat → Nat) (m : Nat) (hc0 : σ 279 = o11 G F) (hc1 : σ 292 = q_an G 600 f) (hc2 : σ 280 = q_an G 265 g) (hc3 : σ 281 = q_an G 265 wk) (hn : 294 ≤ n) (hF21 : F 21 = nI m) (hm : m ≤ 600) (hbb : ∀ k : Nat, s_byte f m k ≤ 256) (hg9 : s_gwf g) : Ct G yX11_loadHeaps cX11_loadHeaps 2 (some .int) ⟨9, 0, 0, 193⟩ [.ref (q_h G + 279)] ex n σ (fun v9 σ2 => (∃ (F' : Nat → Int32), ∃ (wk' : Nat → Nat), ∃ (c : Nat), ∃ (o : Nat), v9 = some (.int (q_d (0))) ∧ (rd_all f m = .inl (c, o)) ∧ (¬ c = 0) ∧ (∀ j : Nat, j ≠ 7 ∧ j ≠ 21 ∧ j ≠ 22 ∧ j ≠ 23 ∧ j ≠ 24 ∧ j ≠ 25 ∧ j ≠ 26 ∧ j ≠ 27 ∧ j ≠ 28 ∧ j ≠ 29 ∧ j ≠ 30 ∧ j ≠ 31 → F' j = F j) ∧ (F' 7 = nI 0) ∧ (F' 21 = nI 0) ∧ (F' 22 = nI c) ∧ (F' 23 = nI o) ∧ σ2 279 = o11 G F' ∧ σ2 280 = q_an G 265 g ∧ σ2 281 = q_an G 265 wk' ∧ (∀ i : Nat, i ≠ 279 ∧ i ≠ 280 ∧ i ≠ 281 → σ2 i = σ i)) ∨ (∃ (F' : Nat → Int32), ∃ (wk' : Nat → Nat), ∃ (g' : Nat → Nat), ∃ (t' : Nat), v9 = some (.int (nI (s_np g'))) ∧ (rd_all f m = .inr (g', t')) ∧ (∀ j : Nat, j ≠ 5 ∧ j ≠ 6 ∧ j ≠ 7 ∧ j ≠ 21 ∧ j ≠ 22 ∧ j ≠ 23 ∧ j ≠ 24 ∧ j ≠ 25 ∧ j ≠ 26 ∧ j ≠ 27 ∧ j ≠ 28 ∧ j ≠ 29 ∧ j ≠ 30 ∧ j ≠ 31 → F' j = F j) ∧ (F' 7 = nI 0) ∧ (F' 21 = nI 0) ∧ (F' 22 = nI 0) ∧ (F' 23 = q_d 0) ∧ (F' 5 = nI 0) ∧ (F' 6 = nI 0) ∧ σ2 279 = o11 G F' ∧ σ2 280 = q_an G 265 g' ∧ σ2 281 = q_an G 265 wk' ∧ (∀ i : Nat, i ≠ 279 ∧ i ≠ 280 ∧ i ≠ 281 → σ2 i = σ i))) := by
  refine q_enter [some (.ref (q_h G + 279)), none] (by decide) (Nat.le_of_ble_eq_true rfl) rfl ?_
  intro K hg
  obtain ⟨Q, hQ⟩ : ∃ Q, Q = q_Q G K ex n 0 0 (fun v9 n' σ' => n' = n ∧ (fun v9 σ2 => (∃ (F' : Nat → Int32), ∃ (wk' : Nat → Nat), ∃ (c : Nat), ∃ (o : Nat), v9 = some (.int (q_d (0))) ∧ (rd_all f m = .inl (c, o)) ∧ (¬ c = 0) ∧ (∀ j : Nat, j ≠ 7 ∧ j ≠ 21 ∧ j ≠ 22 ∧ j ≠ 23 ∧ j ≠ 24 ∧ j ≠ 25 ∧ j ≠ 26 ∧ j ≠ 27 ∧ j ≠ 28 ∧ j ≠ 29 ∧ j ≠ 30 ∧ j ≠ 31 → F' j = F j) ∧ (F' 7 = nI 0) ∧ (F' 21 = nI 0) ∧ (F' 22 = nI c) ∧ (F' 23 = nI o) ∧ σ2 279 = o11 G F' ∧ σ2 280 = q_an G 265 g ∧ σ2 281 = q_an G 265 wk' ∧ (∀ i : Nat, i ≠ 279 ∧ i ≠ 280 ∧ i ≠ 281 → σ2 i = σ i)) ∨ (∃ (F' : Nat → Int32), ∃ (wk' : Nat → Nat), ∃ (g' : Nat → Nat), ∃ (t' : Nat), v9 = some (.int (nI (s_np g'))) ∧ (rd_all f m = .inr (g', t')) ∧ (∀ j : Nat, j ≠ 5 ∧ j ≠ 6 ∧ j ≠ 7 ∧ j ≠ 21 ∧ j ≠ 22 ∧ j ≠ 23 ∧ j ≠ 24 ∧ j ≠ 25 ∧ j ≠ 26 ∧ j ≠ 27 ∧ j ≠ 28 ∧ j ≠ 29 ∧ j ≠ 30 ∧ j ≠ 31 → F' j = F j) ∧ (F' 7 = nI 0) ∧ (F' 21 = nI 0) ∧ (F' 22 = nI 0) ∧ (F' 23 = q_d 0) ∧ (F' 5 = nI 0) ∧ (F' 6 = nI 0) ∧ σ2 279 = o11 G F' ∧ σ2 280 = q_an G 265 g' ∧ σ2 281 = q_an G 265 wk' ∧ (∀ i : Nat, i ≠ 279 ∧ i ≠ 280 ∧ i ≠ 281 → σ2 i = σ i))) v9 σ') q_noX := ⟨_, rfl⟩
  refine (?_ : AJ G K (q_Q G K ex n 0 0 _ _) 0 0 ex n 0 _ _ σ)
  rw [← hQ]
  refine A_aload_n hg dX11_loadHeaps_0 rfl rfl ?_
  refine A_iconst (v := (nI (0))) hg dX11_loadHeaps_1 (by decide) ?_
  refine A_putf hg fl_RX11_67 dX11_loadHeaps_2 hc0 (by omega) (Nat.le_of_ble_eq_true rfl) rfl rfl rfl (fun σ_1 hc_2 hf_3 => ?_)
  have hc_2 : σ_1 279 = o11 G (upd F 7 (nI (0))) := hc_2
  have hc_4 : σ_1 292 = q_an G 600 f := (hf_3 _ (by omega)).trans hc1
  have hc_5 : σ_1 280 = q_an G 265 g := (hf_3 _ (by omega)).trans hc2
  have hc_6 : σ_1 281 = q_an G 265 wk := (hf_3 _ (by omega)).trans hc3
  refine A_aload_n hg dX11_loadHeaps_5 rfl rfl ?_
  refine A_getf (v := .ref (q_h G + 280)) hg fl_RX11_7 dX11_loadHeaps_6 hc_2 (by omega) rfl ?_
  refine A_iconst (v := (nI (0))) hg dX11_loadHeaps_9 (by decide) ?_
  refine A_aload_n hg dX11_loadHeaps_10 rfl rfl ?_
  refine A_getf (v := .ref (q_h G + 281)) hg fl_RX11_13 dX11_loadHeaps_11 hc_2 (by omega) rfl ?_
  refine A_iconst (v := (nI (0))) hg dX11_loadHeaps_14 (by decide) ?_
  refine A_vS (kc2 := 0) (ks2 := 0) (As := [.ref (q_h G + 280), .int (nI (0)), .ref (q_h G + 281), .int (nI (0))]) (rest := []) hg lk_RX11_73 st_X11_copies dX11_loadHeaps_15 ⟨by decide, by decide⟩ rfl rfl ⟨by decide, by decide⟩ rfl rfl (Nat.le_of_ble_eq_true rfl) (c_X11_copies G ex n σ_1 280 281 265 265 g wk 0 0 hc_5 hc_6 (by omega) (by omega) (by omega) (by omega) (by omega) (by omega) (by omega) (by omega)) ?_
  rintro σ_9 ⟨wk2, hh1_wk2, hh2_wk2, hc_7, hf_8⟩
  have hc_10 : σ_9 292 = q_an G 600 f := (hf_8 _ (by omega)).trans hc_4
  have hc_11 : σ_9 280 = q_an G 265 g := (hf_8 _ (by omega)).trans hc_5
  have hc_12 : σ_9 279 = o11 G (upd F 7 (nI (0))) := (hf_8 _ (by omega)).trans hc_2
  refine A_aload_n hg dX11_loadHeaps_18 rfl rfl ?_
  refine A_vV (kc2 := 0) (ks2 := 0) (As := []) (rest := []) hg lk_RX11_57 in_X11_begins se_X11_begins rfl dX11_loadHeaps_19 ⟨by decide, by decide⟩ rfl rfl ⟨by decide, by decide⟩ hc_12 (by omega) rfl rfl (Nat.le_of_ble_eq_true rfl) (c_X11_begins G ex n σ_9 (upd F 7 (nI (0))) g hc_12 hc_11 (by omega)) ?_
  rintro σ_15 ⟨gz, hgz, hc_13, hf_14⟩
  have hc_16 : σ_15 292 = q_an G 600 f := (hf_14 _ (by omega)).trans hc_10
  have hc_17 : σ_15 279 = o11 G (upd F 7 (nI (0))) := (hf_14 _ (by omega)).trans hc_12
  have hc_18 : σ_15 281 = q_an G 265 wk2 := (hf_14 _ (by omega)).trans hc_7
  refine A_canon rd_g0 hc_13 (fun jj hj => hgz jj hj) (fun σ_19 hc_20 hf_21 => ?_)
  have hc_22 : σ_19 292 = q_an G 600 f := (hf_21 _ (by omega)).trans hc_16
  have hc_23 : σ_19 279 = o11 G (upd F 7 (nI (0))) := (hf_21 _ (by omega)).trans hc_17
  have hc_24 : σ_19 281 = q_an G 265 wk2 := (hf_21 _ (by omega)).trans hc_18
  refine A_aload_n hg dX11_loadHeaps_22 rfl rfl ?_
  refine A_iconst (v := (nI (0))) hg dX11_loadHeaps_23 (by decide) ?_
  refine A_putf hg fl_RX11_277 dX11_loadHeaps_24 hc_23 (by omega) (Nat.le_of_ble_eq_true rfl) rfl rfl rfl (fun σ_25 hc_26 hf_27 => ?_)
  have hc_26 : σ_25 279 = o11 G (upd (upd F 7 (nI (0))) 24 (nI (0))) := hc_26
  have hc_28 : σ_25 292 = q_an G 600 f := (hf_27 _ (by omega)).trans hc_22
  have hc_29 : σ_25 281 = q_an G 265 wk2 := (hf_27 _ (by omega)).trans hc_24
  have hc_30 : σ_25 280 = q_an G 265 rd_g0 := (hf_27 _ (by omega)).trans hc_20
  refine A_aload_n hg dX11_loadHeaps_27 rfl rfl ?_
  refine A_iconst (v := (q_d (0))) hg dX11_loadHeaps_28 (by decide) ?_
  refine A_putf hg fl_RX11_280 dX11_loadHeaps_29 hc_26 (by omega) (Nat.le_of_ble_eq_true rfl) rfl rfl rfl (fun σ_31 hc_32 hf_33 => ?_)
  have hc_32 : σ_31 279 = o11 G (upd (upd (upd F 7 (nI (0))) 24 (nI (0))) 25 (q_d (0))) := hc_32
  have hc_34 : σ_31 292 = q_an G 600 f := (hf_33 _ (by omega)).trans hc_28
  have hc_35 : σ_31 281 = q_an G 265 wk2 := (hf_33 _ (by omega)).trans hc_29
  have hc_36 : σ_31 280 = q_an G 265 rd_g0 := (hf_33 _ (by omega)).trans hc_30
  refine A_aload_n hg dX11_loadHeaps_32 rfl rfl ?_
  refine A_iconst (v := (nI (0))) hg dX11_loadHeaps_33 (by decide) ?_
  refine A_putf hg fl_RX11_262 dX11_loadHeaps_34 hc_32 (by omega) (Nat.le_of_ble_eq_true rfl) rfl rfl rfl (fun σ_37 hc_38 hf_39 => ?_)
  have hc_38 : σ_37 279 = o11 G (upd (upd (upd (upd F 7 (nI (0))) 24 (nI (0))) 25 (q_d (0))) 26 (nI (0))) := hc_38
  have hc_40 : σ_37 292 = q_an G 600 f := (hf_39 _ (by omega)).trans hc_34
  have hc_41 : σ_37 281 = q_an G 265 wk2 := (hf_39 _ (by omega)).trans hc_35
  have hc_42 : σ_37 280 = q_an G 265 rd_g0 := (hf_39 _ (by omega)).trans hc_36
  refine A_aload_n hg dX11_loadHeaps_37 rfl rfl ?_
  refine A_iconst (v := (nI (0))) hg dX11_loadHeaps_38 (by decide) ?_
  refine A_putf hg fl_RX11_353 dX11_loadHeaps_39 hc_38 (by omega) (Nat.le_of_ble_eq_true rfl) rfl rfl rfl (fun σ_43 hc_44 hf_45 => ?_)
  have hc_44 : σ_43 279 = o11 G (upd (upd (upd (upd (upd F 7 (nI (0))) 24 (nI (0))) 25 (q_d (0))) 26 (nI (0))) 29 (nI (0))) := hc_44
  have hc_46 : σ_43 292 = q_an G 600 f := (hf_45 _ (by omega)).trans hc_40
  have hc_47 : σ_43 281 = q_an G 265 wk2 := (hf_45 _ (by omega)).trans hc_41
  have hc_48 : σ_43 280 = q_an G 265 rd_g0 := (hf_45 _ (by omega)).trans hc_42
  refine A_aload_n hg dX11_loadHeaps_42 rfl rfl ?_
  refine A_vV (kc2 := 0) (ks2 := 0) (As := []) (rest := []) hg lk_RX11_301 in_X11_advanceToken se_X11_advanceToken rfl dX11_loadHeaps_43 ⟨by decide, by decide⟩ rfl rfl ⟨by decide, by decide⟩ hc_44 (by omega) rfl rfl (Nat.le_of_ble_eq_true rfl) (c_X11_advanceToken G ex n σ_43 (upd (upd (upd (upd (upd F 7 (nI (0))) 24 (nI (0))) 25 (q_d (0))) 26 (nI (0))) 29 (nI (0))) f m 0 hc_44 hc_46 (by omega) hF21 (by omega) hbb (Nat.zero_le _) rfl) ?_
  rintro σ_51 ⟨F_t2, t2, ht_t2, htm_t2, hfr_t2, h26_t2, h27_t2, h28_t2, h30_t2, hc_49, hf_50⟩
  have hc_52 : σ_51 292 = q_an G 600 f := (hf_50 _ (by omega)).trans hc_46
  have hc_53 : σ_51 281 = q_an G 265 wk2 := (hf_50 _ (by omega)).trans hc_47
  have hc_54 : σ_51 280 = q_an G 265 rd_g0 := (hf_50 _ (by omega)).trans hc_48
  refine A_aload_n hg dX11_loadHeaps_46 rfl rfl ?_
  refine A_hV (kc2 := 0) (ks2 := 0) (As := []) (rest := []) hg lk_RX11_380 in_X11_readText se_X11_readText rfl dX11_loadHeaps_47 ⟨by decide, by decide⟩ rfl rfl ⟨by decide, by decide⟩ hc_49 (by omega) rfl rfl (Nat.le_of_ble_eq_true rfl) (c_X11_readText G ex n σ_51 F_t2 rd_g0 f m t2 0 hc_49 hc_52 hc_54 (by omega) ((hfr_t2 21 (by decide)).trans hF21) (by omega) hbb (by omega) ((hfr_t2 24 (by decide)).trans rfl) h26_t2 h27_t2 h28_t2 h30_t2 ((hfr_t2 29 (by decide)).trans rfl) (by omega) rd_inv_0) ?_
  rintro _ σ_61 (⟨F_t3, g3, c_t3, o_t3, rfl, hR_t3, hc0_t3, hfr_t3, h24_t3, h25_t3, hc_55, hc_56, hf_57⟩ | ⟨F_t3, t3, g3, rfl, hR_t3, htm_t3, hge_t3, hfr_t3, h26_t3, h27_t3, h28_t3, h30_t3, hc_58, hc_59, hf_60⟩)
  · skip
    refine (?_ : AJ G K Q 0 0 ex n 50 [some (.ref (q_h G + 279)), none] [.int (nI (0))] σ_61)
    have hc_62 : σ_61 292 = q_an G 600 f := (hf_57 _ (by omega)).trans hc_52
    have hc_63 : σ_61 281 = q_an G 265 wk2 := (hf_57 _ (by omega)).trans hc_53
    refine A_istore_n hg dX11_loadHeaps_50 rfl (by decide) (q_c1d rfl) ?_
    refine A_eq (ls2 := [some (.ref (q_h G + 279)), some (.int (nI (0)))]) (st2 := []) (pc2 := 0) rfl rfl ?_
    refine A_aload_n hg dX11_loadHeaps_51 rfl rfl ?_
    refine A_iconst (v := (nI (0))) hg dX11_loadHeaps_52 (by decide) ?_
    refine A_putf hg fl_RX11_253 dX11_loadHeaps_53 hc_55 (by omega) (Nat.le_of_ble_eq_true rfl) rfl rfl rfl (fun σ_64 hc_65 hf_66 => ?_)
    have hc_65 : σ_64 279 = o11 G (upd F_t3 21 (nI (0))) := hc_65
    have hc_67 : σ_64 292 = q_an G 600 f := (hf_66 _ (by omega)).trans hc_62
    have hc_68 : σ_64 281 = q_an G 265 wk2 := (hf_66 _ (by omega)).trans hc_63
    have hc_69 : σ_64 280 = q_an G 265 g3 := (hf_66 _ (by omega)).trans hc_56
    refine A_aload_n hg dX11_loadHeaps_56 rfl rfl ?_
    refine A_aload_n hg dX11_loadHeaps_57 rfl rfl ?_
    refine A_getf (v := .int (nI (c_t3))) hg fl_RX11_277 dX11_loadHeaps_58 hc_65 (by omega) (congrArg (fun z => some (Value.int z)) h24_t3) ?_
    refine A_putf hg fl_RX11_383 dX11_loadHeaps_61 hc_65 (by omega) (Nat.le_of_ble_eq_true rfl) rfl rfl rfl (fun σ_70 hc_71 hf_72 => ?_)
    have hc_71 : σ_70 279 = o11 G (upd (upd F_t3 21 (nI (0))) 22 (nI (c_t3))) := hc_71
    have hc_73 : σ_70 292 = q_an G 600 f := (hf_72 _ (by omega)).trans hc_67
    have hc_74 : σ_70 281 = q_an G 265 wk2 := (hf_72 _ (by omega)).trans hc_68
    have hc_75 : σ_70 280 = q_an G 265 g3 := (hf_72 _ (by omega)).trans hc_69
    refine A_aload_n hg dX11_loadHeaps_64 rfl rfl ?_
    refine A_aload_n hg dX11_loadHeaps_65 rfl rfl ?_
    refine A_getf (v := .int (nI (o_t3))) hg fl_RX11_280 dX11_loadHeaps_66 hc_71 (by omega) (congrArg (fun z => some (Value.int z)) h25_t3) ?_
    refine A_putf hg fl_RX11_50 dX11_loadHeaps_69 hc_71 (by omega) (Nat.le_of_ble_eq_true rfl) rfl rfl rfl (fun σ_76 hc_77 hf_78 => ?_)
    have hc_77 : σ_76 279 = o11 G (upd (upd (upd F_t3 21 (nI (0))) 22 (nI (c_t3))) 23 (nI (o_t3))) := hc_77
    have hc_79 : σ_76 292 = q_an G 600 f := (hf_78 _ (by omega)).trans hc_73
    have hc_80 : σ_76 281 = q_an G 265 wk2 := (hf_78 _ (by omega)).trans hc_74
    have hc_81 : σ_76 280 = q_an G 265 g3 := (hf_78 _ (by omega)).trans hc_75
    refine A_iload_n hg dX11_loadHeaps_72 rfl rfl ?_
    refine A_if_neN (tgt := 91) hg dX11_loadHeaps_73 (by decide) (by decide) (fun c73 => absurd (by decide) c73) (fun c73 => ?_)
    refine A_aload_n hg dX11_loadHeaps_76 rfl rfl ?_
    refine A_getf (v := .ref (q_h G + 281)) hg fl_RX11_13 dX11_loadHeaps_77 hc_77 (by omega) rfl ?_
    refine A_iconst (v := (nI (0))) hg dX11_loadHeaps_80 (by decide) ?_
    refine A_aload_n hg dX11_loadHeaps_81 rfl rfl ?_
    refine A_getf (v := .ref (q_h G + 280)) hg fl_RX11_7 dX11_loadHeaps_82 hc_77 (by omega) rfl ?_
    refine A_iconst (v := (nI (0))) hg dX11_loadHeaps_85 (by decide) ?_
    refine A_vS (kc2 := 0) (ks2 := 0) (As := [.ref (q_h G + 281), .int (nI (0)), .ref (q_h G + 280), .int (nI (0))]) (rest := []) hg lk_RX11_73 st_X11_copies dX11_loadHeaps_86 ⟨by decide, by decide⟩ rfl rfl ⟨by decide, by decide⟩ rfl rfl (Nat.le_of_ble_eq_true rfl) (c_X11_copies G ex n σ_76 281 280 265 265 wk2 g3 0 0 hc_80 hc_81 (by omega) (by omega) (by omega) (by omega) (by omega) (by omega) (by omega) (by omega)) ?_
    rintro σ_84 ⟨g8, hh1_g8, hh2_g8, hc_82, hf_83⟩
    have hc_85 : σ_84 292 = q_an G 600 f := (hf_83 _ (by omega)).trans hc_79
    have hc_86 : σ_84 281 = q_an G 265 wk2 := (hf_83 _ (by omega)).trans hc_80
    have hc_87 : σ_84 279 = o11 G (upd (upd (upd F_t3 21 (nI (0))) 22 (nI (c_t3))) 23 (nI (o_t3))) := (hf_83 _ (by omega)).trans hc_77
    refine A_canon g hc_82 (fun jj hj => by have e := hh1_g8 jj hj; have e2 := hh1_wk2 jj hj; rw [Nat.zero_add] at e e2; exact e.trans e2) (fun σ_88 hc_89 hf_90 => ?_)
    have hc_91 : σ_88 292 = q_an G 600 f := (hf_90 _ (by omega)).trans hc_85
    have hc_92 : σ_88 281 = q_an G 265 wk2 := (hf_90 _ (by omega)).trans hc_86
    have hc_93 : σ_88 279 = o11 G (upd (upd (upd F_t3 21 (nI (0))) 22 (nI (c_t3))) 23 (nI (o_t3))) := (hf_90 _ (by omega)).trans hc_87
    refine A_iconst (v := (q_d (0))) hg dX11_loadHeaps_89 (by decide) ?_
    rw [hQ]
    exact A_ireturn hg (by decide) (by decide) rfl dX11_loadHeaps_90 ⟨rfl, Or.inl (⟨(upd (upd (upd F_t3 21 (nI (0))) 22 (nI (c_t3))) 23 (nI (o_t3))), wk2, c_t3, o_t3, rfl, (by unfold rd_all; rw [← ht_t2]; exact hR_t3), hc0_t3, (fun j hj => ((q_upn (by omega)).trans ((q_upn (by omega)).trans ((q_upn (by omega)).trans ((hfr_t3 j (by omega)).trans ((hfr_t2 j (by omega)).trans ((q_upn (by omega)).trans ((q_upn (by omega)).trans ((q_upn (by omega)).trans ((q_upn (by omega)).trans (q_upn (by omega)))))))))))), ((hfr_t3 7 (by decide)).trans ((hfr_t2 7 (by decide)).trans rfl)), rfl, rfl, rfl, hc_93, hc_89, hc_92, (fun i hi => ((hf_90 i (by omega)).trans ((hf_83 i (by omega)).trans ((hf_78 i (by omega)).trans ((hf_72 i (by omega)).trans ((hf_66 i (by omega)).trans ((hf_57 i (by omega)).trans ((hf_50 i (by omega)).trans ((hf_45 i (by omega)).trans ((hf_39 i (by omega)).trans ((hf_33 i (by omega)).trans ((hf_27 i (by omega)).trans ((hf_21 i (by omega)).trans ((hf_14 i (by omega)).trans ((hf_8 i (by omega)).trans (hf_3 i (by omega)))))))))))))))))⟩)⟩
  · skip
    refine (?_ : AJ G K Q 0 0 ex n 50 [some (.ref (q_h G + 279)), none] [.int (nI (1))] σ_61)
    have hc_94 : σ_61 292 = q_an G 600 f := (hf_60 _ (by omega)).trans hc_52
    have hc_95 : σ_61 281 = q_an G 265 wk2 := (hf_60 _ (by omega)).trans hc_53
    refine A_istore_n hg dX11_loadHeaps_50 rfl (by decide) (q_c1d rfl) ?_
    refine A_eq (ls2 := [some (.ref (q_h G + 279)), some (.int (nI (1)))]) (st2 := []) (pc2 := 0) rfl rfl ?_
    refine A_aload_n hg dX11_loadHeaps_51 rfl rfl ?_
    refine A_iconst (v := (nI (0))) hg dX11_loadHeaps_52 (by decide) ?_
    refine A_putf hg fl_RX11_253 dX11_loadHeaps_53 hc_58 (by omega) (Nat.le_of_ble_eq_true rfl) rfl rfl rfl (fun σ_96 hc_97 hf_98 => ?_)
    have hc_97 : σ_96 279 = o11 G (upd F_t3 21 (nI (0))) := hc_97
    have hc_99 : σ_96 292 = q_an G 600 f := (hf_98 _ (by omega)).trans hc_94
    have hc_100 : σ_96 281 = q_an G 265 wk2 := (hf_98 _ (by omega)).trans hc_95
    have hc_101 : σ_96 280 = q_an G 265 g3 := (hf_98 _ (by omega)).trans hc_59
    refine A_aload_n hg dX11_loadHeaps_56 rfl rfl ?_
    refine A_aload_n hg dX11_loadHeaps_57 rfl rfl ?_
    refine A_getf (v := .int (nI (0))) hg fl_RX11_277 dX11_loadHeaps_58 hc_97 (by omega) (congrArg (fun z => some (Value.int z)) ((hfr_t3 24 (by decide)).trans ((hfr_t2 24 (by decide)).trans rfl))) ?_
    refine A_putf hg fl_RX11_383 dX11_loadHeaps_61 hc_97 (by omega) (Nat.le_of_ble_eq_true rfl) rfl rfl rfl (fun σ_102 hc_103 hf_104 => ?_)
    have hc_103 : σ_102 279 = o11 G (upd (upd F_t3 21 (nI (0))) 22 (nI (0))) := hc_103
    have hc_105 : σ_102 292 = q_an G 600 f := (hf_104 _ (by omega)).trans hc_99
    have hc_106 : σ_102 281 = q_an G 265 wk2 := (hf_104 _ (by omega)).trans hc_100
    have hc_107 : σ_102 280 = q_an G 265 g3 := (hf_104 _ (by omega)).trans hc_101
    refine A_aload_n hg dX11_loadHeaps_64 rfl rfl ?_
    refine A_aload_n hg dX11_loadHeaps_65 rfl rfl ?_
    refine A_getf (v := .int (q_d (0))) hg fl_RX11_280 dX11_loadHeaps_66 hc_103 (by omega) (congrArg (fun z => some (Value.int z)) ((hfr_t3 25 (by decide)).trans ((hfr_t2 25 (by decide)).trans rfl))) ?_
    refine A_putf hg fl_RX11_50 dX11_loadHeaps_69 hc_103 (by omega) (Nat.le_of_ble_eq_true rfl) rfl rfl rfl (fun σ_108 hc_109 hf_110 => ?_)
    have hc_109 : σ_108 279 = o11 G (upd (upd (upd F_t3 21 (nI (0))) 22 (nI (0))) 23 (q_d (0))) := hc_109
    have hc_111 : σ_108 292 = q_an G 600 f := (hf_110 _ (by omega)).trans hc_105
    have hc_112 : σ_108 281 = q_an G 265 wk2 := (hf_110 _ (by omega)).trans hc_106
    have hc_113 : σ_108 280 = q_an G 265 g3 := (hf_110 _ (by omega)).trans hc_107
    refine A_iload_n hg dX11_loadHeaps_72 rfl rfl ?_
    refine A_if_neN (tgt := 91) hg dX11_loadHeaps_73 (by decide) (by decide) (fun c73 => ?_) (fun c73 => absurd c73 (by decide))
    have hgi3 := (rd_t_inv (m + 1) rd_inv_0 hR_t3).1
    refine A_aload_n hg dX11_loadHeaps_91 rfl rfl ?_
    refine A_iconst (v := (nI (0))) hg dX11_loadHeaps_92 (by decide) ?_
    refine A_putf hg fl_RX11_70 dX11_loadHeaps_93 hc_109 (by omega) (Nat.le_of_ble_eq_true rfl) rfl rfl rfl (fun σ_114 hc_115 hf_116 => ?_)
    have hc_115 : σ_114 279 = o11 G (upd (upd (upd (upd F_t3 5 (nI (0))) 21 (nI (0))) 22 (nI (0))) 23 (q_d (0))) := hc_115
    have hc_117 : σ_114 292 = q_an G 600 f := (hf_116 _ (by omega)).trans hc_111
    have hc_118 : σ_114 281 = q_an G 265 wk2 := (hf_116 _ (by omega)).trans hc_112
    have hc_119 : σ_114 280 = q_an G 265 g3 := (hf_116 _ (by omega)).trans hc_113
    refine A_aload_n hg dX11_loadHeaps_96 rfl rfl ?_
    refine A_iconst (v := (nI (0))) hg dX11_loadHeaps_97 (by decide) ?_
    refine A_putf hg fl_RX11_386 dX11_loadHeaps_98 hc_115 (by omega) (Nat.le_of_ble_eq_true rfl) rfl rfl rfl (fun σ_120 hc_121 hf_122 => ?_)
    have hc_121 : σ_120 279 = o11 G (upd (upd (upd (upd (upd F_t3 5 (nI (0))) 6 (nI (0))) 21 (nI (0))) 22 (nI (0))) 23 (q_d (0))) := hc_121
    have hc_123 : σ_120 292 = q_an G 600 f := (hf_122 _ (by omega)).trans hc_117
    have hc_124 : σ_120 281 = q_an G 265 wk2 := (hf_122 _ (by omega)).trans hc_118
    have hc_125 : σ_120 280 = q_an G 265 g3 := (hf_122 _ (by omega)).trans hc_119
    refine A_aload_n hg dX11_loadHeaps_101 rfl rfl ?_
    refine A_eV (kc2 := 0) (ks2 := 0) (As := []) (rest := []) hg lk_RX11_179 in_X11_parts se_X11_parts rfl dX11_loadHeaps_102 ⟨by decide, by decide⟩ rfl rfl ⟨by decide, by decide⟩ hc_121 (by omega) rfl rfl (Nat.le_of_ble_eq_true rfl) (c_X11_parts G ex n σ_120 (upd (upd (upd (upd (upd F_t3 5 (nI (0))) 6 (nI (0))) 21 (nI (0))) 22 (nI (0))) 23 (q_d (0))) g3 hc_121 hc_125 (by omega)) ?_
    rw [hQ]
    exact A_ireturn hg (by decide) (by decide) rfl dX11_loadHeaps_105 ⟨rfl, Or.inr ((⟨(upd (upd (upd (upd (upd F_t3 5 (nI (0))) 6 (nI (0))) 21 (nI (0))) 22 (nI (0))) 23 (q_d (0))), wk2, g3, t3, rfl, (by unfold rd_all; rw [← ht_t2]; exact hR_t3), (fun j hj => ((q_upn (by omega)).trans ((q_upn (by omega)).trans ((q_upn (by omega)).trans ((q_upn (by omega)).trans ((q_upn (by omega)).trans ((hfr_t3 j (by omega)).trans ((hfr_t2 j (by omega)).trans ((q_upn (by omega)).trans ((q_upn (by omega)).trans ((q_upn (by omega)).trans ((q_upn (by omega)).trans (q_upn (by omega)))))))))))))), ((hfr_t3 7 (by decide)).trans ((hfr_t2 7 (by decide)).trans rfl)), rfl, rfl, rfl, rfl, rfl, hc_121, hc_125, hc_124, (fun i hi => ((hf_122 i (by omega)).trans ((hf_116 i (by omega)).trans ((hf_110 i (by omega)).trans ((hf_104 i (by omega)).trans ((hf_98 i (by omega)).trans ((hf_60 i (by omega)).trans ((hf_50 i (by omega)).trans ((hf_45 i (by omega)).trans ((hf_39 i (by omega)).trans ((hf_33 i (by omega)).trans ((hf_27 i (by omega)).trans ((hf_21 i (by omega)).trans ((hf_14 i (by omega)).trans ((hf_8 i (by omega)).trans (hf_3 i (by omega)))))))))))))))))⟩))⟩
end
