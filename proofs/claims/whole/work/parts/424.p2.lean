section
set_option maxRecDepth 100000 in
set_option maxHeartbeats 4000000 in
theorem c_X11_writePart (G : GL) (ex : Bool) (n : Nat) (σ : Nat → va_E) (F : Nat → Int32) (L : List Nat) (o : Nat → Nat) (g : Nat → Nat) (p : Nat) (hc0 : σ 279 = o11 G F) (hc1 : σ 293 = q_an G 300 o) (hc2 : σ 280 = q_an G 265 g) (hn : 294 ≤ n) (hF33 : F 33 = nI L.length) (hO : ∀ j : Nat, j < L.length → o j = L.getD j 0) (hg9 : s_gwf g) (hp : p < s_np g) (hl : L.length + 14 ≤ 300) : Ct G yX11_writePart cX11_writePart 2 none ⟨2, 0, 0, 44⟩ [.ref (q_h G + 279), .int (nI (p))] ex n σ (fun v9 σ2 => v9 = none ∧ ∃ (L' : List Nat), ∃ (o' : Nat → Nat), (L' = L ++ s_prt g p) ∧ (L'.length ≤ L.length + 14) ∧ (∀ j : Nat, j < L'.length → o' j = L'.getD j 0) ∧ σ2 279 = o11 G (upd F 33 (nI (L'.length))) ∧ σ2 293 = q_an G 300 o' ∧ (∀ i : Nat, i ≠ 279 ∧ i ≠ 293 → σ2 i = σ i)) := by
  refine q_enter [some (.ref (q_h G + 279)), some (.int (nI (p)))] (by decide) (Nat.le_of_ble_eq_true rfl) rfl ?_
  intro K hg
  obtain ⟨Q, hQ⟩ : ∃ Q, Q = q_Q G K ex n 0 0 (fun v9 n' σ' => n' = n ∧ (fun v9 σ2 => v9 = none ∧ ∃ (L' : List Nat), ∃ (o' : Nat → Nat), (L' = L ++ s_prt g p) ∧ (L'.length ≤ L.length + 14) ∧ (∀ j : Nat, j < L'.length → o' j = L'.getD j 0) ∧ σ2 279 = o11 G (upd F 33 (nI (L'.length))) ∧ σ2 293 = q_an G 300 o' ∧ (∀ i : Nat, i ≠ 279 ∧ i ≠ 293 → σ2 i = σ i)) v9 σ') q_noX := ⟨_, rfl⟩
  refine (?_ : AJ G K (q_Q G K ex n 0 0 _ _) 0 0 ex n 0 _ _ σ)
  rw [← hQ]
  have hnp := s_np_le hg9
  have hg1 : g 1 ≤ 4 := hg9.2.1
  have hg2 : g 2 ≤ 4 := hg9.2.2.1
  have hsp : s_np g = g 1 + g 2 := rfl
  have hbd := hg9.2.2.2.2.2.2.1 p
  have hsk := hg9.2.2.2.2.2.2.2 (p - g 1)
  refine A_aload_n hg dX11_writePart_0 rfl rfl ?_
  refine A_iload_n hg dX11_writePart_1 rfl rfl ?_
  refine A_eV (kc2 := 0) (ks2 := 0) (As := [.int (nI (p))]) (rest := []) hg lk_RX11_182 in_X11_isBoard se_X11_isBoard rfl dX11_writePart_2 ⟨by decide, by decide⟩ rfl rfl ⟨by decide, by decide⟩ hc0 (by omega) rfl rfl (Nat.le_of_ble_eq_true rfl) (c_X11_isBoard G ex n σ F g p hc0 hc2 (by omega) (by omega) (by omega)) ?_
  refine A_if_eqB (tgt := 51) hg dX11_writePart_5 (by decide) (fun c5 => ?_) (fun c5 => ?_)
  · skip
    have hib : ¬ p < g 1 := of_decide_eq_false c5
    have hsk1 := hsk (by omega)
    refine A_aload_n hg dX11_writePart_51 rfl rfl ?_
    refine A_aload_n hg dX11_writePart_52 rfl rfl ?_
    refine A_aload_n hg dX11_writePart_53 rfl rfl ?_
    refine A_iload_n hg dX11_writePart_54 rfl rfl ?_
    refine A_eV (kc2 := 0) (ks2 := 0) (As := [.int (nI (p))]) (rest := [.ref (q_h G + 279), .ref (q_h G + 279)]) hg lk_RX11_191 in_X11_stickOf se_X11_stickOf rfl dX11_writePart_55 ⟨by decide, by decide⟩ rfl rfl ⟨by decide, by decide⟩ hc0 (by omega) rfl rfl (Nat.le_of_ble_eq_true rfl) (c_X11_stickOf G ex n σ F g p hc0 hc2 (by omega) (by omega)) ?_
    refine A_iconst (v := (nI (0))) hg dX11_writePart_58 (by decide) ?_
    refine A_eV (kc2 := 0) (ks2 := 0) (As := [.int (nI (p - g 1)), .int (nI (0))]) (rest := [.ref (q_h G + 279)]) hg lk_RX11_194 in_X11_ofStick se_X11_ofStick rfl dX11_writePart_59 ⟨by decide, by decide⟩ rfl rfl ⟨by decide, by decide⟩ hc0 (by omega) rfl rfl (Nat.le_of_ble_eq_true rfl) (c_X11_ofStick G ex n σ F g (p - g 1) 0 hc0 hc2 (by omega) (by omega)) ?_
    refine A_vV (kc2 := 0) (ks2 := 0) (As := [.int (nI (g (153 + 3 * (p - g 1) + 0)))]) (rest := []) hg lk_RX11_478 in_X11_writeNumber se_X11_writeNumber rfl dX11_writePart_62 ⟨by decide, by decide⟩ rfl rfl ⟨by decide, by decide⟩ hc0 (by omega) rfl rfl (Nat.le_of_ble_eq_true rfl) (c_X11_writeNumber G ex n σ F L o (g (153 + 3 * (p - g 1) + 0)) hc0 hc1 (by omega) hF33 (by assumption) (by omega) (by omega)) ?_
    rintro σ_4 ⟨L62, o62, hL62, hlen62, hO62, hc_1, hc_2, hf_3⟩
    have hc_1 : σ_4 279 = o11 G (upd F 33 (nI (L62.length))) := hc_1
    have hc_5 : σ_4 280 = q_an G 265 g := (hf_3 _ (by omega)).trans hc2
    refine A_aload_n hg dX11_writePart_65 rfl rfl ?_
    refine A_bipush (v := (nI (47))) hg dX11_writePart_66 (by decide) ?_
    refine A_vV (kc2 := 0) (ks2 := 0) (As := [.int (nI (47))]) (rest := []) hg lk_RX11_475 in_X11_write se_X11_write rfl dX11_writePart_68 ⟨by decide, by decide⟩ rfl rfl ⟨by decide, by decide⟩ hc_1 (by omega) rfl rfl (Nat.le_of_ble_eq_true rfl) (c_X11_write G ex n σ_4 (upd F 33 (nI (L62.length))) L62 o62 47 hc_1 hc_2 (by omega) rfl (by assumption) (by omega)) ?_
    rintro σ_9 ⟨L68, o68, hL68, hlen68, hO68, hc_6, hc_7, hf_8⟩
    have hc_6 : σ_9 279 = o11 G (upd F 33 (nI (L68.length))) := hc_6
    have hc_10 : σ_9 280 = q_an G 265 g := (hf_8 _ (by omega)).trans hc_5
    refine A_aload_n hg dX11_writePart_71 rfl rfl ?_
    refine A_aload_n hg dX11_writePart_72 rfl rfl ?_
    refine A_aload_n hg dX11_writePart_73 rfl rfl ?_
    refine A_iload_n hg dX11_writePart_74 rfl rfl ?_
    refine A_eV (kc2 := 0) (ks2 := 0) (As := [.int (nI (p))]) (rest := [.ref (q_h G + 279), .ref (q_h G + 279)]) hg lk_RX11_191 in_X11_stickOf se_X11_stickOf rfl dX11_writePart_75 ⟨by decide, by decide⟩ rfl rfl ⟨by decide, by decide⟩ hc_6 (by omega) rfl rfl (Nat.le_of_ble_eq_true rfl) (c_X11_stickOf G ex n σ_9 (upd F 33 (nI (L68.length))) g p hc_6 hc_10 (by omega) (by omega)) ?_
    refine A_iconst (v := (nI (1))) hg dX11_writePart_78 (by decide) ?_
    refine A_eV (kc2 := 0) (ks2 := 0) (As := [.int (nI (p - g 1)), .int (nI (1))]) (rest := [.ref (q_h G + 279)]) hg lk_RX11_194 in_X11_ofStick se_X11_ofStick rfl dX11_writePart_79 ⟨by decide, by decide⟩ rfl rfl ⟨by decide, by decide⟩ hc_6 (by omega) rfl rfl (Nat.le_of_ble_eq_true rfl) (c_X11_ofStick G ex n σ_9 (upd F 33 (nI (L68.length))) g (p - g 1) 1 hc_6 hc_10 (by omega) (by omega)) ?_
    refine A_vV (kc2 := 0) (ks2 := 0) (As := [.int (nI (g (153 + 3 * (p - g 1) + 1)))]) (rest := []) hg lk_RX11_478 in_X11_writeNumber se_X11_writeNumber rfl dX11_writePart_82 ⟨by decide, by decide⟩ rfl rfl ⟨by decide, by decide⟩ hc_6 (by omega) rfl rfl (Nat.le_of_ble_eq_true rfl) (c_X11_writeNumber G ex n σ_9 (upd F 33 (nI (L68.length))) L68 o68 (g (153 + 3 * (p - g 1) + 1)) hc_6 hc_7 (by omega) rfl (by assumption) (by omega) (by omega)) ?_
    rintro σ_14 ⟨L82, o82, hL82, hlen82, hO82, hc_11, hc_12, hf_13⟩
    have hc_11 : σ_14 279 = o11 G (upd F 33 (nI (L82.length))) := hc_11
    have hc_15 : σ_14 280 = q_an G 265 g := (hf_13 _ (by omega)).trans hc_10
    rw [hQ]
    exact A_return hg (by decide) (by decide) rfl dX11_writePart_85 ⟨rfl, ⟨rfl, L82, o82, (by rw [hL82, hL68, hL62]; exact s_prt_s hib L), (by omega), (by assumption), hc_11, hc_12, (fun i hi => ((hf_13 i (by omega)).trans ((hf_8 i (by omega)).trans (hf_3 i (by omega)))))⟩⟩
  · skip
    have hib : p < g 1 := of_decide_eq_true c5
    have hbd1 := hbd hib
    have hr4 := hg9.1
    have hw1 := (hg9.2.2.2.2.2.1 _ hbd1.1).1
    have hbb9 := hg9.2.2.2.2.2.2.1 p hib
    refine A_aload_n hg dX11_writePart_8 rfl rfl ?_
    refine A_aload_n hg dX11_writePart_9 rfl rfl ?_
    refine A_iload_n hg dX11_writePart_10 rfl rfl ?_
    refine A_iconst (v := (nI (0))) hg dX11_writePart_11 (by decide) ?_
    refine A_eV (kc2 := 0) (ks2 := 0) (As := [.int (nI (p)), .int (nI (0))]) (rest := [.ref (q_h G + 279)]) hg lk_RX11_185 in_X11_ofBoard se_X11_ofBoard rfl dX11_writePart_12 ⟨by decide, by decide⟩ rfl rfl ⟨by decide, by decide⟩ hc0 (by omega) rfl rfl (Nat.le_of_ble_eq_true rfl) (c_X11_ofBoard G ex n σ F g p 0 hc0 hc2 (by omega) (by omega)) ?_
    refine A_vV (kc2 := 0) (ks2 := 0) (As := [.int (nI (g (133 + 5 * p + 0)))]) (rest := []) hg lk_RX11_481 in_X11_writeName se_X11_writeName rfl dX11_writePart_15 ⟨by decide, by decide⟩ rfl rfl ⟨by decide, by decide⟩ hc0 (by omega) rfl rfl (Nat.le_of_ble_eq_true rfl) (c_X11_writeName G ex n σ F L o g (g (133 + 5 * p + 0)) hc0 hc1 hc2 (by omega) hF33 (by assumption) (by omega) hw1 (by omega)) ?_
    rintro σ_19 ⟨L15, o15, hL15, hlen15, hO15, hc_16, hc_17, hf_18⟩
    have hc_16 : σ_19 279 = o11 G (upd F 33 (nI (L15.length))) := hc_16
    have hc_20 : σ_19 280 = q_an G 265 g := (hf_18 _ (by omega)).trans hc2
    refine A_aload_n hg dX11_writePart_18 rfl rfl ?_
    refine A_bipush (v := (nI (58))) hg dX11_writePart_19 (by decide) ?_
    refine A_vV (kc2 := 0) (ks2 := 0) (As := [.int (nI (58))]) (rest := []) hg lk_RX11_475 in_X11_write se_X11_write rfl dX11_writePart_21 ⟨by decide, by decide⟩ rfl rfl ⟨by decide, by decide⟩ hc_16 (by omega) rfl rfl (Nat.le_of_ble_eq_true rfl) (c_X11_write G ex n σ_19 (upd F 33 (nI (L15.length))) L15 o15 58 hc_16 hc_17 (by omega) rfl (by assumption) (by omega)) ?_
    rintro σ_24 ⟨L21, o21, hL21, hlen21, hO21, hc_21, hc_22, hf_23⟩
    have hc_21 : σ_24 279 = o11 G (upd F 33 (nI (L21.length))) := hc_21
    have hc_25 : σ_24 280 = q_an G 265 g := (hf_23 _ (by omega)).trans hc_20
    refine A_aload_n hg dX11_writePart_24 rfl rfl ?_
    refine A_aload_n hg dX11_writePart_25 rfl rfl ?_
    refine A_iload_n hg dX11_writePart_26 rfl rfl ?_
    refine A_iconst (v := (nI (1))) hg dX11_writePart_27 (by decide) ?_
    refine A_eV (kc2 := 0) (ks2 := 0) (As := [.int (nI (p)), .int (nI (1))]) (rest := [.ref (q_h G + 279)]) hg lk_RX11_185 in_X11_ofBoard se_X11_ofBoard rfl dX11_writePart_28 ⟨by decide, by decide⟩ rfl rfl ⟨by decide, by decide⟩ hc_21 (by omega) rfl rfl (Nat.le_of_ble_eq_true rfl) (c_X11_ofBoard G ex n σ_24 (upd F 33 (nI (L21.length))) g p 1 hc_21 hc_25 (by omega) (by omega)) ?_
    refine A_vV (kc2 := 0) (ks2 := 0) (As := [.int (nI (g (133 + 5 * p + 1)))]) (rest := []) hg lk_RX11_478 in_X11_writeNumber se_X11_writeNumber rfl dX11_writePart_31 ⟨by decide, by decide⟩ rfl rfl ⟨by decide, by decide⟩ hc_21 (by omega) rfl rfl (Nat.le_of_ble_eq_true rfl) (c_X11_writeNumber G ex n σ_24 (upd F 33 (nI (L21.length))) L21 o21 (g (133 + 5 * p + 1)) hc_21 hc_22 (by omega) rfl (by assumption) (by omega) (by omega)) ?_
    rintro σ_29 ⟨L31, o31, hL31, hlen31, hO31, hc_26, hc_27, hf_28⟩
    have hc_26 : σ_29 279 = o11 G (upd F 33 (nI (L31.length))) := hc_26
    have hc_30 : σ_29 280 = q_an G 265 g := (hf_28 _ (by omega)).trans hc_25
    refine A_aload_n hg dX11_writePart_34 rfl rfl ?_
    refine A_bipush (v := (nI (44))) hg dX11_writePart_35 (by decide) ?_
    refine A_vV (kc2 := 0) (ks2 := 0) (As := [.int (nI (44))]) (rest := []) hg lk_RX11_475 in_X11_write se_X11_write rfl dX11_writePart_37 ⟨by decide, by decide⟩ rfl rfl ⟨by decide, by decide⟩ hc_26 (by omega) rfl rfl (Nat.le_of_ble_eq_true rfl) (c_X11_write G ex n σ_29 (upd F 33 (nI (L31.length))) L31 o31 44 hc_26 hc_27 (by omega) rfl (by assumption) (by omega)) ?_
    rintro σ_34 ⟨L37, o37, hL37, hlen37, hO37, hc_31, hc_32, hf_33⟩
    have hc_31 : σ_34 279 = o11 G (upd F 33 (nI (L37.length))) := hc_31
    have hc_35 : σ_34 280 = q_an G 265 g := (hf_33 _ (by omega)).trans hc_30
    refine A_aload_n hg dX11_writePart_40 rfl rfl ?_
    refine A_aload_n hg dX11_writePart_41 rfl rfl ?_
    refine A_iload_n hg dX11_writePart_42 rfl rfl ?_
    refine A_iconst (v := (nI (2))) hg dX11_writePart_43 (by decide) ?_
    refine A_eV (kc2 := 0) (ks2 := 0) (As := [.int (nI (p)), .int (nI (2))]) (rest := [.ref (q_h G + 279)]) hg lk_RX11_185 in_X11_ofBoard se_X11_ofBoard rfl dX11_writePart_44 ⟨by decide, by decide⟩ rfl rfl ⟨by decide, by decide⟩ hc_31 (by omega) rfl rfl (Nat.le_of_ble_eq_true rfl) (c_X11_ofBoard G ex n σ_34 (upd F 33 (nI (L37.length))) g p 2 hc_31 hc_35 (by omega) (by omega)) ?_
    refine A_vV (kc2 := 0) (ks2 := 0) (As := [.int (nI (g (133 + 5 * p + 2)))]) (rest := []) hg lk_RX11_478 in_X11_writeNumber se_X11_writeNumber rfl dX11_writePart_47 ⟨by decide, by decide⟩ rfl rfl ⟨by decide, by decide⟩ hc_31 (by omega) rfl rfl (Nat.le_of_ble_eq_true rfl) (c_X11_writeNumber G ex n σ_34 (upd F 33 (nI (L37.length))) L37 o37 (g (133 + 5 * p + 2)) hc_31 hc_32 (by omega) rfl (by assumption) (by omega) (by omega)) ?_
    rintro σ_39 ⟨L47, o47, hL47, hlen47, hO47, hc_36, hc_37, hf_38⟩
    have hc_36 : σ_39 279 = o11 G (upd F 33 (nI (L47.length))) := hc_36
    have hc_40 : σ_39 280 = q_an G 265 g := (hf_38 _ (by omega)).trans hc_35
    rw [hQ]
    exact A_return hg (by decide) (by decide) rfl dX11_writePart_50 ⟨rfl, ⟨rfl, L47, o47, (by rw [hL47, hL37, hL31, hL21, hL15]; exact s_prt_b hib L), (by omega), (by assumption), hc_36, hc_37, (fun i hi => ((hf_38 i (by omega)).trans ((hf_33 i (by omega)).trans ((hf_28 i (by omega)).trans ((hf_23 i (by omega)).trans (hf_18 i (by omega)))))))⟩⟩
set_option maxRecDepth 100000 in
set_option maxHeartbeats 4000000 in
theorem c_X11_printParts (G : GL) (ex : Bool) (n : Nat) (σ : Nat → va_E) (F : Nat → Int32) (g : Nat → Nat) (o : Nat → Nat) (hc0 : σ 279 = o11 G F) (hc1 : σ 280 = q_an G 265 g) (hc2 : σ 293 = q_an G 300 o) (hn : 294 ≤ n) (hg9 : s_gwf g) : Ct G yX11_printParts cX11_printParts 2 (some .int) ⟨3, 0, 0, 65⟩ [.ref (q_h G + 279)] ex n σ (fun v9 σ2 => ∃ (o' : Nat → Nat), v9 = some (.int (nI ((s_prk g (s_np g)).length))) ∧ (∀ j : Nat, j < (s_prk g (s_np g)).length → o' j = (s_prk g (s_np g)).getD j 0) ∧ ((s_prk g (s_np g)).length ≤ 300) ∧ σ2 279 = o11 G (upd (upd F 7 (nI (0))) 33 (nI ((s_prk g (s_np g)).length))) ∧ σ2 293 = q_an G 300 o' ∧ (∀ i : Nat, i ≠ 279 ∧ i ≠ 293 → σ2 i = σ i)) := by
  refine q_enter [some (.ref (q_h G + 279)), none] (by decide) (Nat.le_of_ble_eq_true rfl) rfl ?_
  intro K hg
  obtain ⟨Q, hQ⟩ : ∃ Q, Q = q_Q G K ex n 0 0 (fun v9 n' σ' => n' = n ∧ (fun v9 σ2 => ∃ (o' : Nat → Nat), v9 = some (.int (nI ((s_prk g (s_np g)).length))) ∧ (∀ j : Nat, j < (s_prk g (s_np g)).length → o' j = (s_prk g (s_np g)).getD j 0) ∧ ((s_prk g (s_np g)).length ≤ 300) ∧ σ2 279 = o11 G (upd (upd F 7 (nI (0))) 33 (nI ((s_prk g (s_np g)).length))) ∧ σ2 293 = q_an G 300 o' ∧ (∀ i : Nat, i ≠ 279 ∧ i ≠ 293 → σ2 i = σ i)) v9 σ') q_noX := ⟨_, rfl⟩
  refine (?_ : AJ G K (q_Q G K ex n 0 0 _ _) 0 0 ex n 0 _ _ σ)
  rw [← hQ]
  have hnp := s_np_le hg9
  refine A_aload_n hg dX11_printParts_0 rfl rfl ?_
  refine A_iconst (v := (nI (0))) hg dX11_printParts_1 (by decide) ?_
  refine A_putf hg fl_RX11_67 dX11_printParts_2 hc0 (by omega) (Nat.le_of_ble_eq_true rfl) rfl rfl rfl (fun σ_1 hc_2 hf_3 => ?_)
  have hc_2 : σ_1 279 = o11 G (upd F 7 (nI (0))) := hc_2
  have hc_4 : σ_1 280 = q_an G 265 g := (hf_3 _ (by omega)).trans hc1
  have hc_5 : σ_1 293 = q_an G 300 o := (hf_3 _ (by omega)).trans hc2
  refine A_aload_n hg dX11_printParts_5 rfl rfl ?_
  refine A_iconst (v := (nI (0))) hg dX11_printParts_6 (by decide) ?_
  refine A_putf hg fl_RX11_472 dX11_printParts_7 hc_2 (by omega) (Nat.le_of_ble_eq_true rfl) rfl rfl rfl (fun σ_6 hc_7 hf_8 => ?_)
  have hc_7 : σ_6 279 = o11 G (upd (upd F 7 (nI (0))) 33 (nI (0))) := hc_7
  have hc_9 : σ_6 280 = q_an G 265 g := (hf_8 _ (by omega)).trans hc_4
  have hc_10 : σ_6 293 = q_an G 300 o := (hf_8 _ (by omega)).trans hc_5
  refine A_iconst (v := (nI (0))) hg dX11_printParts_10 (by decide) ?_
  refine A_istore_n hg dX11_printParts_11 rfl (by decide) (q_c1d rfl) ?_
  refine A_eq (ls2 := [some (.ref (q_h G + 279)), some (.int (nI (0)))]) (st2 := []) (pc2 := 0) rfl rfl ?_
  have hL12 : ∀ (fu : Nat) (p : Nat) (L1 : List Nat) (o1 : Nat → Nat) (F1 : Nat → Int32) (σ_11 : Nat → va_E), (σ_11 280 = q_an G 265 g) → (σ_11 293 = q_an G 300 o1) → (σ_11 279 = o11 G F1) → (∀ i : Nat, i ≠ 279 ∧ i ≠ 293 → σ_11 i = σ i) → (F1 33 = nI L1.length) → (∀ j : Nat, j ≠ 33 → F1 j = (upd F 7 (nI 0)) j) → (p ≤ s_np g) → (L1 = s_prk g p) → (L1.length ≤ 15 * p) → (∀ j : Nat, j < L1.length → o1 j = L1.getD j 0) → (s_np g - p) < fu → AJ G K Q 0 0 ex n 12 [some (.ref (q_h G + 279)), some (.int (nI (p)))] [] σ_11 := by
    intro fu
    induction fu with
    | zero => intro p L1 o1 F1 σ_11 hc_12 hc_13 hc_14 hf_15 h1_33 hfr1 hp hL1 hln hO1 hm; exact absurd hm (Nat.not_lt_zero _)
    | succ fu ih12 =>
      intro p L1 o1 F1 σ_11 hc_12 hc_13 hc_14 hf_15 h1_33 hfr1 hp hL1 hln hO1 hm12
      refine A_iload_n hg dX11_printParts_12 rfl rfl ?_
      refine A_aload_n hg dX11_printParts_13 rfl rfl ?_
      refine A_eV (kc2 := 0) (ks2 := 0) (As := []) (rest := [.int (nI (p))]) hg lk_RX11_179 in_X11_parts se_X11_parts rfl dX11_printParts_14 ⟨by decide, by decide⟩ rfl rfl ⟨by decide, by decide⟩ hc_14 (by omega) rfl rfl (Nat.le_of_ble_eq_true rfl) (c_X11_parts G ex n σ_11 F1 g hc_14 hc_12 (by omega)) ?_
      refine A_icmp_geN (tgt := 41) hg dX11_printParts_17 (by omega) (by omega) (by decide) (fun c17 => ?_) (fun c17 => ?_)
      · skip
        refine A_aload_n hg dX11_printParts_41 rfl rfl ?_
        refine A_getf (v := .int (nI (L1.length))) hg fl_RX11_472 dX11_printParts_42 hc_14 (by omega) (congrArg (fun z => some (Value.int z)) h1_33) ?_
        have hLe : L1 = (s_prk g (s_np g)) := by rw [hL1, show p = s_np g by omega]
        have hz : σ_11 279 = o11 G (upd (upd F 7 (nI 0)) 33 (nI (s_prk g (s_np g)).length)) := by rw [← hLe, ← q_fr1 hfr1 h1_33]; exact hc_14
        rw [hQ]
        exact A_ireturn hg (by decide) (by decide) rfl dX11_printParts_45 ⟨rfl, ⟨o1, (by rw [hLe]), (by rw [← hLe]; assumption), (by rw [← hLe]; omega), hz, hc_13, (fun i hi => (hf_15 i (by omega)))⟩⟩
      · skip
        refine A_iload_n hg dX11_printParts_20 rfl rfl ?_
        refine A_if_leN (tgt := 30) hg dX11_printParts_21 (by omega) (by decide) (fun c21 => ?_) (fun c21 => ?_)
        · skip
          refine A_aload_n hg dX11_printParts_30 rfl rfl ?_
          refine A_iload_n hg dX11_printParts_31 rfl rfl ?_
          refine A_vV (kc2 := 0) (ks2 := 0) (As := [.int (nI (p))]) (rest := []) hg lk_RX11_484 in_X11_writePart se_X11_writePart rfl dX11_printParts_32 ⟨by decide, by decide⟩ rfl rfl ⟨by decide, by decide⟩ hc_14 (by omega) rfl rfl (Nat.le_of_ble_eq_true rfl) (c_X11_writePart G ex n σ_11 F1 L1 o1 g p hc_14 hc_13 hc_12 (by omega) h1_33 (by assumption) hg9 (by omega) (by omega)) ?_
          rintro σ_19 ⟨L32, o32, hL32, hlen32, hO32, hc_16, hc_17, hf_18⟩
          have hc_16 : σ_19 279 = o11 G (upd F1 33 (nI (L32.length))) := hc_16
          have hc_20 : σ_19 280 = q_an G 265 g := (hf_18 _ (by omega)).trans hc_12
          refine A_iincN (k' := 1) hg dX11_printParts_35 (by decide) rfl (by decide) (q_c1d rfl) ?_
          refine A_eq (ls2 := [some (.ref (q_h G + 279)), some (.int (nI (p + 1)))]) (st2 := []) (pc2 := 0) rfl rfl ?_
          refine A_goto (tgt := 12) hg dX11_printParts_38 (by decide) ?_
          exact ih12 (p + 1) L32 o32 (upd F1 33 (nI (L32.length))) σ_19 hc_20 hc_17 hc_16 (fun i hi => ((hf_18 i (by omega)).trans (hf_15 i (by omega)))) rfl (fun j hj => (q_upn (by omega)).trans ((hfr1 j hj))) (by omega) (by rw [hL32, hL1]; exact s_prk_f (by omega)) (by omega) hO32 (by omega)
        · skip
          refine A_aload_n hg dX11_printParts_24 rfl rfl ?_
          refine A_bipush (v := (nI (32))) hg dX11_printParts_25 (by decide) ?_
          refine A_vV (kc2 := 0) (ks2 := 0) (As := [.int (nI (32))]) (rest := []) hg lk_RX11_475 in_X11_write se_X11_write rfl dX11_printParts_27 ⟨by decide, by decide⟩ rfl rfl ⟨by decide, by decide⟩ hc_14 (by omega) rfl rfl (Nat.le_of_ble_eq_true rfl) (c_X11_write G ex n σ_11 F1 L1 o1 32 hc_14 hc_13 (by omega) h1_33 (by assumption) (by omega)) ?_
          rintro σ_24 ⟨L27, o27, hL27, hlen27, hO27, hc_21, hc_22, hf_23⟩
          have hc_21 : σ_24 279 = o11 G (upd F1 33 (nI (L27.length))) := hc_21
          have hc_25 : σ_24 280 = q_an G 265 g := (hf_23 _ (by omega)).trans hc_12
          refine A_aload_n hg dX11_printParts_30 rfl rfl ?_
          refine A_iload_n hg dX11_printParts_31 rfl rfl ?_
          refine A_vV (kc2 := 0) (ks2 := 0) (As := [.int (nI (p))]) (rest := []) hg lk_RX11_484 in_X11_writePart se_X11_writePart rfl dX11_printParts_32 ⟨by decide, by decide⟩ rfl rfl ⟨by decide, by decide⟩ hc_21 (by omega) rfl rfl (Nat.le_of_ble_eq_true rfl) (c_X11_writePart G ex n σ_24 (upd F1 33 (nI (L27.length))) L27 o27 g p hc_21 hc_22 hc_25 (by omega) rfl (by assumption) hg9 (by omega) (by omega)) ?_
          rintro σ_29 ⟨L32, o32, hL32, hlen32, hO32, hc_26, hc_27, hf_28⟩
          have hc_26 : σ_29 279 = o11 G (upd F1 33 (nI (L32.length))) := hc_26
          have hc_30 : σ_29 280 = q_an G 265 g := (hf_28 _ (by omega)).trans hc_25
          refine A_iincN (k' := 1) hg dX11_printParts_35 (by decide) rfl (by decide) (q_c1d rfl) ?_
          refine A_eq (ls2 := [some (.ref (q_h G + 279)), some (.int (nI (p + 1)))]) (st2 := []) (pc2 := 0) rfl rfl ?_
          refine A_goto (tgt := 12) hg dX11_printParts_38 (by decide) ?_
          exact ih12 (p + 1) L32 o32 (upd F1 33 (nI (L32.length))) σ_29 hc_30 hc_27 hc_26 (fun i hi => ((hf_28 i (by omega)).trans ((hf_23 i (by omega)).trans (hf_15 i (by omega))))) rfl (fun j hj => (q_upn (by omega)).trans ((hfr1 j hj))) (by omega) (by rw [hL32, hL27, hL1]; exact s_prk_t (by omega)) (by omega) hO32 (by omega)
  exact hL12 _ 0 ([] : List Nat) o (upd (upd F 7 (nI (0))) 33 (nI (0))) σ_6 hc_9 hc_10 hc_7 (fun i hi => ((hf_8 i (by omega)).trans (hf_3 i (by omega)))) rfl (fun j hj => q_upn hj) (Nat.zero_le _) rfl (Nat.le_refl _) (fun j h => absurd h (Nat.not_lt_zero j)) (Nat.lt_succ_self _)
set_option maxRecDepth 100000 in
set_option maxHeartbeats 4000000 in
theorem c_X11_printRule (G : GL) (ex : Bool) (n : Nat) (σ : Nat → va_E) (F : Nat → Int32) (g : Nat → Nat) (o : Nat → Nat) (r : Int32) (hc0 : σ 279 = o11 G F) (hc1 : σ 280 = q_an G 265 g) (hc2 : σ 293 = q_an G 300 o) (hn : 294 ≤ n) (hg9 : s_gwf g) : Ct G yX11_printRule cX11_printRule 3 (some .int) ⟨5, 0, 0, 107⟩ [.ref (q_h G + 279), .int (r)] ex n σ (fun v9 σ2 => (v9 = some (.int (nI (0))) ∧ (∀ j : Nat, j < g 0 → r = nI j → False) ∧ σ2 279 = o11 G (upd F 7 (nI (1))) ∧ (∀ i : Nat, i ≠ 279 → σ2 i = σ i)) ∨ (∃ (r1 : Nat), ∃ (o' : Nat → Nat), v9 = some (.int (nI ((s_prR (s_rule g r1)).length))) ∧ (r = nI r1) ∧ (r1 < g 0) ∧ (∀ j : Nat, j < (s_prR (s_rule g r1)).length → o' j = (s_prR (s_rule g r1)).getD j 0) ∧ ((s_prR (s_rule g r1)).length ≤ 300) ∧ σ2 279 = o11 G (upd (upd F 7 (nI (0))) 33 (nI ((s_prR (s_rule g r1)).length))) ∧ σ2 293 = q_an G 300 o' ∧ (∀ i : Nat, i ≠ 279 ∧ i ≠ 293 → σ2 i = σ i))) := by
  refine q_enter [some (.ref (q_h G + 279)), some (.int (r)), none] (by decide) (Nat.le_of_ble_eq_true rfl) rfl ?_
  intro K hg
  obtain ⟨Q, hQ⟩ : ∃ Q, Q = q_Q G K ex n 0 0 (fun v9 n' σ' => n' = n ∧ (fun v9 σ2 => (v9 = some (.int (nI (0))) ∧ (∀ j : Nat, j < g 0 → r = nI j → False) ∧ σ2 279 = o11 G (upd F 7 (nI (1))) ∧ (∀ i : Nat, i ≠ 279 → σ2 i = σ i)) ∨ (∃ (r1 : Nat), ∃ (o' : Nat → Nat), v9 = some (.int (nI ((s_prR (s_rule g r1)).length))) ∧ (r = nI r1) ∧ (r1 < g 0) ∧ (∀ j : Nat, j < (s_prR (s_rule g r1)).length → o' j = (s_prR (s_rule g r1)).getD j 0) ∧ ((s_prR (s_rule g r1)).length ≤ 300) ∧ σ2 279 = o11 G (upd (upd F 7 (nI (0))) 33 (nI ((s_prR (s_rule g r1)).length))) ∧ σ2 293 = q_an G 300 o' ∧ (∀ i : Nat, i ≠ 279 ∧ i ≠ 293 → σ2 i = σ i))) v9 σ') q_noX := ⟨_, rfl⟩
  refine (?_ : AJ G K (q_Q G K ex n 0 0 _ _) 0 0 ex n 0 _ _ σ)
  rw [← hQ]
  have hnr : g 0 ≤ 4 := hg9.1
  refine A_aload_n hg dX11_printRule_0 rfl rfl ?_
  refine A_iconst (v := (nI (0))) hg dX11_printRule_1 (by decide) ?_
  refine A_putf hg fl_RX11_67 dX11_printRule_2 hc0 (by omega) (Nat.le_of_ble_eq_true rfl) rfl rfl rfl (fun σ_1 hc_2 hf_3 => ?_)
  have hc_2 : σ_1 279 = o11 G (upd F 7 (nI (0))) := hc_2
  have hc_4 : σ_1 280 = q_an G 265 g := (hf_3 _ (by omega)).trans hc1
  have hc_5 : σ_1 293 = q_an G 300 o := (hf_3 _ (by omega)).trans hc2
  refine A_aload_n hg dX11_printRule_5 rfl rfl ?_
  refine A_iload_n hg dX11_printRule_6 rfl rfl ?_
  refine A_hV (kc2 := 0) (ks2 := 0) (As := [.int (r)]) (rest := []) hg lk_RX11_402 in_X11_noRule se_X11_noRule rfl dX11_printRule_7 ⟨by decide, by decide⟩ rfl rfl ⟨by decide, by decide⟩ hc_2 (by omega) rfl rfl (Nat.le_of_ble_eq_true rfl) (c_X11_noRule G ex n σ_1 (upd F 7 (nI (0))) g r hc_2 hc_4 (by omega) (by omega)) ?_
  rintro _ σ_9 (⟨rfl, hno, hc_6, hf_7⟩ | ⟨r1, rfl, hre, hrl, he_8⟩)
  · skip
    refine (?_ : AJ G K Q 0 0 ex n 10 [some (.ref (q_h G + 279)), some (.int (r)), none] [.int (nI (1))] σ_9)
    have hc_6 : σ_9 279 = o11 G (upd F 7 (nI (1))) := hc_6
    have hc_10 : σ_9 280 = q_an G 265 g := (hf_7 _ (by omega)).trans hc_4
    have hc_11 : σ_9 293 = q_an G 300 o := (hf_7 _ (by omega)).trans hc_5
    refine A_if_eqN (tgt := 15) hg dX11_printRule_10 (by decide) (by decide) (fun c10 => absurd c10 (by decide)) (fun c10 => ?_)
    refine A_iconst (v := (nI (0))) hg dX11_printRule_13 (by decide) ?_
    rw [hQ]
    exact A_ireturn hg (by decide) (by decide) rfl dX11_printRule_14 ⟨rfl, Or.inl (⟨rfl, (by first | rfl | assumption | omega), hc_6, (fun i hi => ((hf_7 i (by omega)).trans (hf_3 i (by omega))))⟩)⟩
  · skip
    rw [he_8]
    refine (?_ : AJ G K Q 0 0 ex n 10 [some (.ref (q_h G + 279)), some (.int (r)), none] [.int (nI (0))] σ_1)
    refine A_if_eqN (tgt := 15) hg dX11_printRule_10 (by decide) (by decide) (fun c10 => ?_) (fun c10 => absurd (by decide) c10)
    subst hre
    have hw := hg9.2.2.2.2.2.1 r1 hrl
    have hu0 := hw.1
    have hu9 := hw.2.1
    have hu18 := hw.2.2.1
    have hu19 := hw.2.2.2.1
    have hu20 := hw.2.2.2.2.1
    refine A_aload_n hg dX11_printRule_15 rfl rfl ?_
    refine A_iconst (v := (nI (0))) hg dX11_printRule_16 (by decide) ?_
    refine A_putf hg fl_RX11_472 dX11_printRule_17 hc_2 (by omega) (Nat.le_of_ble_eq_true rfl) rfl rfl rfl (fun σ_12 hc_13 hf_14 => ?_)
    have hc_13 : σ_12 279 = o11 G (upd (upd F 7 (nI (0))) 33 (nI (0))) := hc_13
    have hc_15 : σ_12 280 = q_an G 265 g := (hf_14 _ (by omega)).trans hc_4
    have hc_16 : σ_12 293 = q_an G 300 o := (hf_14 _ (by omega)).trans hc_5
    have hw9 := hw.2.1
    have hw18 := hw.2.2.1
    have hw19 := hw.2.2.2.1
    have hw20 := hw.2.2.2.2.1
    have hw0 := hw.1
    refine A_aload_n hg dX11_printRule_20 rfl rfl ?_
    refine A_ldcwS hg (sc_RX11_487 hg.2.2.2.2.2.2.1.1).1 dX11_printRule_21 ?_
    refine A_vV (kc2 := 0) (ks2 := 0) (As := [.ref (q_sa G RX11 487)]) (rest := []) hg lk_RX11_489 in_X11_writeWord se_X11_writeWord rfl dX11_printRule_24 ⟨by decide, by decide⟩ rfl rfl ⟨by decide, by decide⟩ hc_13 (by omega) rfl rfl (Nat.le_of_ble_eq_true rfl) (c_X11_writeWord G ex n σ_12 (upd (upd F 7 (nI (0))) 33 (nI (0))) ([] : List Nat) o (q_sa G RX11 487) ([114, 117, 108, 101, 32]) hc_13 hc_16 (by omega) rfl (fun j h => absurd h (Nat.not_lt_zero j)) ((sc_RX11_487 hg.2.2.2.2.2.2.1.1).2) (by decide)) ?_
    rintro σ_20 ⟨L24, o24, hL24, hlen24, hO24, hc_17, hc_18, hf_19⟩
    have hc_17 : σ_20 279 = o11 G (upd (upd F 7 (nI (0))) 33 (nI (L24.length))) := hc_17
    have hc_21 : σ_20 280 = q_an G 265 g := (hf_19 _ (by omega)).trans hc_15
    have hl24 : L24.length ≤ 5 := hlen24
    refine A_aload_n hg dX11_printRule_27 rfl rfl ?_
    refine A_iload_n hg dX11_printRule_28 rfl rfl ?_
    refine A_vV (kc2 := 0) (ks2 := 0) (As := [.int (nI (r1))]) (rest := []) hg lk_RX11_481 in_X11_writeName se_X11_writeName rfl dX11_printRule_29 ⟨by decide, by decide⟩ rfl rfl ⟨by decide, by decide⟩ hc_17 (by omega) rfl rfl (Nat.le_of_ble_eq_true rfl) (c_X11_writeName G ex n σ_20 (upd (upd F 7 (nI (0))) 33 (nI (L24.length))) L24 o24 g r1 hc_17 hc_18 hc_21 (by omega) rfl (by assumption) (by omega) hw.1 (by omega)) ?_
    rintro σ_25 ⟨L29, o29, hL29, hlen29, hO29, hc_22, hc_23, hf_24⟩
    have hc_22 : σ_25 279 = o11 G (upd (upd F 7 (nI (0))) 33 (nI (L29.length))) := hc_22
    have hc_26 : σ_25 280 = q_an G 265 g := (hf_24 _ (by omega)).trans hc_21
    have hl29 : L29.length ≤ 13 := by omega
    refine A_aload_n hg dX11_printRule_32 rfl rfl ?_
    refine A_iload_n hg dX11_printRule_33 rfl rfl ?_
    refine A_bipush (v := (nI (9))) hg dX11_printRule_34 (by decide) ?_
    refine A_eV (kc2 := 0) (ks2 := 0) (As := [.int (nI (r1)), .int (nI (9))]) (rest := []) hg lk_RX11_85 in_X11_of se_X11_of rfl dX11_printRule_36 ⟨by decide, by decide⟩ rfl rfl ⟨by decide, by decide⟩ hc_22 (by omega) rfl rfl (Nat.le_of_ble_eq_true rfl) (c_X11_of G ex n σ_25 (upd (upd F 7 (nI (0))) 33 (nI (L29.length))) g r1 9 hc_22 hc_26 (by omega) (by omega)) ?_
    refine A_if_leN (tgt := 49) hg dX11_printRule_39 (by omega) (by decide) (fun c39 => ?_) (fun c39 => ?_)
    · skip
      refine A_iconst (v := (nI (0))) hg dX11_printRule_49 (by decide) ?_
      refine A_istore_n hg dX11_printRule_50 rfl (by decide) (q_c1d rfl) ?_
      refine A_eq (ls2 := [some (.ref (q_h G + 279)), some (.int (nI (r1))), some (.int (nI (0)))]) (st2 := []) (pc2 := 0) rfl rfl ?_
      have hL51 : ∀ (fu : Nat) (i : Nat) (L1 : List Nat) (o1 : Nat → Nat) (F1 : Nat → Int32) (σ_27 : Nat → va_E), (σ_27 280 = q_an G 265 g) → (σ_27 279 = o11 G F1) → (σ_27 293 = q_an G 300 o1) → (∀ i : Nat, i ≠ 279 ∧ i ≠ 293 → σ_27 i = σ i) → (F1 33 = nI L1.length) → (∀ j : Nat, j ≠ 33 → F1 j = (upd F 7 (nI 0)) j) → (i ≤ s_rule g r1 9) → (L1 = s_pr1 (s_rule g r1) ++ s_prn (s_rule g r1) i) → (L1.length ≤ 18 + 3 * i) → (∀ j : Nat, j < L1.length → o1 j = L1.getD j 0) → (s_rule g r1 9 - i) < fu → AJ G K Q 0 0 ex n 51 [some (.ref (q_h G + 279)), some (.int (nI (r1))), some (.int (nI (i)))] [] σ_27 := by
        intro fu
        induction fu with
        | zero => intro i L1 o1 F1 σ_27 hc_28 hc_29 hc_30 hf_31 h1_33 hfr1 hi hL1 hln hO1 hm; exact absurd hm (Nat.not_lt_zero _)
        | succ fu ih51 =>
          intro i L1 o1 F1 σ_27 hc_28 hc_29 hc_30 hf_31 h1_33 hfr1 hi hL1 hln hO1 hm51
          refine A_iload_n hg dX11_printRule_51 rfl rfl ?_
          refine A_aload_n hg dX11_printRule_52 rfl rfl ?_
          refine A_iload_n hg dX11_printRule_53 rfl rfl ?_
          refine A_bipush (v := (nI (9))) hg dX11_printRule_54 (by decide) ?_
          refine A_eV (kc2 := 0) (ks2 := 0) (As := [.int (nI (r1)), .int (nI (9))]) (rest := [.int (nI (i))]) hg lk_RX11_85 in_X11_of se_X11_of rfl dX11_printRule_56 ⟨by decide, by decide⟩ rfl rfl ⟨by decide, by decide⟩ hc_29 (by omega) rfl rfl (Nat.le_of_ble_eq_true rfl) (c_X11_of G ex n σ_27 F1 g r1 9 hc_29 hc_28 (by omega) (by omega)) ?_
          refine A_icmp_geN (tgt := 81) hg dX11_printRule_59 (by omega) (by omega) (by decide) (fun c59 => ?_) (fun c59 => ?_)
          · skip
            refine A_aload_n hg dX11_printRule_81 rfl rfl ?_
            refine A_ldcwS hg (sc_RX11_498 hg.2.2.2.2.2.2.1.1).1 dX11_printRule_82 ?_
            refine A_vV (kc2 := 0) (ks2 := 0) (As := [.ref (q_sa G RX11 498)]) (rest := []) hg lk_RX11_489 in_X11_writeWord se_X11_writeWord rfl dX11_printRule_85 ⟨by decide, by decide⟩ rfl rfl ⟨by decide, by decide⟩ hc_29 (by omega) rfl rfl (Nat.le_of_ble_eq_true rfl) (c_X11_writeWord G ex n σ_27 F1 L1 o1 (q_sa G RX11 498) ([32, 115, 108, 97, 99, 107]) hc_29 hc_30 (by omega) h1_33 (by assumption) ((sc_RX11_498 hg.2.2.2.2.2.2.1.1).2) (by show (_ : Nat) + 6 ≤ 300; omega)) ?_
            rintro σ_35 ⟨L85, o85, hL85, hlen85, hO85, hc_32, hc_33, hf_34⟩
            have hc_32 : σ_35 279 = o11 G (upd F1 33 (nI (L85.length))) := hc_32
            have hc_36 : σ_35 280 = q_an G 265 g := (hf_34 _ (by omega)).trans hc_28
            have hl85 : L85.length ≤ L1.length + 6 := hlen85
            refine A_aload_n hg dX11_printRule_88 rfl rfl ?_
            refine A_aload_n hg dX11_printRule_89 rfl rfl ?_
            refine A_iload_n hg dX11_printRule_90 rfl rfl ?_
            refine A_bipush (v := (nI (18))) hg dX11_printRule_91 (by decide) ?_
            refine A_eV (kc2 := 0) (ks2 := 0) (As := [.int (nI (r1)), .int (nI (18))]) (rest := [.ref (q_h G + 279)]) hg lk_RX11_85 in_X11_of se_X11_of rfl dX11_printRule_93 ⟨by decide, by decide⟩ rfl rfl ⟨by decide, by decide⟩ hc_32 (by omega) rfl rfl (Nat.le_of_ble_eq_true rfl) (c_X11_of G ex n σ_35 (upd F1 33 (nI (L85.length))) g r1 18 hc_32 hc_36 (by omega) (by omega)) ?_
            refine A_vV (kc2 := 0) (ks2 := 0) (As := [.int (nI (s_rule g r1 18))]) (rest := []) hg lk_RX11_495 in_X11_writeSpaced se_X11_writeSpaced rfl dX11_printRule_96 ⟨by decide, by decide⟩ rfl rfl ⟨by decide, by decide⟩ hc_32 (by omega) rfl rfl (Nat.le_of_ble_eq_true rfl) (c_X11_writeSpaced G ex n σ_35 (upd F1 33 (nI (L85.length))) L85 o85 (s_rule g r1 18) hc_32 hc_33 (by omega) rfl (by assumption) (by omega) (by omega)) ?_
            rintro σ_40 ⟨L96, o96, hL96, hlen96, hO96, hc_37, hc_38, hf_39⟩
            have hc_37 : σ_40 279 = o11 G (upd F1 33 (nI (L96.length))) := hc_37
            have hc_41 : σ_40 280 = q_an G 265 g := (hf_39 _ (by omega)).trans hc_36
            refine A_aload_n hg dX11_printRule_99 rfl rfl ?_
            refine A_ldcwS hg (sc_RX11_500 hg.2.2.2.2.2.2.1.1).1 dX11_printRule_100 ?_
            refine A_vV (kc2 := 0) (ks2 := 0) (As := [.ref (q_sa G RX11 500)]) (rest := []) hg lk_RX11_489 in_X11_writeWord se_X11_writeWord rfl dX11_printRule_103 ⟨by decide, by decide⟩ rfl rfl ⟨by decide, by decide⟩ hc_37 (by omega) rfl rfl (Nat.le_of_ble_eq_true rfl) (c_X11_writeWord G ex n σ_40 (upd F1 33 (nI (L96.length))) L96 o96 (q_sa G RX11 500) ([32, 109, 111, 115, 116]) hc_37 hc_38 (by omega) rfl (by assumption) ((sc_RX11_500 hg.2.2.2.2.2.2.1.1).2) (by show (_ : Nat) + 5 ≤ 300; omega)) ?_
            rintro σ_45 ⟨L103, o103, hL103, hlen103, hO103, hc_42, hc_43, hf_44⟩
            have hc_42 : σ_45 279 = o11 G (upd F1 33 (nI (L103.length))) := hc_42
            have hc_46 : σ_45 280 = q_an G 265 g := (hf_44 _ (by omega)).trans hc_41
            have hl103 : L103.length ≤ L96.length + 5 := hlen103
            refine A_aload_n hg dX11_printRule_106 rfl rfl ?_
            refine A_aload_n hg dX11_printRule_107 rfl rfl ?_
            refine A_iload_n hg dX11_printRule_108 rfl rfl ?_
            refine A_bipush (v := (nI (19))) hg dX11_printRule_109 (by decide) ?_
            refine A_eV (kc2 := 0) (ks2 := 0) (As := [.int (nI (r1)), .int (nI (19))]) (rest := [.ref (q_h G + 279)]) hg lk_RX11_85 in_X11_of se_X11_of rfl dX11_printRule_111 ⟨by decide, by decide⟩ rfl rfl ⟨by decide, by decide⟩ hc_42 (by omega) rfl rfl (Nat.le_of_ble_eq_true rfl) (c_X11_of G ex n σ_45 (upd F1 33 (nI (L103.length))) g r1 19 hc_42 hc_46 (by omega) (by omega)) ?_
            refine A_vV (kc2 := 0) (ks2 := 0) (As := [.int (nI (s_rule g r1 19))]) (rest := []) hg lk_RX11_495 in_X11_writeSpaced se_X11_writeSpaced rfl dX11_printRule_114 ⟨by decide, by decide⟩ rfl rfl ⟨by decide, by decide⟩ hc_42 (by omega) rfl rfl (Nat.le_of_ble_eq_true rfl) (c_X11_writeSpaced G ex n σ_45 (upd F1 33 (nI (L103.length))) L103 o103 (s_rule g r1 19) hc_42 hc_43 (by omega) rfl (by assumption) (by omega) (by omega)) ?_
            rintro σ_50 ⟨L114, o114, hL114, hlen114, hO114, hc_47, hc_48, hf_49⟩
            have hc_47 : σ_50 279 = o11 G (upd F1 33 (nI (L114.length))) := hc_47
            have hc_51 : σ_50 280 = q_an G 265 g := (hf_49 _ (by omega)).trans hc_46
            refine A_iconst (v := (nI (0))) hg dX11_printRule_117 (by decide) ?_
            refine A_istore_n hg dX11_printRule_118 rfl (by decide) (q_c1d rfl) ?_
            refine A_eq (ls2 := [some (.ref (q_h G + 279)), some (.int (nI (r1))), some (.int (nI (0)))]) (st2 := []) (pc2 := 0) rfl rfl ?_
            have hL119 : ∀ (fu : Nat) (i2 : Nat) (L2 : List Nat) (o2 : Nat → Nat) (F2 : Nat → Int32) (σ_52 : Nat → va_E), (σ_52 280 = q_an G 265 g) → (σ_52 279 = o11 G F2) → (σ_52 293 = q_an G 300 o2) → (∀ i : Nat, i ≠ 279 ∧ i ≠ 293 → σ_52 i = σ i) → (F2 33 = nI L2.length) → (∀ j : Nat, j ≠ 33 → F2 j = (upd F 7 (nI 0)) j) → (i2 ≤ s_rule g r1 20) → (L2 = s_pr2 (s_rule g r1) ++ s_prb (s_rule g r1) i2) → (L2.length ≤ 59 + 10 * i2) → (∀ j : Nat, j < L2.length → o2 j = L2.getD j 0) → (s_rule g r1 20 - i2) < fu → AJ G K Q 0 0 ex n 119 [some (.ref (q_h G + 279)), some (.int (nI (r1))), some (.int (nI (i2)))] [] σ_52 := by
              intro fu
              induction fu with
              | zero => intro i2 L2 o2 F2 σ_52 hc_53 hc_54 hc_55 hf_56 h2_33 hfr2 hi2 hL2 hln2 hO2 hm; exact absurd hm (Nat.not_lt_zero _)
              | succ fu ih119 =>
                intro i2 L2 o2 F2 σ_52 hc_53 hc_54 hc_55 hf_56 h2_33 hfr2 hi2 hL2 hln2 hO2 hm119
                refine A_iload_n hg dX11_printRule_119 rfl rfl ?_
                refine A_aload_n hg dX11_printRule_120 rfl rfl ?_
                refine A_iload_n hg dX11_printRule_121 rfl rfl ?_
                refine A_bipush (v := (nI (20))) hg dX11_printRule_122 (by decide) ?_
                refine A_eV (kc2 := 0) (ks2 := 0) (As := [.int (nI (r1)), .int (nI (20))]) (rest := [.int (nI (i2))]) hg lk_RX11_85 in_X11_of se_X11_of rfl dX11_printRule_124 ⟨by decide, by decide⟩ rfl rfl ⟨by decide, by decide⟩ hc_54 (by omega) rfl rfl (Nat.le_of_ble_eq_true rfl) (c_X11_of G ex n σ_52 F2 g r1 20 hc_54 hc_53 (by omega) (by omega)) ?_
                refine A_icmp_geN (tgt := 175) hg dX11_printRule_127 (by omega) (by omega) (by decide) (fun c127 => ?_) (fun c127 => ?_)
                · skip
                  refine A_aload_n hg dX11_printRule_175 rfl rfl ?_
                  refine A_getf (v := .int (nI (L2.length))) hg fl_RX11_472 dX11_printRule_176 hc_54 (by omega) (congrArg (fun z => some (Value.int z)) h2_33) ?_
                  have hLe : L2 = (s_prR (s_rule g r1)) := by rw [hL2, show i2 = s_rule g r1 20 by omega]; rfl
                  have hz : σ_52 279 = o11 G (upd (upd F 7 (nI 0)) 33 (nI (s_prR (s_rule g r1)).length)) := by rw [← hLe, ← q_fr1 hfr2 h2_33]; exact hc_54
                  rw [hQ]
                  exact A_ireturn hg (by decide) (by decide) rfl dX11_printRule_179 ⟨rfl, Or.inr ((⟨r1, o2, (by rw [hLe]), (by first | rfl | assumption | omega), (by first | rfl | assumption | omega), (by rw [← hLe]; assumption), (by rw [← hLe]; omega), hz, hc_55, (fun i hi => (hf_56 i (by omega)))⟩))⟩
                · skip
                  have hwb := hw.2.2.2.2.2.2 (2 * i2) (by omega)
                  have hwb1 : s_rule g r1 (21 + 2 * i2 + 1) ≤ 40 := hw.2.2.2.2.2.2 (2 * i2 + 1) (by omega)
                  refine A_aload_n hg dX11_printRule_130 rfl rfl ?_
                  refine A_ldcwS hg (sc_RX11_502 hg.2.2.2.2.2.2.1.1).1 dX11_printRule_131 ?_
                  refine A_vV (kc2 := 0) (ks2 := 0) (As := [.ref (q_sa G RX11 502)]) (rest := []) hg lk_RX11_489 in_X11_writeWord se_X11_writeWord rfl dX11_printRule_134 ⟨by decide, by decide⟩ rfl rfl ⟨by decide, by decide⟩ hc_54 (by omega) rfl rfl (Nat.le_of_ble_eq_true rfl) (c_X11_writeWord G ex n σ_52 F2 L2 o2 (q_sa G RX11 502) ([32, 98, 97, 114]) hc_54 hc_55 (by omega) h2_33 (by assumption) ((sc_RX11_502 hg.2.2.2.2.2.2.1.1).2) (by show (_ : Nat) + 4 ≤ 300; omega)) ?_
                  rintro σ_60 ⟨L134, o134, hL134, hlen134, hO134, hc_57, hc_58, hf_59⟩
                  have hc_57 : σ_60 279 = o11 G (upd F2 33 (nI (L134.length))) := hc_57
                  have hc_61 : σ_60 280 = q_an G 265 g := (hf_59 _ (by omega)).trans hc_53
                  have hl134 : L134.length ≤ L2.length + 4 := hlen134
                  refine A_aload_n hg dX11_printRule_137 rfl rfl ?_
                  refine A_aload_n hg dX11_printRule_138 rfl rfl ?_
                  refine A_iload_n hg dX11_printRule_139 rfl rfl ?_
                  refine A_bipush (v := (nI (21))) hg dX11_printRule_140 (by decide) ?_
                  refine A_iconst (v := (nI (2))) hg dX11_printRule_142 (by decide) ?_
                  refine A_iload_n hg dX11_printRule_143 rfl rfl ?_
                  refine A_imulN hg dX11_printRule_144 ?_
                  refine A_iaddN hg dX11_printRule_145 ?_
                  refine A_eV (kc2 := 0) (ks2 := 0) (As := [.int (nI (r1)), .int (nI (21 + (2 * i2)))]) (rest := [.ref (q_h G + 279)]) hg lk_RX11_85 in_X11_of se_X11_of rfl dX11_printRule_146 ⟨by decide, by decide⟩ rfl rfl ⟨by decide, by decide⟩ hc_57 (by omega) rfl rfl (Nat.le_of_ble_eq_true rfl) (c_X11_of G ex n σ_60 (upd F2 33 (nI (L134.length))) g r1 (21 + (2 * i2)) hc_57 hc_61 (by omega) (by omega)) ?_
                  refine A_vV (kc2 := 0) (ks2 := 0) (As := [.int (nI (s_rule g r1 (21 + (2 * i2))))]) (rest := []) hg lk_RX11_495 in_X11_writeSpaced se_X11_writeSpaced rfl dX11_printRule_149 ⟨by decide, by decide⟩ rfl rfl ⟨by decide, by decide⟩ hc_57 (by omega) rfl rfl (Nat.le_of_ble_eq_true rfl) (c_X11_writeSpaced G ex n σ_60 (upd F2 33 (nI (L134.length))) L134 o134 (s_rule g r1 (21 + (2 * i2))) hc_57 hc_58 (by omega) rfl (by assumption) (by omega) (by omega)) ?_
                  rintro σ_65 ⟨L149, o149, hL149, hlen149, hO149, hc_62, hc_63, hf_64⟩
                  have hc_62 : σ_65 279 = o11 G (upd F2 33 (nI (L149.length))) := hc_62
                  have hc_66 : σ_65 280 = q_an G 265 g := (hf_64 _ (by omega)).trans hc_61
                  refine A_aload_n hg dX11_printRule_152 rfl rfl ?_
                  refine A_aload_n hg dX11_printRule_153 rfl rfl ?_
                  refine A_iload_n hg dX11_printRule_154 rfl rfl ?_
                  refine A_bipush (v := (nI (21))) hg dX11_printRule_155 (by decide) ?_
                  refine A_iconst (v := (nI (2))) hg dX11_printRule_157 (by decide) ?_
                  refine A_iload_n hg dX11_printRule_158 rfl rfl ?_
                  refine A_imulN hg dX11_printRule_159 ?_
                  refine A_iaddN hg dX11_printRule_160 ?_
                  refine A_iconst (v := (nI (1))) hg dX11_printRule_161 (by decide) ?_
                  refine A_iaddN hg dX11_printRule_162 ?_
                  refine A_eV (kc2 := 0) (ks2 := 0) (As := [.int (nI (r1)), .int (nI ((21 + (2 * i2)) + 1))]) (rest := [.ref (q_h G + 279)]) hg lk_RX11_85 in_X11_of se_X11_of rfl dX11_printRule_163 ⟨by decide, by decide⟩ rfl rfl ⟨by decide, by decide⟩ hc_62 (by omega) rfl rfl (Nat.le_of_ble_eq_true rfl) (c_X11_of G ex n σ_65 (upd F2 33 (nI (L149.length))) g r1 ((21 + (2 * i2)) + 1) hc_62 hc_66 (by omega) (by omega)) ?_
                  refine A_vV (kc2 := 0) (ks2 := 0) (As := [.int (nI (s_rule g r1 ((21 + (2 * i2)) + 1)))]) (rest := []) hg lk_RX11_495 in_X11_writeSpaced se_X11_writeSpaced rfl dX11_printRule_166 ⟨by decide, by decide⟩ rfl rfl ⟨by decide, by decide⟩ hc_62 (by omega) rfl rfl (Nat.le_of_ble_eq_true rfl) (c_X11_writeSpaced G ex n σ_65 (upd F2 33 (nI (L149.length))) L149 o149 (s_rule g r1 ((21 + (2 * i2)) + 1)) hc_62 hc_63 (by omega) rfl (by assumption) (by omega) (by omega)) ?_
                  rintro σ_70 ⟨L166, o166, hL166, hlen166, hO166, hc_67, hc_68, hf_69⟩
                  have hc_67 : σ_70 279 = o11 G (upd F2 33 (nI (L166.length))) := hc_67
                  have hc_71 : σ_70 280 = q_an G 265 g := (hf_69 _ (by omega)).trans hc_66
                  refine A_iincN (k' := 1) hg dX11_printRule_169 (by decide) rfl (by decide) (q_c1d rfl) ?_
                  refine A_eq (ls2 := [some (.ref (q_h G + 279)), some (.int (nI (r1))), some (.int (nI (i2 + 1)))]) (st2 := []) (pc2 := 0) rfl rfl ?_
                  refine A_goto (tgt := 119) hg dX11_printRule_172 (by decide) ?_
                  exact ih119 (i2 + 1) L166 o166 (upd F2 33 (nI (L166.length))) σ_70 hc_71 hc_67 hc_68 (fun i hi => ((hf_69 i (by omega)).trans ((hf_64 i (by omega)).trans ((hf_59 i (by omega)).trans (hf_56 i (by omega)))))) rfl (fun j hj => (q_upn (by omega)).trans ((hfr2 j hj))) (by omega) (by rw [hL166, hL149, hL134, hL2]; exact s_prb_s _) (by omega) hO166 (by omega)
            exact hL119 _ 0 L114 o114 (upd F1 33 (nI (L114.length))) σ_50 hc_51 hc_47 hc_48 (fun i hi => ((hf_49 i (by omega)).trans ((hf_44 i (by omega)).trans ((hf_39 i (by omega)).trans ((hf_34 i (by omega)).trans (hf_31 i (by omega))))))) rfl (fun j hj => (q_upn hj).trans (hfr1 j hj)) (Nat.zero_le _) (by rw [hL114, hL103, hL96, hL85, hL1, show i = s_rule g r1 9 by omega]; exact s_pr2_e) (by omega) (by assumption) (Nat.lt_succ_self _)
          · skip
            have hwo := hw.2.2.2.2.2.1 i (by omega)
            refine A_aload_n hg dX11_printRule_62 rfl rfl ?_
            refine A_aload_n hg dX11_printRule_63 rfl rfl ?_
            refine A_iload_n hg dX11_printRule_64 rfl rfl ?_
            refine A_bipush (v := (nI (10))) hg dX11_printRule_65 (by decide) ?_
            refine A_iload_n hg dX11_printRule_67 rfl rfl ?_
            refine A_iaddN hg dX11_printRule_68 ?_
            refine A_eV (kc2 := 0) (ks2 := 0) (As := [.int (nI (r1)), .int (nI (10 + i))]) (rest := [.ref (q_h G + 279)]) hg lk_RX11_85 in_X11_of se_X11_of rfl dX11_printRule_69 ⟨by decide, by decide⟩ rfl rfl ⟨by decide, by decide⟩ hc_29 (by omega) rfl rfl (Nat.le_of_ble_eq_true rfl) (c_X11_of G ex n σ_27 F1 g r1 (10 + i) hc_29 hc_28 (by omega) (by omega)) ?_
            refine A_vV (kc2 := 0) (ks2 := 0) (As := [.int (nI (s_rule g r1 (10 + i)))]) (rest := []) hg lk_RX11_495 in_X11_writeSpaced se_X11_writeSpaced rfl dX11_printRule_72 ⟨by decide, by decide⟩ rfl rfl ⟨by decide, by decide⟩ hc_29 (by omega) rfl rfl (Nat.le_of_ble_eq_true rfl) (c_X11_writeSpaced G ex n σ_27 F1 L1 o1 (s_rule g r1 (10 + i)) hc_29 hc_30 (by omega) h1_33 (by assumption) (by omega) (by omega)) ?_
            rintro σ_75 ⟨L72, o72, hL72, hlen72, hO72, hc_72, hc_73, hf_74⟩
            have hc_72 : σ_75 279 = o11 G (upd F1 33 (nI (L72.length))) := hc_72
            have hc_76 : σ_75 280 = q_an G 265 g := (hf_74 _ (by omega)).trans hc_28
            refine A_iincN (k' := 1) hg dX11_printRule_75 (by decide) rfl (by decide) (q_c1d rfl) ?_
            refine A_eq (ls2 := [some (.ref (q_h G + 279)), some (.int (nI (r1))), some (.int (nI (i + 1)))]) (st2 := []) (pc2 := 0) rfl rfl ?_
            refine A_goto (tgt := 51) hg dX11_printRule_78 (by decide) ?_
            exact ih51 (i + 1) L72 o72 (upd F1 33 (nI (L72.length))) σ_75 hc_76 hc_72 hc_73 (fun i hi => ((hf_74 i (by omega)).trans (hf_31 i (by omega)))) rfl (fun j hj => (q_upn (by omega)).trans ((hfr1 j hj))) (by omega) (by rw [hL72, hL1]; exact s_prn_s _) (by omega) hO72 (by omega)
      exact hL51 _ 0 L29 o29 (upd (upd F 7 (nI (0))) 33 (nI (L29.length))) σ_25 hc_26 hc_22 hc_23 (fun i hi => ((hf_24 i (by omega)).trans ((hf_19 i (by omega)).trans ((hf_14 i (by omega)).trans (hf_3 i (by omega)))))) rfl (fun j hj => q_upn hj) (Nat.zero_le _) (by rw [hL29, hL24]; exact s_pr1_f c39) (by omega) (by assumption) (Nat.lt_succ_self _)
    · skip
      refine A_aload_n hg dX11_printRule_42 rfl rfl ?_
      refine A_ldcwS hg (sc_RX11_493 hg.2.2.2.2.2.2.1.1).1 dX11_printRule_43 ?_
      refine A_vV (kc2 := 0) (ks2 := 0) (As := [.ref (q_sa G RX11 493)]) (rest := []) hg lk_RX11_489 in_X11_writeWord se_X11_writeWord rfl dX11_printRule_46 ⟨by decide, by decide⟩ rfl rfl ⟨by decide, by decide⟩ hc_22 (by omega) rfl rfl (Nat.le_of_ble_eq_true rfl) (c_X11_writeWord G ex n σ_25 (upd (upd F 7 (nI (0))) 33 (nI (L29.length))) L29 o29 (q_sa G RX11 493) ([32, 111, 110, 108, 121]) hc_22 hc_23 (by omega) rfl (by assumption) ((sc_RX11_493 hg.2.2.2.2.2.2.1.1).2) (by show (_ : Nat) + 5 ≤ 300; omega)) ?_
      rintro σ_80 ⟨L46, o46, hL46, hlen46, hO46, hc_77, hc_78, hf_79⟩
      have hc_77 : σ_80 279 = o11 G (upd (upd F 7 (nI (0))) 33 (nI (L46.length))) := hc_77
      have hc_81 : σ_80 280 = q_an G 265 g := (hf_79 _ (by omega)).trans hc_26
      have hl46 : L46.length ≤ L29.length + 5 := hlen46
      refine A_iconst (v := (nI (0))) hg dX11_printRule_49 (by decide) ?_
      refine A_istore_n hg dX11_printRule_50 rfl (by decide) (q_c1d rfl) ?_
      refine A_eq (ls2 := [some (.ref (q_h G + 279)), some (.int (nI (r1))), some (.int (nI (0)))]) (st2 := []) (pc2 := 0) rfl rfl ?_
      have hL51 : ∀ (fu : Nat) (i : Nat) (L1 : List Nat) (o1 : Nat → Nat) (F1 : Nat → Int32) (σ_82 : Nat → va_E), (σ_82 280 = q_an G 265 g) → (σ_82 279 = o11 G F1) → (σ_82 293 = q_an G 300 o1) → (∀ i : Nat, i ≠ 279 ∧ i ≠ 293 → σ_82 i = σ i) → (F1 33 = nI L1.length) → (∀ j : Nat, j ≠ 33 → F1 j = (upd F 7 (nI 0)) j) → (i ≤ s_rule g r1 9) → (L1 = s_pr1 (s_rule g r1) ++ s_prn (s_rule g r1) i) → (L1.length ≤ 18 + 3 * i) → (∀ j : Nat, j < L1.length → o1 j = L1.getD j 0) → (s_rule g r1 9 - i) < fu → AJ G K Q 0 0 ex n 51 [some (.ref (q_h G + 279)), some (.int (nI (r1))), some (.int (nI (i)))] [] σ_82 := by
        intro fu
        induction fu with
        | zero => intro i L1 o1 F1 σ_82 hc_83 hc_84 hc_85 hf_86 h1_33 hfr1 hi hL1 hln hO1 hm; exact absurd hm (Nat.not_lt_zero _)
        | succ fu ih51 =>
          intro i L1 o1 F1 σ_82 hc_83 hc_84 hc_85 hf_86 h1_33 hfr1 hi hL1 hln hO1 hm51
          refine A_iload_n hg dX11_printRule_51 rfl rfl ?_
          refine A_aload_n hg dX11_printRule_52 rfl rfl ?_
          refine A_iload_n hg dX11_printRule_53 rfl rfl ?_
          refine A_bipush (v := (nI (9))) hg dX11_printRule_54 (by decide) ?_
          refine A_eV (kc2 := 0) (ks2 := 0) (As := [.int (nI (r1)), .int (nI (9))]) (rest := [.int (nI (i))]) hg lk_RX11_85 in_X11_of se_X11_of rfl dX11_printRule_56 ⟨by decide, by decide⟩ rfl rfl ⟨by decide, by decide⟩ hc_84 (by omega) rfl rfl (Nat.le_of_ble_eq_true rfl) (c_X11_of G ex n σ_82 F1 g r1 9 hc_84 hc_83 (by omega) (by omega)) ?_
          refine A_icmp_geN (tgt := 81) hg dX11_printRule_59 (by omega) (by omega) (by decide) (fun c59 => ?_) (fun c59 => ?_)
          · skip
            refine A_aload_n hg dX11_printRule_81 rfl rfl ?_
            refine A_ldcwS hg (sc_RX11_498 hg.2.2.2.2.2.2.1.1).1 dX11_printRule_82 ?_
            refine A_vV (kc2 := 0) (ks2 := 0) (As := [.ref (q_sa G RX11 498)]) (rest := []) hg lk_RX11_489 in_X11_writeWord se_X11_writeWord rfl dX11_printRule_85 ⟨by decide, by decide⟩ rfl rfl ⟨by decide, by decide⟩ hc_84 (by omega) rfl rfl (Nat.le_of_ble_eq_true rfl) (c_X11_writeWord G ex n σ_82 F1 L1 o1 (q_sa G RX11 498) ([32, 115, 108, 97, 99, 107]) hc_84 hc_85 (by omega) h1_33 (by assumption) ((sc_RX11_498 hg.2.2.2.2.2.2.1.1).2) (by show (_ : Nat) + 6 ≤ 300; omega)) ?_
            rintro σ_90 ⟨L85, o85, hL85, hlen85, hO85, hc_87, hc_88, hf_89⟩
            have hc_87 : σ_90 279 = o11 G (upd F1 33 (nI (L85.length))) := hc_87
            have hc_91 : σ_90 280 = q_an G 265 g := (hf_89 _ (by omega)).trans hc_83
            have hl85 : L85.length ≤ L1.length + 6 := hlen85
            refine A_aload_n hg dX11_printRule_88 rfl rfl ?_
            refine A_aload_n hg dX11_printRule_89 rfl rfl ?_
            refine A_iload_n hg dX11_printRule_90 rfl rfl ?_
            refine A_bipush (v := (nI (18))) hg dX11_printRule_91 (by decide) ?_
            refine A_eV (kc2 := 0) (ks2 := 0) (As := [.int (nI (r1)), .int (nI (18))]) (rest := [.ref (q_h G + 279)]) hg lk_RX11_85 in_X11_of se_X11_of rfl dX11_printRule_93 ⟨by decide, by decide⟩ rfl rfl ⟨by decide, by decide⟩ hc_87 (by omega) rfl rfl (Nat.le_of_ble_eq_true rfl) (c_X11_of G ex n σ_90 (upd F1 33 (nI (L85.length))) g r1 18 hc_87 hc_91 (by omega) (by omega)) ?_
            refine A_vV (kc2 := 0) (ks2 := 0) (As := [.int (nI (s_rule g r1 18))]) (rest := []) hg lk_RX11_495 in_X11_writeSpaced se_X11_writeSpaced rfl dX11_printRule_96 ⟨by decide, by decide⟩ rfl rfl ⟨by decide, by decide⟩ hc_87 (by omega) rfl rfl (Nat.le_of_ble_eq_true rfl) (c_X11_writeSpaced G ex n σ_90 (upd F1 33 (nI (L85.length))) L85 o85 (s_rule g r1 18) hc_87 hc_88 (by omega) rfl (by assumption) (by omega) (by omega)) ?_
            rintro σ_95 ⟨L96, o96, hL96, hlen96, hO96, hc_92, hc_93, hf_94⟩
            have hc_92 : σ_95 279 = o11 G (upd F1 33 (nI (L96.length))) := hc_92
            have hc_96 : σ_95 280 = q_an G 265 g := (hf_94 _ (by omega)).trans hc_91
            refine A_aload_n hg dX11_printRule_99 rfl rfl ?_
            refine A_ldcwS hg (sc_RX11_500 hg.2.2.2.2.2.2.1.1).1 dX11_printRule_100 ?_
            refine A_vV (kc2 := 0) (ks2 := 0) (As := [.ref (q_sa G RX11 500)]) (rest := []) hg lk_RX11_489 in_X11_writeWord se_X11_writeWord rfl dX11_printRule_103 ⟨by decide, by decide⟩ rfl rfl ⟨by decide, by decide⟩ hc_92 (by omega) rfl rfl (Nat.le_of_ble_eq_true rfl) (c_X11_writeWord G ex n σ_95 (upd F1 33 (nI (L96.length))) L96 o96 (q_sa G RX11 500) ([32, 109, 111, 115, 116]) hc_92 hc_93 (by omega) rfl (by assumption) ((sc_RX11_500 hg.2.2.2.2.2.2.1.1).2) (by show (_ : Nat) + 5 ≤ 300; omega)) ?_
            rintro σ_100 ⟨L103, o103, hL103, hlen103, hO103, hc_97, hc_98, hf_99⟩
            have hc_97 : σ_100 279 = o11 G (upd F1 33 (nI (L103.length))) := hc_97
            have hc_101 : σ_100 280 = q_an G 265 g := (hf_99 _ (by omega)).trans hc_96
            have hl103 : L103.length ≤ L96.length + 5 := hlen103
            refine A_aload_n hg dX11_printRule_106 rfl rfl ?_
            refine A_aload_n hg dX11_printRule_107 rfl rfl ?_
            refine A_iload_n hg dX11_printRule_108 rfl rfl ?_
            refine A_bipush (v := (nI (19))) hg dX11_printRule_109 (by decide) ?_
            refine A_eV (kc2 := 0) (ks2 := 0) (As := [.int (nI (r1)), .int (nI (19))]) (rest := [.ref (q_h G + 279)]) hg lk_RX11_85 in_X11_of se_X11_of rfl dX11_printRule_111 ⟨by decide, by decide⟩ rfl rfl ⟨by decide, by decide⟩ hc_97 (by omega) rfl rfl (Nat.le_of_ble_eq_true rfl) (c_X11_of G ex n σ_100 (upd F1 33 (nI (L103.length))) g r1 19 hc_97 hc_101 (by omega) (by omega)) ?_
            refine A_vV (kc2 := 0) (ks2 := 0) (As := [.int (nI (s_rule g r1 19))]) (rest := []) hg lk_RX11_495 in_X11_writeSpaced se_X11_writeSpaced rfl dX11_printRule_114 ⟨by decide, by decide⟩ rfl rfl ⟨by decide, by decide⟩ hc_97 (by omega) rfl rfl (Nat.le_of_ble_eq_true rfl) (c_X11_writeSpaced G ex n σ_100 (upd F1 33 (nI (L103.length))) L103 o103 (s_rule g r1 19) hc_97 hc_98 (by omega) rfl (by assumption) (by omega) (by omega)) ?_
            rintro σ_105 ⟨L114, o114, hL114, hlen114, hO114, hc_102, hc_103, hf_104⟩
            have hc_102 : σ_105 279 = o11 G (upd F1 33 (nI (L114.length))) := hc_102
            have hc_106 : σ_105 280 = q_an G 265 g := (hf_104 _ (by omega)).trans hc_101
            refine A_iconst (v := (nI (0))) hg dX11_printRule_117 (by decide) ?_
            refine A_istore_n hg dX11_printRule_118 rfl (by decide) (q_c1d rfl) ?_
            refine A_eq (ls2 := [some (.ref (q_h G + 279)), some (.int (nI (r1))), some (.int (nI (0)))]) (st2 := []) (pc2 := 0) rfl rfl ?_
            have hL119 : ∀ (fu : Nat) (i2 : Nat) (L2 : List Nat) (o2 : Nat → Nat) (F2 : Nat → Int32) (σ_107 : Nat → va_E), (σ_107 280 = q_an G 265 g) → (σ_107 279 = o11 G F2) → (σ_107 293 = q_an G 300 o2) → (∀ i : Nat, i ≠ 279 ∧ i ≠ 293 → σ_107 i = σ i) → (F2 33 = nI L2.length) → (∀ j : Nat, j ≠ 33 → F2 j = (upd F 7 (nI 0)) j) → (i2 ≤ s_rule g r1 20) → (L2 = s_pr2 (s_rule g r1) ++ s_prb (s_rule g r1) i2) → (L2.length ≤ 59 + 10 * i2) → (∀ j : Nat, j < L2.length → o2 j = L2.getD j 0) → (s_rule g r1 20 - i2) < fu → AJ G K Q 0 0 ex n 119 [some (.ref (q_h G + 279)), some (.int (nI (r1))), some (.int (nI (i2)))] [] σ_107 := by
              intro fu
              induction fu with
              | zero => intro i2 L2 o2 F2 σ_107 hc_108 hc_109 hc_110 hf_111 h2_33 hfr2 hi2 hL2 hln2 hO2 hm; exact absurd hm (Nat.not_lt_zero _)
              | succ fu ih119 =>
                intro i2 L2 o2 F2 σ_107 hc_108 hc_109 hc_110 hf_111 h2_33 hfr2 hi2 hL2 hln2 hO2 hm119
                refine A_iload_n hg dX11_printRule_119 rfl rfl ?_
                refine A_aload_n hg dX11_printRule_120 rfl rfl ?_
                refine A_iload_n hg dX11_printRule_121 rfl rfl ?_
                refine A_bipush (v := (nI (20))) hg dX11_printRule_122 (by decide) ?_
                refine A_eV (kc2 := 0) (ks2 := 0) (As := [.int (nI (r1)), .int (nI (20))]) (rest := [.int (nI (i2))]) hg lk_RX11_85 in_X11_of se_X11_of rfl dX11_printRule_124 ⟨by decide, by decide⟩ rfl rfl ⟨by decide, by decide⟩ hc_109 (by omega) rfl rfl (Nat.le_of_ble_eq_true rfl) (c_X11_of G ex n σ_107 F2 g r1 20 hc_109 hc_108 (by omega) (by omega)) ?_
                refine A_icmp_geN (tgt := 175) hg dX11_printRule_127 (by omega) (by omega) (by decide) (fun c127 => ?_) (fun c127 => ?_)
                · skip
                  refine A_aload_n hg dX11_printRule_175 rfl rfl ?_
                  refine A_getf (v := .int (nI (L2.length))) hg fl_RX11_472 dX11_printRule_176 hc_109 (by omega) (congrArg (fun z => some (Value.int z)) h2_33) ?_
                  have hLe : L2 = (s_prR (s_rule g r1)) := by rw [hL2, show i2 = s_rule g r1 20 by omega]; rfl
                  have hz : σ_107 279 = o11 G (upd (upd F 7 (nI 0)) 33 (nI (s_prR (s_rule g r1)).length)) := by rw [← hLe, ← q_fr1 hfr2 h2_33]; exact hc_109
                  rw [hQ]
                  exact A_ireturn hg (by decide) (by decide) rfl dX11_printRule_179 ⟨rfl, Or.inr ((⟨r1, o2, (by rw [hLe]), (by first | rfl | assumption | omega), (by first | rfl | assumption | omega), (by rw [← hLe]; assumption), (by rw [← hLe]; omega), hz, hc_110, (fun i hi => (hf_111 i (by omega)))⟩))⟩
                · skip
                  have hwb := hw.2.2.2.2.2.2 (2 * i2) (by omega)
                  have hwb1 : s_rule g r1 (21 + 2 * i2 + 1) ≤ 40 := hw.2.2.2.2.2.2 (2 * i2 + 1) (by omega)
                  refine A_aload_n hg dX11_printRule_130 rfl rfl ?_
                  refine A_ldcwS hg (sc_RX11_502 hg.2.2.2.2.2.2.1.1).1 dX11_printRule_131 ?_
                  refine A_vV (kc2 := 0) (ks2 := 0) (As := [.ref (q_sa G RX11 502)]) (rest := []) hg lk_RX11_489 in_X11_writeWord se_X11_writeWord rfl dX11_printRule_134 ⟨by decide, by decide⟩ rfl rfl ⟨by decide, by decide⟩ hc_109 (by omega) rfl rfl (Nat.le_of_ble_eq_true rfl) (c_X11_writeWord G ex n σ_107 F2 L2 o2 (q_sa G RX11 502) ([32, 98, 97, 114]) hc_109 hc_110 (by omega) h2_33 (by assumption) ((sc_RX11_502 hg.2.2.2.2.2.2.1.1).2) (by show (_ : Nat) + 4 ≤ 300; omega)) ?_
                  rintro σ_115 ⟨L134, o134, hL134, hlen134, hO134, hc_112, hc_113, hf_114⟩
                  have hc_112 : σ_115 279 = o11 G (upd F2 33 (nI (L134.length))) := hc_112
                  have hc_116 : σ_115 280 = q_an G 265 g := (hf_114 _ (by omega)).trans hc_108
                  have hl134 : L134.length ≤ L2.length + 4 := hlen134
                  refine A_aload_n hg dX11_printRule_137 rfl rfl ?_
                  refine A_aload_n hg dX11_printRule_138 rfl rfl ?_
                  refine A_iload_n hg dX11_printRule_139 rfl rfl ?_
                  refine A_bipush (v := (nI (21))) hg dX11_printRule_140 (by decide) ?_
                  refine A_iconst (v := (nI (2))) hg dX11_printRule_142 (by decide) ?_
                  refine A_iload_n hg dX11_printRule_143 rfl rfl ?_
                  refine A_imulN hg dX11_printRule_144 ?_
                  refine A_iaddN hg dX11_printRule_145 ?_
                  refine A_eV (kc2 := 0) (ks2 := 0) (As := [.int (nI (r1)), .int (nI (21 + (2 * i2)))]) (rest := [.ref (q_h G + 279)]) hg lk_RX11_85 in_X11_of se_X11_of rfl dX11_printRule_146 ⟨by decide, by decide⟩ rfl rfl ⟨by decide, by decide⟩ hc_112 (by omega) rfl rfl (Nat.le_of_ble_eq_true rfl) (c_X11_of G ex n σ_115 (upd F2 33 (nI (L134.length))) g r1 (21 + (2 * i2)) hc_112 hc_116 (by omega) (by omega)) ?_
                  refine A_vV (kc2 := 0) (ks2 := 0) (As := [.int (nI (s_rule g r1 (21 + (2 * i2))))]) (rest := []) hg lk_RX11_495 in_X11_writeSpaced se_X11_writeSpaced rfl dX11_printRule_149 ⟨by decide, by decide⟩ rfl rfl ⟨by decide, by decide⟩ hc_112 (by omega) rfl rfl (Nat.le_of_ble_eq_true rfl) (c_X11_writeSpaced G ex n σ_115 (upd F2 33 (nI (L134.length))) L134 o134 (s_rule g r1 (21 + (2 * i2))) hc_112 hc_113 (by omega) rfl (by assumption) (by omega) (by omega)) ?_
                  rintro σ_120 ⟨L149, o149, hL149, hlen149, hO149, hc_117, hc_118, hf_119⟩
                  have hc_117 : σ_120 279 = o11 G (upd F2 33 (nI (L149.length))) := hc_117
                  have hc_121 : σ_120 280 = q_an G 265 g := (hf_119 _ (by omega)).trans hc_116
                  refine A_aload_n hg dX11_printRule_152 rfl rfl ?_
                  refine A_aload_n hg dX11_printRule_153 rfl rfl ?_
                  refine A_iload_n hg dX11_printRule_154 rfl rfl ?_
                  refine A_bipush (v := (nI (21))) hg dX11_printRule_155 (by decide) ?_
                  refine A_iconst (v := (nI (2))) hg dX11_printRule_157 (by decide) ?_
                  refine A_iload_n hg dX11_printRule_158 rfl rfl ?_
                  refine A_imulN hg dX11_printRule_159 ?_
                  refine A_iaddN hg dX11_printRule_160 ?_
                  refine A_iconst (v := (nI (1))) hg dX11_printRule_161 (by decide) ?_
                  refine A_iaddN hg dX11_printRule_162 ?_
                  refine A_eV (kc2 := 0) (ks2 := 0) (As := [.int (nI (r1)), .int (nI ((21 + (2 * i2)) + 1))]) (rest := [.ref (q_h G + 279)]) hg lk_RX11_85 in_X11_of se_X11_of rfl dX11_printRule_163 ⟨by decide, by decide⟩ rfl rfl ⟨by decide, by decide⟩ hc_117 (by omega) rfl rfl (Nat.le_of_ble_eq_true rfl) (c_X11_of G ex n σ_120 (upd F2 33 (nI (L149.length))) g r1 ((21 + (2 * i2)) + 1) hc_117 hc_121 (by omega) (by omega)) ?_
                  refine A_vV (kc2 := 0) (ks2 := 0) (As := [.int (nI (s_rule g r1 ((21 + (2 * i2)) + 1)))]) (rest := []) hg lk_RX11_495 in_X11_writeSpaced se_X11_writeSpaced rfl dX11_printRule_166 ⟨by decide, by decide⟩ rfl rfl ⟨by decide, by decide⟩ hc_117 (by omega) rfl rfl (Nat.le_of_ble_eq_true rfl) (c_X11_writeSpaced G ex n σ_120 (upd F2 33 (nI (L149.length))) L149 o149 (s_rule g r1 ((21 + (2 * i2)) + 1)) hc_117 hc_118 (by omega) rfl (by assumption) (by omega) (by omega)) ?_
                  rintro σ_125 ⟨L166, o166, hL166, hlen166, hO166, hc_122, hc_123, hf_124⟩
                  have hc_122 : σ_125 279 = o11 G (upd F2 33 (nI (L166.length))) := hc_122
                  have hc_126 : σ_125 280 = q_an G 265 g := (hf_124 _ (by omega)).trans hc_121
                  refine A_iincN (k' := 1) hg dX11_printRule_169 (by decide) rfl (by decide) (q_c1d rfl) ?_
                  refine A_eq (ls2 := [some (.ref (q_h G + 279)), some (.int (nI (r1))), some (.int (nI (i2 + 1)))]) (st2 := []) (pc2 := 0) rfl rfl ?_
                  refine A_goto (tgt := 119) hg dX11_printRule_172 (by decide) ?_
                  exact ih119 (i2 + 1) L166 o166 (upd F2 33 (nI (L166.length))) σ_125 hc_126 hc_122 hc_123 (fun i hi => ((hf_124 i (by omega)).trans ((hf_119 i (by omega)).trans ((hf_114 i (by omega)).trans (hf_111 i (by omega)))))) rfl (fun j hj => (q_upn (by omega)).trans ((hfr2 j hj))) (by omega) (by rw [hL166, hL149, hL134, hL2]; exact s_prb_s _) (by omega) hO166 (by omega)
            exact hL119 _ 0 L114 o114 (upd F1 33 (nI (L114.length))) σ_105 hc_106 hc_102 hc_103 (fun i hi => ((hf_104 i (by omega)).trans ((hf_99 i (by omega)).trans ((hf_94 i (by omega)).trans ((hf_89 i (by omega)).trans (hf_86 i (by omega))))))) rfl (fun j hj => (q_upn hj).trans (hfr1 j hj)) (Nat.zero_le _) (by rw [hL114, hL103, hL96, hL85, hL1, show i = s_rule g r1 9 by omega]; exact s_pr2_e) (by omega) (by assumption) (Nat.lt_succ_self _)
          · skip
            have hwo := hw.2.2.2.2.2.1 i (by omega)
            refine A_aload_n hg dX11_printRule_62 rfl rfl ?_
            refine A_aload_n hg dX11_printRule_63 rfl rfl ?_
            refine A_iload_n hg dX11_printRule_64 rfl rfl ?_
            refine A_bipush (v := (nI (10))) hg dX11_printRule_65 (by decide) ?_
            refine A_iload_n hg dX11_printRule_67 rfl rfl ?_
            refine A_iaddN hg dX11_printRule_68 ?_
            refine A_eV (kc2 := 0) (ks2 := 0) (As := [.int (nI (r1)), .int (nI (10 + i))]) (rest := [.ref (q_h G + 279)]) hg lk_RX11_85 in_X11_of se_X11_of rfl dX11_printRule_69 ⟨by decide, by decide⟩ rfl rfl ⟨by decide, by decide⟩ hc_84 (by omega) rfl rfl (Nat.le_of_ble_eq_true rfl) (c_X11_of G ex n σ_82 F1 g r1 (10 + i) hc_84 hc_83 (by omega) (by omega)) ?_
            refine A_vV (kc2 := 0) (ks2 := 0) (As := [.int (nI (s_rule g r1 (10 + i)))]) (rest := []) hg lk_RX11_495 in_X11_writeSpaced se_X11_writeSpaced rfl dX11_printRule_72 ⟨by decide, by decide⟩ rfl rfl ⟨by decide, by decide⟩ hc_84 (by omega) rfl rfl (Nat.le_of_ble_eq_true rfl) (c_X11_writeSpaced G ex n σ_82 F1 L1 o1 (s_rule g r1 (10 + i)) hc_84 hc_85 (by omega) h1_33 (by assumption) (by omega) (by omega)) ?_
            rintro σ_130 ⟨L72, o72, hL72, hlen72, hO72, hc_127, hc_128, hf_129⟩
            have hc_127 : σ_130 279 = o11 G (upd F1 33 (nI (L72.length))) := hc_127
            have hc_131 : σ_130 280 = q_an G 265 g := (hf_129 _ (by omega)).trans hc_83
            refine A_iincN (k' := 1) hg dX11_printRule_75 (by decide) rfl (by decide) (q_c1d rfl) ?_
            refine A_eq (ls2 := [some (.ref (q_h G + 279)), some (.int (nI (r1))), some (.int (nI (i + 1)))]) (st2 := []) (pc2 := 0) rfl rfl ?_
            refine A_goto (tgt := 51) hg dX11_printRule_78 (by decide) ?_
            exact ih51 (i + 1) L72 o72 (upd F1 33 (nI (L72.length))) σ_130 hc_131 hc_127 hc_128 (fun i hi => ((hf_129 i (by omega)).trans (hf_86 i (by omega)))) rfl (fun j hj => (q_upn (by omega)).trans ((hfr1 j hj))) (by omega) (by rw [hL72, hL1]; exact s_prn_s _) (by omega) hO72 (by omega)
      exact hL51 _ 0 L46 o46 (upd (upd F 7 (nI (0))) 33 (nI (L46.length))) σ_80 hc_81 hc_77 hc_78 (fun i hi => ((hf_79 i (by omega)).trans ((hf_24 i (by omega)).trans ((hf_19 i (by omega)).trans ((hf_14 i (by omega)).trans (hf_3 i (by omega))))))) rfl (fun j hj => q_upn hj) (Nat.zero_le _) (by rw [hL46, hL29, hL24]; exact s_pr1_t c39) (by omega) (by assumption) (Nat.lt_succ_self _)
end
