section
set_option maxRecDepth 100000 in
set_option maxHeartbeats 4000000 in
theorem c_X11_losingWith (G : GL) (ex : Bool) (n : Nat) (σ : Nat → va_E) (F : Nat → Int32) (g : Nat → Nat) (f : Nat → Nat) (nv : Nat → Nat) (ns : Nat → Nat) (mk : Nat → Nat) (va : Nat → Nat) (sp : Nat → Nat) (lo : Nat → Nat) (mc : Nat) (z : Nat) (r : Int32) (x : Int32) (hc0 : σ 279 = o11 G F) (hc1 : σ 280 = q_an G 265 g) (hc2 : σ 285 = q_bn G 1681 f) (hc3 : σ 286 = q_an G 1681 nv) (hc4 : σ 287 = q_an G 1681 ns) (hc5 : σ 288 = q_an G 2000 mk) (hc6 : σ 289 = q_an G 6724 va) (hc7 : σ 290 = q_an G 6724 sp) (hc8 : σ 291 = q_an G 80 lo) (hn : 294 ≤ n) (hg9 : s_gwf g) (hmc : mc + 6724 < 2 ^ 31) (hF12 : F 12 = nI mc) (hF16 : F 16 = nI z) (hmk : ∀ v : Nat, v < 2000 → mk v ≤ mc) (hTI : s_TI z lo va sp) (hlo : ∀ j : Nat, j < 80 → lo j < 2 ^ 31) : Ct G yX11_losingWith cX11_losingWith 4 (some .int) ⟨5, 0, 0, 115⟩ [.ref (q_h G + 279), .int (r), .int (x)] ex n σ (fun v9 σ2 => (v9 = some (.int (nI (0))) ∧ (∀ j : Nat, j < g 0 → r = nI j → False) ∧ σ2 279 = o11 G (upd F 7 (nI (1))) ∧ (∀ i : Nat, i ≠ 279 → σ2 i = σ i)) ∨ (∃ (r1 : Nat), v9 = some (.int (nI (0))) ∧ (r = nI r1) ∧ (r1 < g 0) ∧ (∀ j : Nat, 0 ≤ j → j ≤ 5 → x = nI j → False) ∧ σ2 279 = o11 G (upd F 7 (nI (2))) ∧ (∀ i : Nat, i ≠ 279 → σ2 i = σ i)) ∨ (∃ (r1 : Nat), ∃ (x1 : Nat), ∃ (f' : Nat → Nat), ∃ (nv' : Nat → Nat), ∃ (ns' : Nat → Nat), ∃ (mk' : Nat → Nat), ∃ (va' : Nat → Nat), ∃ (sp' : Nat → Nat), ∃ (lo' : Nat → Nat), ∃ (mc' : Nat), ∃ (z' : Nat), v9 = some (.int (nI (s_cnt (fun p => s_V (s_rule (s_rset g r1 18 x1) r1) p == 0) 1681))) ∧ (r = nI r1) ∧ (r1 < g 0) ∧ (x = nI x1) ∧ (x1 ≤ 5) ∧ (s_TI z' lo' va' sp') ∧ (mc' ≤ mc + 6724) ∧ (∀ v : Nat, v < 2000 → mk' v ≤ mc') ∧ (∀ j : Nat, j < 80 → lo' j < 2 ^ 31) ∧ σ2 279 = o11 G (upd (upd (upd F 7 (nI (0))) 12 (nI (mc'))) 16 (nI (z'))) ∧ σ2 285 = q_bn G 1681 f' ∧ σ2 286 = q_an G 1681 nv' ∧ σ2 287 = q_an G 1681 ns' ∧ σ2 288 = q_an G 2000 mk' ∧ σ2 289 = q_an G 6724 va' ∧ σ2 290 = q_an G 6724 sp' ∧ σ2 291 = q_an G 80 lo' ∧ σ2 280 = q_an G 265 g ∧ (∀ i : Nat, i ≠ 279 ∧ i ≠ 280 ∧ (i < 285 ∨ 291 < i) → σ2 i = σ i))) := by
  refine q_enter [some (.ref (q_h G + 279)), some (.int (r)), some (.int (x)), none] (by decide) (Nat.le_of_ble_eq_true rfl) rfl ?_
  intro K hg
  obtain ⟨Q, hQ⟩ : ∃ Q, Q = q_Q G K ex n 0 0 (fun v9 n' σ' => n' = n ∧ (fun v9 σ2 => (v9 = some (.int (nI (0))) ∧ (∀ j : Nat, j < g 0 → r = nI j → False) ∧ σ2 279 = o11 G (upd F 7 (nI (1))) ∧ (∀ i : Nat, i ≠ 279 → σ2 i = σ i)) ∨ (∃ (r1 : Nat), v9 = some (.int (nI (0))) ∧ (r = nI r1) ∧ (r1 < g 0) ∧ (∀ j : Nat, 0 ≤ j → j ≤ 5 → x = nI j → False) ∧ σ2 279 = o11 G (upd F 7 (nI (2))) ∧ (∀ i : Nat, i ≠ 279 → σ2 i = σ i)) ∨ (∃ (r1 : Nat), ∃ (x1 : Nat), ∃ (f' : Nat → Nat), ∃ (nv' : Nat → Nat), ∃ (ns' : Nat → Nat), ∃ (mk' : Nat → Nat), ∃ (va' : Nat → Nat), ∃ (sp' : Nat → Nat), ∃ (lo' : Nat → Nat), ∃ (mc' : Nat), ∃ (z' : Nat), v9 = some (.int (nI (s_cnt (fun p => s_V (s_rule (s_rset g r1 18 x1) r1) p == 0) 1681))) ∧ (r = nI r1) ∧ (r1 < g 0) ∧ (x = nI x1) ∧ (x1 ≤ 5) ∧ (s_TI z' lo' va' sp') ∧ (mc' ≤ mc + 6724) ∧ (∀ v : Nat, v < 2000 → mk' v ≤ mc') ∧ (∀ j : Nat, j < 80 → lo' j < 2 ^ 31) ∧ σ2 279 = o11 G (upd (upd (upd F 7 (nI (0))) 12 (nI (mc'))) 16 (nI (z'))) ∧ σ2 285 = q_bn G 1681 f' ∧ σ2 286 = q_an G 1681 nv' ∧ σ2 287 = q_an G 1681 ns' ∧ σ2 288 = q_an G 2000 mk' ∧ σ2 289 = q_an G 6724 va' ∧ σ2 290 = q_an G 6724 sp' ∧ σ2 291 = q_an G 80 lo' ∧ σ2 280 = q_an G 265 g ∧ (∀ i : Nat, i ≠ 279 ∧ i ≠ 280 ∧ (i < 285 ∨ 291 < i) → σ2 i = σ i))) v9 σ') q_noX := ⟨_, rfl⟩
  refine (?_ : AJ G K (q_Q G K ex n 0 0 _ _) 0 0 ex n 0 _ _ σ)
  rw [← hQ]
  have hnr : g 0 ≤ 4 := hg9.1
  refine A_aload_n hg dX11_losingWith_0 rfl rfl ?_
  refine A_iconst (v := (nI (0))) hg dX11_losingWith_1 (by decide) ?_
  refine A_putf hg fl_RX11_67 dX11_losingWith_2 hc0 (by omega) (Nat.le_of_ble_eq_true rfl) rfl rfl rfl (fun σ_1 hc_2 hf_3 => ?_)
  have hc_2 : σ_1 279 = o11 G (upd F 7 (nI (0))) := hc_2
  have hc_4 : σ_1 280 = q_an G 265 g := (hf_3 _ (by omega)).trans hc1
  have hc_5 : σ_1 285 = q_bn G 1681 f := (hf_3 _ (by omega)).trans hc2
  have hc_6 : σ_1 286 = q_an G 1681 nv := (hf_3 _ (by omega)).trans hc3
  have hc_7 : σ_1 287 = q_an G 1681 ns := (hf_3 _ (by omega)).trans hc4
  have hc_8 : σ_1 288 = q_an G 2000 mk := (hf_3 _ (by omega)).trans hc5
  have hc_9 : σ_1 289 = q_an G 6724 va := (hf_3 _ (by omega)).trans hc6
  have hc_10 : σ_1 290 = q_an G 6724 sp := (hf_3 _ (by omega)).trans hc7
  have hc_11 : σ_1 291 = q_an G 80 lo := (hf_3 _ (by omega)).trans hc8
  refine A_aload_n hg dX11_losingWith_5 rfl rfl ?_
  refine A_iload_n hg dX11_losingWith_6 rfl rfl ?_
  refine A_hV (kc2 := 0) (ks2 := 0) (As := [.int (r)]) (rest := []) hg lk_RX11_402 in_X11_noRule se_X11_noRule rfl dX11_losingWith_7 ⟨by decide, by decide⟩ rfl rfl ⟨by decide, by decide⟩ hc_2 (by omega) rfl rfl (Nat.le_of_ble_eq_true rfl) (c_X11_noRule G ex n σ_1 (upd F 7 (nI (0))) g r hc_2 hc_4 (by omega) (by omega)) ?_
  rintro _ σ_15 (⟨rfl, hno, hc_12, hf_13⟩ | ⟨r1, rfl, hre, hrl, he_14⟩)
  · skip
    refine (?_ : AJ G K Q 0 0 ex n 10 [some (.ref (q_h G + 279)), some (.int (r)), some (.int (x)), none] [.int (nI (1))] σ_15)
    have hc_12 : σ_15 279 = o11 G (upd F 7 (nI (1))) := hc_12
    have hc_16 : σ_15 280 = q_an G 265 g := (hf_13 _ (by omega)).trans hc_4
    have hc_17 : σ_15 285 = q_bn G 1681 f := (hf_13 _ (by omega)).trans hc_5
    have hc_18 : σ_15 286 = q_an G 1681 nv := (hf_13 _ (by omega)).trans hc_6
    have hc_19 : σ_15 287 = q_an G 1681 ns := (hf_13 _ (by omega)).trans hc_7
    have hc_20 : σ_15 288 = q_an G 2000 mk := (hf_13 _ (by omega)).trans hc_8
    have hc_21 : σ_15 289 = q_an G 6724 va := (hf_13 _ (by omega)).trans hc_9
    have hc_22 : σ_15 290 = q_an G 6724 sp := (hf_13 _ (by omega)).trans hc_10
    have hc_23 : σ_15 291 = q_an G 80 lo := (hf_13 _ (by omega)).trans hc_11
    refine A_if_neN (tgt := 35) hg dX11_losingWith_10 (by decide) (by decide) (fun c10 => ?_) (fun c10 => absurd c10 (by decide))
    refine A_iconst (v := (nI (0))) hg dX11_losingWith_35 (by decide) ?_
    rw [hQ]
    exact A_ireturn hg (by decide) (by decide) rfl dX11_losingWith_36 ⟨rfl, Or.inl (⟨rfl, (by first | rfl | assumption | omega), hc_12, (fun i hi => ((hf_13 i (by omega)).trans (hf_3 i (by omega))))⟩)⟩
  · skip
    rw [he_14]
    refine (?_ : AJ G K Q 0 0 ex n 10 [some (.ref (q_h G + 279)), some (.int (r)), some (.int (x)), none] [.int (nI (0))] σ_1)
    refine A_if_neN (tgt := 35) hg dX11_losingWith_10 (by decide) (by decide) (fun c10 => absurd (by decide) c10) (fun c10 => ?_)
    subst hre
    have hw := hg9.2.2.2.2.2.1 r1 hrl
    have hu0 := hw.1
    have hu9 := hw.2.1
    have hu18 := hw.2.2.1
    have hu19 := hw.2.2.2.1
    have hu20 := hw.2.2.2.2.1
    refine A_aload_n hg dX11_losingWith_13 rfl rfl ?_
    refine A_iload_n hg dX11_losingWith_14 rfl rfl ?_
    refine A_iconst (v := (nI (0))) hg dX11_losingWith_15 (by decide) ?_
    refine A_iconst (v := (nI (5))) hg dX11_losingWith_16 (by decide) ?_
    refine A_eS (kc2 := 0) (ks2 := 0) (As := [.int (x), .int (nI (0)), .int (nI (5))]) (rest := [.ref (q_h G + 279)]) hg lk_RX11_77 st_X11_inRange dX11_losingWith_17 ⟨by decide, by decide⟩ rfl rfl ⟨by decide, by decide⟩ rfl rfl (Nat.le_of_ble_eq_true rfl) (c_X11_inRange G ex n σ_1 x (nI (0)) (nI (5))) ?_
    refine A_if_neB (tgt := 27) hg dX11_losingWith_20 (by decide) (fun c20 => ?_) (fun c20 => ?_)
    · skip
      refine A_iconst (v := (nI (0))) hg dX11_losingWith_27 (by decide) ?_
      refine A_iconst (v := (nI (2))) hg dX11_losingWith_28 (by decide) ?_
      refine A_eV (kc2 := 0) (ks2 := 0) (As := [.int (nI (0)), .int (nI (2))]) (rest := []) hg lk_RX11_81 in_X11_fails se_X11_fails rfl dX11_losingWith_29 ⟨by decide, by decide⟩ rfl rfl ⟨by decide, by decide⟩ hc_2 (by omega) rfl rfl (Nat.le_of_ble_eq_true rfl) (c_X11_fails0 G ex n σ_1 (upd F 7 (nI (0))) (nI (2)) hc_2 (by omega)) ?_
      refine A_if_eqN (tgt := 37) hg dX11_losingWith_32 (by decide) (by decide) (fun c32 => ?_) (fun c32 => absurd (by decide) c32)
      obtain ⟨x1, hxe, -, hxl⟩ := q_in_nat (by decide) c20 (by decide)
      subst hxe
      have hw5 : s_rwf (s_rule (va_up g (17 + 29 * r1 + 18) x1) r1) := s_rwf_18 hw hxl
      refine A_aload_n hg dX11_losingWith_37 rfl rfl ?_
      refine A_iload_n hg dX11_losingWith_38 rfl rfl ?_
      refine A_bipush (v := (nI (18))) hg dX11_losingWith_39 (by decide) ?_
      refine A_eV (kc2 := 0) (ks2 := 0) (As := [.int (nI (r1)), .int (nI (18))]) (rest := []) hg lk_RX11_85 in_X11_of se_X11_of rfl dX11_losingWith_41 ⟨by decide, by decide⟩ rfl rfl ⟨by decide, by decide⟩ hc_2 (by omega) rfl rfl (Nat.le_of_ble_eq_true rfl) (c_X11_of G ex n σ_1 (upd F 7 (nI (0))) g r1 18 hc_2 hc_4 (by omega) (by omega)) ?_
      refine A_istore_n hg dX11_losingWith_44 rfl (by decide) (q_c1d rfl) ?_
      refine A_eq (ls2 := [some (.ref (q_h G + 279)), some (.int (nI (r1))), some (.int (nI (x1))), some (.int (nI (s_rule g r1 18)))]) (st2 := []) (pc2 := 0) rfl rfl ?_
      refine A_aload_n hg dX11_losingWith_45 rfl rfl ?_
      refine A_iload_n hg dX11_losingWith_46 rfl rfl ?_
      refine A_bipush (v := (nI (18))) hg dX11_losingWith_47 (by decide) ?_
      refine A_iload_n hg dX11_losingWith_49 rfl rfl ?_
      refine A_vV (kc2 := 0) (ks2 := 0) (As := [.int (nI (r1)), .int (nI (18)), .int (nI (x1))]) (rest := []) hg lk_RX11_60 in_X11_putsRule se_X11_putsRule rfl dX11_losingWith_50 ⟨by decide, by decide⟩ rfl rfl ⟨by decide, by decide⟩ hc_2 (by omega) rfl rfl (Nat.le_of_ble_eq_true rfl) (c_X11_putsRule G ex n σ_1 (upd F 7 (nI (0))) g r1 18 x1 hc_2 hc_4 (by omega) (by omega)) ?_
      rintro σ_26 ⟨hc_24, hf_25⟩
      have hc_27 : σ_26 285 = q_bn G 1681 f := (hf_25 _ (by omega)).trans hc_5
      have hc_28 : σ_26 286 = q_an G 1681 nv := (hf_25 _ (by omega)).trans hc_6
      have hc_29 : σ_26 287 = q_an G 1681 ns := (hf_25 _ (by omega)).trans hc_7
      have hc_30 : σ_26 288 = q_an G 2000 mk := (hf_25 _ (by omega)).trans hc_8
      have hc_31 : σ_26 289 = q_an G 6724 va := (hf_25 _ (by omega)).trans hc_9
      have hc_32 : σ_26 290 = q_an G 6724 sp := (hf_25 _ (by omega)).trans hc_10
      have hc_33 : σ_26 291 = q_an G 80 lo := (hf_25 _ (by omega)).trans hc_11
      have hc_34 : σ_26 279 = o11 G (upd F 7 (nI (0))) := (hf_25 _ (by omega)).trans hc_2
      refine A_aload_n hg dX11_losingWith_53 rfl rfl ?_
      refine A_iload_n hg dX11_losingWith_54 rfl rfl ?_
      refine A_vV (kc2 := 0) (ks2 := 0) (As := [.int (nI (r1))]) (rest := []) hg lk_RX11_133 in_X11_laysAllowed se_X11_laysAllowed rfl dX11_losingWith_55 ⟨by decide, by decide⟩ rfl rfl ⟨by decide, by decide⟩ hc_34 (by omega) rfl rfl (Nat.le_of_ble_eq_true rfl) (c_X11_laysAllowed G ex n σ_26 (upd F 7 (nI (0))) (va_up g (17 + 29 * r1 + 18) x1) r1 f hc_34 hc_24 hc_27 (by omega) (by omega) hw5) ?_
      rintro σ_37 ⟨f2, hA2, hc_35, hf_36⟩
      have hc_38 : σ_37 286 = q_an G 1681 nv := (hf_36 _ (by omega)).trans hc_28
      have hc_39 : σ_37 287 = q_an G 1681 ns := (hf_36 _ (by omega)).trans hc_29
      have hc_40 : σ_37 288 = q_an G 2000 mk := (hf_36 _ (by omega)).trans hc_30
      have hc_41 : σ_37 289 = q_an G 6724 va := (hf_36 _ (by omega)).trans hc_31
      have hc_42 : σ_37 290 = q_an G 6724 sp := (hf_36 _ (by omega)).trans hc_32
      have hc_43 : σ_37 291 = q_an G 80 lo := (hf_36 _ (by omega)).trans hc_33
      have hc_44 : σ_37 279 = o11 G (upd F 7 (nI (0))) := (hf_36 _ (by omega)).trans hc_34
      have hc_45 : σ_37 280 = q_an G 265 (va_up g (17 + 29 * r1 + 18) x1) := (hf_36 _ (by omega)).trans hc_24
      refine A_aload_n hg dX11_losingWith_58 rfl rfl ?_
      refine A_iload_n hg dX11_losingWith_59 rfl rfl ?_
      refine A_bipush (v := (nI (18))) hg dX11_losingWith_60 (by decide) ?_
      refine A_iload_n hg dX11_losingWith_62 rfl rfl ?_
      refine A_vV (kc2 := 0) (ks2 := 0) (As := [.int (nI (r1)), .int (nI (18)), .int (nI (s_rule g r1 18))]) (rest := []) hg lk_RX11_60 in_X11_putsRule se_X11_putsRule rfl dX11_losingWith_63 ⟨by decide, by decide⟩ rfl rfl ⟨by decide, by decide⟩ hc_44 (by omega) rfl rfl (Nat.le_of_ble_eq_true rfl) (c_X11_putsRule G ex n σ_37 (upd F 7 (nI (0))) (va_up g (17 + 29 * r1 + 18) x1) r1 18 (s_rule g r1 18) hc_44 hc_45 (by omega) (by omega)) ?_
      rintro σ_48 ⟨hc_46, hf_47⟩
      have hc_49 : σ_48 286 = q_an G 1681 nv := (hf_47 _ (by omega)).trans hc_38
      have hc_50 : σ_48 287 = q_an G 1681 ns := (hf_47 _ (by omega)).trans hc_39
      have hc_51 : σ_48 288 = q_an G 2000 mk := (hf_47 _ (by omega)).trans hc_40
      have hc_52 : σ_48 289 = q_an G 6724 va := (hf_47 _ (by omega)).trans hc_41
      have hc_53 : σ_48 290 = q_an G 6724 sp := (hf_47 _ (by omega)).trans hc_42
      have hc_54 : σ_48 291 = q_an G 80 lo := (hf_47 _ (by omega)).trans hc_43
      have hc_55 : σ_48 279 = o11 G (upd F 7 (nI (0))) := (hf_47 _ (by omega)).trans hc_44
      have hc_56 : σ_48 285 = q_bn G 1681 f2 := (hf_47 _ (by omega)).trans hc_35
      refine A_canon g hc_46 (fun jj _ => s_rset_back (17 + 29 * r1 + 18) x1 jj) (fun σ_57 hc_58 hf_59 => ?_)
      have hc_60 : σ_57 286 = q_an G 1681 nv := (hf_59 _ (by omega)).trans hc_49
      have hc_61 : σ_57 287 = q_an G 1681 ns := (hf_59 _ (by omega)).trans hc_50
      have hc_62 : σ_57 288 = q_an G 2000 mk := (hf_59 _ (by omega)).trans hc_51
      have hc_63 : σ_57 289 = q_an G 6724 va := (hf_59 _ (by omega)).trans hc_52
      have hc_64 : σ_57 290 = q_an G 6724 sp := (hf_59 _ (by omega)).trans hc_53
      have hc_65 : σ_57 291 = q_an G 80 lo := (hf_59 _ (by omega)).trans hc_54
      have hc_66 : σ_57 279 = o11 G (upd F 7 (nI (0))) := (hf_59 _ (by omega)).trans hc_55
      have hc_67 : σ_57 285 = q_bn G 1681 f2 := (hf_59 _ (by omega)).trans hc_56
      refine A_aload_n hg dX11_losingWith_66 rfl rfl ?_
      refine A_vV (kc2 := 0) (ks2 := 0) (As := []) (rest := []) hg lk_RX11_137 in_X11_laysValues se_X11_laysValues rfl dX11_losingWith_67 ⟨by decide, by decide⟩ rfl rfl ⟨by decide, by decide⟩ hc_66 (by omega) rfl rfl (Nat.le_of_ble_eq_true rfl) (c_X11_laysValues G ex n σ_57 (upd F 7 (nI (0))) (s_A (s_rule (va_up g (17 + 29 * r1 + 18) x1) r1)) f2 nv mk mc hc_66 hc_67 hc_60 hc_62 (by omega) hF12 (by omega) hA2 (s_A0 _) hmk) ?_
      rintro σ_72 ⟨nv2, mk2, hnv2, hmk3, hc_68, hc_69, hc_70, hf_71⟩
      have hc_68 : σ_72 279 = o11 G (upd (upd F 7 (nI (0))) 12 (nI (mc + 1681))) := hc_68
      have hc_73 : σ_72 287 = q_an G 1681 ns := (hf_71 _ (by omega)).trans hc_61
      have hc_74 : σ_72 289 = q_an G 6724 va := (hf_71 _ (by omega)).trans hc_63
      have hc_75 : σ_72 290 = q_an G 6724 sp := (hf_71 _ (by omega)).trans hc_64
      have hc_76 : σ_72 291 = q_an G 80 lo := (hf_71 _ (by omega)).trans hc_65
      have hc_77 : σ_72 285 = q_bn G 1681 f2 := (hf_71 _ (by omega)).trans hc_67
      have hc_78 : σ_72 280 = q_an G 265 g := (hf_71 _ (by omega)).trans hc_58
      refine A_aload_n hg dX11_losingWith_70 rfl rfl ?_
      refine A_eV (kc2 := 0) (ks2 := 0) (As := []) (rest := []) hg lk_RX11_457 in_X11_losingNow se_X11_losingNow rfl dX11_losingWith_71 ⟨by decide, by decide⟩ rfl rfl ⟨by decide, by decide⟩ hc_68 (by omega) rfl rfl (Nat.le_of_ble_eq_true rfl) (c_X11_losingNow G ex n σ_72 (upd (upd F 7 (nI (0))) 12 (nI (mc + 1681))) nv2 hc_68 hc_69 (by omega) (fun j hj => by rw [hnv2 j hj]; have := s_val_le (s_A0 (s_rule (va_up g (17 + 29 * r1 + 18) x1) r1)) j hj; omega)) ?_
      have hz : σ_72 279 = o11 G (upd (upd (upd F 7 (nI (0))) 12 (nI (mc + 1681))) 16 (nI z)) := by rw [q_updF (F := (upd (upd F 7 (nI (0))) 12 (nI (mc + 1681)))) (show (upd (upd F 7 (nI (0))) 12 (nI (mc + 1681))) 16 = nI z from hF16)]; exact hc_68
      rw [hQ]
      exact A_ireturn hg (by decide) (by decide) rfl dX11_losingWith_74 ⟨rfl, Or.inr (Or.inr ((⟨r1, x1, f2, nv2, ns, mk2, va, sp, lo, (mc + 1681), z, (by rw [s_cnt_congr (P := fun p => nv2 p == 0) (Q := fun p => s_V (s_rule (s_rset g r1 18 x1) r1) p == 0) (fun q hq => by show (nv2 q == 0) = _; rw [hnv2 q hq]; rfl)]), (by first | rfl | assumption | omega), (by first | rfl | assumption | omega), (by first | rfl | assumption | omega), (by first | rfl | assumption | omega), hTI, (by omega), hmk3, hlo, hz, hc_77, hc_69, hc_73, hc_70, hc_74, hc_75, hc_76, hc_78, (fun i hi => ((hf_71 i (by omega)).trans ((hf_59 i (by omega)).trans ((hf_47 i (by omega)).trans ((hf_36 i (by omega)).trans ((hf_25 i (by omega)).trans (hf_3 i (by omega))))))))⟩)))⟩
    · skip
      refine A_iconst (v := (nI (1))) hg dX11_losingWith_23 (by decide) ?_
      refine A_goto (tgt := 28) hg dX11_losingWith_24 (by decide) ?_
      refine A_iconst (v := (nI (2))) hg dX11_losingWith_28 (by decide) ?_
      refine A_hV (kc2 := 0) (ks2 := 0) (As := [.int (nI (1)), .int (nI (2))]) (rest := []) hg lk_RX11_81 in_X11_fails se_X11_fails rfl dX11_losingWith_29 ⟨by decide, by decide⟩ rfl rfl ⟨by decide, by decide⟩ hc_2 (by omega) rfl rfl (Nat.le_of_ble_eq_true rfl) (c_X11_fails1 G ex n σ_1 (upd F 7 (nI (0))) 2 hc_2 (by omega)) ?_
      rintro _ σ_81 ⟨rfl, hc_79, hf_80⟩
      refine (?_ : AJ G K Q 0 0 ex n 32 [some (.ref (q_h G + 279)), some (.int (nI (r1))), some (.int (x)), none] [.int (nI (1))] σ_81)
      have hc_79 : σ_81 279 = o11 G (upd F 7 (nI (2))) := hc_79
      have hc_82 : σ_81 280 = q_an G 265 g := (hf_80 _ (by omega)).trans hc_4
      have hc_83 : σ_81 285 = q_bn G 1681 f := (hf_80 _ (by omega)).trans hc_5
      have hc_84 : σ_81 286 = q_an G 1681 nv := (hf_80 _ (by omega)).trans hc_6
      have hc_85 : σ_81 287 = q_an G 1681 ns := (hf_80 _ (by omega)).trans hc_7
      have hc_86 : σ_81 288 = q_an G 2000 mk := (hf_80 _ (by omega)).trans hc_8
      have hc_87 : σ_81 289 = q_an G 6724 va := (hf_80 _ (by omega)).trans hc_9
      have hc_88 : σ_81 290 = q_an G 6724 sp := (hf_80 _ (by omega)).trans hc_10
      have hc_89 : σ_81 291 = q_an G 80 lo := (hf_80 _ (by omega)).trans hc_11
      refine A_if_eqN (tgt := 37) hg dX11_losingWith_32 (by decide) (by decide) (fun c32 => absurd c32 (by decide)) (fun c32 => ?_)
      refine A_iconst (v := (nI (0))) hg dX11_losingWith_35 (by decide) ?_
      rw [hQ]
      exact A_ireturn hg (by decide) (by decide) rfl dX11_losingWith_36 ⟨rfl, Or.inr (Or.inl (⟨r1, rfl, (by first | rfl | assumption | omega), (by first | rfl | assumption | omega), (q_range_f (by decide) c20), hc_79, (fun i hi => ((hf_80 i (by omega)).trans (hf_3 i (by omega))))⟩))⟩
end
