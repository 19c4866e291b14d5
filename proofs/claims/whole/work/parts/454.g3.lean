section
set_option maxRecDepth 100000 in
set_option maxHeartbeats 4000000 in
theorem c_X11_gap (G : GL) (ex : Bool) (n : Nat) (σ : Nat → va_E) (F : Nat → Int32) (g : Nat → Nat) (f : Nat → Nat) (nv : Nat → Nat) (ns : Nat → Nat) (mk : Nat → Nat) (va : Nat → Nat) (sp : Nat → Nat) (lo : Nat → Nat) (mc : Nat) (z : Nat) (r : Int32) (hc0 : σ 279 = o11 G F) (hc1 : σ 280 = q_an G 265 g) (hc2 : σ 285 = q_bn G 1681 f) (hc3 : σ 286 = q_an G 1681 nv) (hc4 : σ 287 = q_an G 1681 ns) (hc5 : σ 288 = q_an G 2000 mk) (hc6 : σ 289 = q_an G 6724 va) (hc7 : σ 290 = q_an G 6724 sp) (hc8 : σ 291 = q_an G 80 lo) (hn : 294 ≤ n) (hg9 : s_gwf g) (hmc : mc + 6724 < 2 ^ 31) (hF12 : F 12 = nI mc) (hF16 : F 16 = nI z) (hmk : ∀ v : Nat, v < 2000 → mk v ≤ mc) (hTI : s_TI z lo va sp) (hlo : ∀ j : Nat, j < 80 → lo j < 2 ^ 31) : Ct G yX11_gap cX11_gap 4 (some .int) ⟨6, 0, 0, 137⟩ [.ref (q_h G + 279), .int (r)] ex n σ (fun v9 σ2 => (v9 = some (.int (nI (0))) ∧ (∀ j : Nat, j < g 0 → r = nI j → False) ∧ σ2 279 = o11 G (upd F 7 (nI (1))) ∧ (∀ i : Nat, i ≠ 279 → σ2 i = σ i)) ∨ (∃ (r1 : Nat), v9 = some (.int (q_d (0))) ∧ (r = nI r1) ∧ (r1 < g 0) ∧ (s_free (s_rule g r1) = false) ∧ σ2 279 = o11 G (upd F 7 (nI (0))) ∧ (∀ i : Nat, i ≠ 279 → σ2 i = σ i)) ∨ (∃ (r1 : Nat), ∃ (f' : Nat → Nat), ∃ (nv' : Nat → Nat), ∃ (ns' : Nat → Nat), ∃ (mk' : Nat → Nat), ∃ (va' : Nat → Nat), ∃ (sp' : Nat → Nat), ∃ (lo' : Nat → Nat), ∃ (mc' : Nat), ∃ (z' : Nat), v9 = some (.int (nI (s_gpc (s_rule g r1) 1681))) ∧ (r = nI r1) ∧ (r1 < g 0) ∧ (s_free (s_rule g r1) = true) ∧ (s_TI z' lo' va' sp') ∧ (mc' ≤ mc + 6724) ∧ (∀ v : Nat, v < 2000 → mk' v ≤ mc') ∧ (∀ j : Nat, j < 80 → lo' j < 2 ^ 31) ∧ σ2 279 = o11 G (upd (upd (upd F 7 (nI (0))) 12 (nI (mc'))) 16 (nI (z'))) ∧ σ2 285 = q_bn G 1681 f' ∧ σ2 286 = q_an G 1681 nv' ∧ σ2 287 = q_an G 1681 ns' ∧ σ2 288 = q_an G 2000 mk' ∧ σ2 289 = q_an G 6724 va' ∧ σ2 290 = q_an G 6724 sp' ∧ σ2 291 = q_an G 80 lo' ∧ (∀ i : Nat, i ≠ 279 ∧ (i < 285 ∨ 291 < i) → σ2 i = σ i))) := by
  refine q_enter [some (.ref (q_h G + 279)), some (.int (r)), none, none] (by decide) (Nat.le_of_ble_eq_true rfl) rfl ?_
  intro K hg
  obtain ⟨Q, hQ⟩ : ∃ Q, Q = q_Q G K ex n 0 0 (fun v9 n' σ' => n' = n ∧ (fun v9 σ2 => (v9 = some (.int (nI (0))) ∧ (∀ j : Nat, j < g 0 → r = nI j → False) ∧ σ2 279 = o11 G (upd F 7 (nI (1))) ∧ (∀ i : Nat, i ≠ 279 → σ2 i = σ i)) ∨ (∃ (r1 : Nat), v9 = some (.int (q_d (0))) ∧ (r = nI r1) ∧ (r1 < g 0) ∧ (s_free (s_rule g r1) = false) ∧ σ2 279 = o11 G (upd F 7 (nI (0))) ∧ (∀ i : Nat, i ≠ 279 → σ2 i = σ i)) ∨ (∃ (r1 : Nat), ∃ (f' : Nat → Nat), ∃ (nv' : Nat → Nat), ∃ (ns' : Nat → Nat), ∃ (mk' : Nat → Nat), ∃ (va' : Nat → Nat), ∃ (sp' : Nat → Nat), ∃ (lo' : Nat → Nat), ∃ (mc' : Nat), ∃ (z' : Nat), v9 = some (.int (nI (s_gpc (s_rule g r1) 1681))) ∧ (r = nI r1) ∧ (r1 < g 0) ∧ (s_free (s_rule g r1) = true) ∧ (s_TI z' lo' va' sp') ∧ (mc' ≤ mc + 6724) ∧ (∀ v : Nat, v < 2000 → mk' v ≤ mc') ∧ (∀ j : Nat, j < 80 → lo' j < 2 ^ 31) ∧ σ2 279 = o11 G (upd (upd (upd F 7 (nI (0))) 12 (nI (mc'))) 16 (nI (z'))) ∧ σ2 285 = q_bn G 1681 f' ∧ σ2 286 = q_an G 1681 nv' ∧ σ2 287 = q_an G 1681 ns' ∧ σ2 288 = q_an G 2000 mk' ∧ σ2 289 = q_an G 6724 va' ∧ σ2 290 = q_an G 6724 sp' ∧ σ2 291 = q_an G 80 lo' ∧ (∀ i : Nat, i ≠ 279 ∧ (i < 285 ∨ 291 < i) → σ2 i = σ i))) v9 σ') q_noX := ⟨_, rfl⟩
  refine (?_ : AJ G K (q_Q G K ex n 0 0 _ _) 0 0 ex n 0 _ _ σ)
  rw [← hQ]
  have hnr : g 0 ≤ 4 := hg9.1
  refine A_aload_n hg dX11_gap_0 rfl rfl ?_
  refine A_iconst (v := (nI (0))) hg dX11_gap_1 (by decide) ?_
  refine A_putf hg fl_RX11_67 dX11_gap_2 hc0 (by omega) (Nat.le_of_ble_eq_true rfl) rfl rfl rfl (fun σ_1 hc_2 hf_3 => ?_)
  have hc_2 : σ_1 279 = o11 G (upd F 7 (nI (0))) := hc_2
  have hc_4 : σ_1 280 = q_an G 265 g := (hf_3 _ (by omega)).trans hc1
  have hc_5 : σ_1 285 = q_bn G 1681 f := (hf_3 _ (by omega)).trans hc2
  have hc_6 : σ_1 286 = q_an G 1681 nv := (hf_3 _ (by omega)).trans hc3
  have hc_7 : σ_1 287 = q_an G 1681 ns := (hf_3 _ (by omega)).trans hc4
  have hc_8 : σ_1 288 = q_an G 2000 mk := (hf_3 _ (by omega)).trans hc5
  have hc_9 : σ_1 289 = q_an G 6724 va := (hf_3 _ (by omega)).trans hc6
  have hc_10 : σ_1 290 = q_an G 6724 sp := (hf_3 _ (by omega)).trans hc7
  have hc_11 : σ_1 291 = q_an G 80 lo := (hf_3 _ (by omega)).trans hc8
  refine A_aload_n hg dX11_gap_5 rfl rfl ?_
  refine A_iload_n hg dX11_gap_6 rfl rfl ?_
  refine A_hV (kc2 := 0) (ks2 := 0) (As := [.int (r)]) (rest := []) hg lk_RX11_402 in_X11_noRule se_X11_noRule rfl dX11_gap_7 ⟨by decide, by decide⟩ rfl rfl ⟨by decide, by decide⟩ hc_2 (by omega) rfl rfl (Nat.le_of_ble_eq_true rfl) (c_X11_noRule G ex n σ_1 (upd F 7 (nI (0))) g r hc_2 hc_4 (by omega) (by omega)) ?_
  rintro _ σ_15 (⟨rfl, hno, hc_12, hf_13⟩ | ⟨r1, rfl, hre, hrl, he_14⟩)
  · skip
    refine (?_ : AJ G K Q 0 0 ex n 10 [some (.ref (q_h G + 279)), some (.int (r)), none, none] [.int (nI (1))] σ_15)
    have hc_12 : σ_15 279 = o11 G (upd F 7 (nI (1))) := hc_12
    have hc_16 : σ_15 280 = q_an G 265 g := (hf_13 _ (by omega)).trans hc_4
    have hc_17 : σ_15 285 = q_bn G 1681 f := (hf_13 _ (by omega)).trans hc_5
    have hc_18 : σ_15 286 = q_an G 1681 nv := (hf_13 _ (by omega)).trans hc_6
    have hc_19 : σ_15 287 = q_an G 1681 ns := (hf_13 _ (by omega)).trans hc_7
    have hc_20 : σ_15 288 = q_an G 2000 mk := (hf_13 _ (by omega)).trans hc_8
    have hc_21 : σ_15 289 = q_an G 6724 va := (hf_13 _ (by omega)).trans hc_9
    have hc_22 : σ_15 290 = q_an G 6724 sp := (hf_13 _ (by omega)).trans hc_10
    have hc_23 : σ_15 291 = q_an G 80 lo := (hf_13 _ (by omega)).trans hc_11
    refine A_if_eqN (tgt := 15) hg dX11_gap_10 (by decide) (by decide) (fun c10 => absurd c10 (by decide)) (fun c10 => ?_)
    refine A_iconst (v := (nI (0))) hg dX11_gap_13 (by decide) ?_
    rw [hQ]
    exact A_ireturn hg (by decide) (by decide) rfl dX11_gap_14 ⟨rfl, Or.inl (⟨rfl, (by first | rfl | assumption | omega), hc_12, (fun i hi => ((hf_13 i (by omega)).trans (hf_3 i (by omega))))⟩)⟩
  · skip
    rw [he_14]
    refine (?_ : AJ G K Q 0 0 ex n 10 [some (.ref (q_h G + 279)), some (.int (r)), none, none] [.int (nI (0))] σ_1)
    refine A_if_eqN (tgt := 15) hg dX11_gap_10 (by decide) (by decide) (fun c10 => ?_) (fun c10 => absurd (by decide) c10)
    subst hre
    have hw := hg9.2.2.2.2.2.1 r1 hrl
    have hu0 := hw.1
    have hu9 := hw.2.1
    have hu18 := hw.2.2.1
    have hu19 := hw.2.2.2.1
    have hu20 := hw.2.2.2.2.1
    refine A_aload_n hg dX11_gap_15 rfl rfl ?_
    refine A_iload_n hg dX11_gap_16 rfl rfl ?_
    refine A_eV (kc2 := 0) (ks2 := 0) (As := [.int (nI (r1))]) (rest := []) hg lk_RX11_405 in_X11_isFree se_X11_isFree rfl dX11_gap_17 ⟨by decide, by decide⟩ rfl rfl ⟨by decide, by decide⟩ hc_2 (by omega) rfl rfl (Nat.le_of_ble_eq_true rfl) (c_X11_isFree G ex n σ_1 (upd F 7 (nI (0))) g r1 hc_2 hc_4 (by omega) (by omega) (by omega)) ?_
    refine A_if_neB (tgt := 25) hg dX11_gap_20 (by decide) (fun c20 => ?_) (fun c20 => ?_)
    · skip
      refine A_aload_n hg dX11_gap_25 rfl rfl ?_
      refine A_iload_n hg dX11_gap_26 rfl rfl ?_
      refine A_vV (kc2 := 0) (ks2 := 0) (As := [.int (nI (r1))]) (rest := []) hg lk_RX11_143 in_X11_lays se_X11_lays rfl dX11_gap_27 ⟨by decide, by decide⟩ rfl rfl ⟨by decide, by decide⟩ hc_2 (by omega) rfl rfl (Nat.le_of_ble_eq_true rfl) (c_X11_lays G ex n σ_1 (upd F 7 (nI (0))) g r1 f nv ns mk va sp lo mc z hc_2 hc_4 hc_5 hc_6 hc_7 hc_8 hc_9 hc_10 hc_11 (by omega) (by omega) hw (by omega) hF12 hF16 hmk hTI hlo) ?_
      rintro σ_33 ⟨f', nv', ns', mk', va', sp', lo', mc', z', hTI2, hCU2, hkp2, hmc2, hmk2, hlo2, hc_24, hc_25, hc_26, hc_27, hc_28, hc_29, hc_30, hc_31, hf_32⟩
      have hc_24 : σ_33 279 = o11 G (upd (upd (upd F 7 (nI (0))) 12 (nI (mc'))) 16 (nI (z'))) := hc_24
      have hc_34 : σ_33 280 = q_an G 265 g := (hf_32 _ (by omega)).trans hc_4
      refine A_iconst (v := (nI (0))) hg dX11_gap_30 (by decide) ?_
      refine A_istore_n hg dX11_gap_31 rfl (by decide) (q_c1d rfl) ?_
      refine A_eq (ls2 := [some (.ref (q_h G + 279)), some (.int (nI (r1))), some (.int (nI (0))), none]) (st2 := []) (pc2 := 0) rfl rfl ?_
      refine A_iconst (v := (nI (0))) hg dX11_gap_32 (by decide) ?_
      refine A_istore_n hg dX11_gap_33 rfl (by decide) (q_c1d rfl) ?_
      refine A_eq (ls2 := [some (.ref (q_h G + 279)), some (.int (nI (r1))), some (.int (nI (0))), some (.int (nI (0)))]) (st2 := []) (pc2 := 0) rfl rfl ?_
      have hL34 : ∀ (fu : Nat) (p : Nat) (n1 : Nat), (p ≤ 1681) → (n1 = s_gpc (s_rule g r1) p) → (1681 - p) < fu → AJ G K Q 0 0 ex n 34 [some (.ref (q_h G + 279)), some (.int (nI (r1))), some (.int (nI (n1))), some (.int (nI (p)))] [] σ_33 := by
        intro fu
        induction fu with
        | zero => intro p n1 hp hn hm; exact absurd hm (Nat.not_lt_zero _)
        | succ fu ih34 =>
          intro p n1 hp hn hm34
          refine A_iload_n hg dX11_gap_34 rfl rfl ?_
          refine A_sipush (v := (nI (1681))) hg dX11_gap_35 (by decide) ?_
          refine A_icmp_geN (tgt := 97) hg dX11_gap_38 (by omega) (by decide) (by decide) (fun c38 => ?_) (fun c38 => ?_)
          · skip
            refine A_iload_n hg dX11_gap_97 rfl rfl ?_
            rw [hQ]
            exact A_ireturn hg (by decide) (by decide) rfl dX11_gap_98 ⟨rfl, Or.inr (Or.inr ((⟨r1, f', nv', ns', mk', va', sp', lo', mc', z', (by rw [hn, show p = 1681 by omega]), rfl, hrl, c20, hTI2, (by omega), hmk2, hlo2, hc_24, hc_25, hc_26, hc_27, hc_28, hc_29, hc_30, hc_31, (fun i hi => ((hf_32 i (by omega)).trans (hf_3 i (by omega))))⟩)))⟩
          · skip
            refine A_iload_n hg dX11_gap_41 rfl rfl ?_
            refine A_aload_n hg dX11_gap_42 rfl rfl ?_
            refine A_getf (v := .ref (q_h G + 289)) hg fl_RX11_38 dX11_gap_43 hc_24 (by omega) rfl ?_
            refine A_sipush (v := (nI (1681))) hg dX11_gap_46 (by decide) ?_
            refine A_iload_n hg dX11_gap_49 rfl rfl ?_
            refine A_imulN hg dX11_gap_50 ?_
            refine A_iload_n hg dX11_gap_51 rfl rfl ?_
            refine A_iaddN hg dX11_gap_52 ?_
            refine A_iald (j := ((1681 * r1) + p)) hg dX11_gap_53 hc_29 (by omega) (by omega) (by decide) ?_
            have hvp := (hCU2 p (by omega)).1
            have hvl := s_V_le (s_rule g r1) (p := p) (by omega)
            have hw18 := hw.2.2.1
            refine A_if_neN (tgt := 61) hg dX11_gap_54 (by omega) (by decide) (fun c54 => ?_) (fun c54 => ?_)
            · skip
              refine A_iconst (v := (nI (0))) hg dX11_gap_61 (by decide) ?_
              refine A_aload_n hg dX11_gap_62 rfl rfl ?_
              refine A_aload_n hg dX11_gap_63 rfl rfl ?_
              refine A_iload_n hg dX11_gap_64 rfl rfl ?_
              refine A_bipush (v := (nI (18))) hg dX11_gap_65 (by decide) ?_
              refine A_eV (kc2 := 0) (ks2 := 0) (As := [.int (nI (r1)), .int (nI (18))]) (rest := [.ref (q_h G + 279), .int (nI (0)), .int (nI (n1))]) hg lk_RX11_85 in_X11_of se_X11_of rfl dX11_gap_67 ⟨by decide, by decide⟩ rfl rfl ⟨by decide, by decide⟩ hc_24 (by omega) rfl rfl (Nat.le_of_ble_eq_true rfl) (c_X11_of G ex n σ_33 (upd (upd (upd F 7 (nI (0))) 12 (nI (mc'))) 16 (nI (z'))) g r1 18 hc_24 hc_34 (by omega) (by omega)) ?_
              refine A_iload_n hg dX11_gap_70 rfl rfl ?_
              refine A_bipush (v := (nI (41))) hg dX11_gap_71 (by decide) ?_
              refine A_idivN hg dX11_gap_73 (by omega) (by decide) (by decide) ?_
              refine A_iload_n hg dX11_gap_74 rfl rfl ?_
              refine A_bipush (v := (nI (41))) hg dX11_gap_75 (by decide) ?_
              refine A_iremN hg dX11_gap_77 (by omega) (by decide) (by decide) ?_
              refine A_eV (kc2 := 0) (ks2 := 0) (As := [.int (nI (s_rule g r1 18)), .int (nI (p / 41)), .int (nI (p % 41))]) (rest := [.int (nI (0)), .int (nI (n1))]) hg lk_RX11_445 in_X11_isGolden se_X11_isGolden rfl dX11_gap_78 ⟨by decide, by decide⟩ rfl rfl ⟨by decide, by decide⟩ hc_24 (by omega) rfl rfl (Nat.le_of_ble_eq_true rfl) (c_X11_isGolden G ex n σ_33 (upd (upd (upd F 7 (nI (0))) 12 (nI (mc'))) 16 (nI (z'))) (s_rule g r1 18) (p / 41) (p % 41) hc_24 (by omega) (by omega) (by omega) (by omega)) ?_
              refine A_top (w := .int (nI (if s_isG (s_rule g r1 18) (p / 41) (p % 41) = true then 1 else 0))) (congrArg Value.int (q_bN _)) ?_
              refine A_icmp_neN (tgt := 88) hg dX11_gap_81 (by decide) (by first | decide | (split <;> decide)) (by decide) (fun c81 => ?_) (fun c81 => ?_)
              · skip
                refine A_iconst (v := (nI (1))) hg dX11_gap_88 (by decide) ?_
                refine A_iaddN hg dX11_gap_89 ?_
                refine A_istore_n hg dX11_gap_90 rfl (by decide) (q_c1d rfl) ?_
                refine A_eq (ls2 := [some (.ref (q_h G + 279)), some (.int (nI (r1))), some (.int (nI (n1 + 1))), some (.int (nI (p)))]) (st2 := []) (pc2 := 0) rfl rfl ?_
                refine A_iincN (k' := 1) hg dX11_gap_91 (by decide) rfl (by decide) (q_c1d rfl) ?_
                refine A_eq (ls2 := [some (.ref (q_h G + 279)), some (.int (nI (r1))), some (.int (nI (n1 + 1))), some (.int (nI (p + 1)))]) (st2 := []) (pc2 := 0) rfl rfl ?_
                refine A_goto (tgt := 34) hg dX11_gap_94 (by decide) ?_
                exact ih34 (p + 1) (n1 + 1) (by omega) (by first | (rw [s_gpc_t1 (hvp.symm.trans c54) (q_1f c81), hn]; done) | (rw [s_gpc_t2 (fun e => c54 (hvp.trans e)) (q_0f c81), hn]; done) | (rw [s_gpc_f1 (hvp.symm.trans c54) (q_1t c81)]; exact hn) | (rw [s_gpc_f2 (fun e => c54 (hvp.trans e)) (q_0t c81)]; exact hn)) (by omega)
              · skip
                refine A_iconst (v := (nI (0))) hg dX11_gap_84 (by decide) ?_
                refine A_goto (tgt := 89) hg dX11_gap_85 (by decide) ?_
                refine A_iaddN hg dX11_gap_89 ?_
                refine A_istore_n hg dX11_gap_90 rfl (by decide) (q_c1d rfl) ?_
                refine A_eq (ls2 := [some (.ref (q_h G + 279)), some (.int (nI (r1))), some (.int (nI (n1 + 0))), some (.int (nI (p)))]) (st2 := []) (pc2 := 0) rfl rfl ?_
                refine A_iincN (k' := 1) hg dX11_gap_91 (by decide) rfl (by decide) (q_c1d rfl) ?_
                refine A_eq (ls2 := [some (.ref (q_h G + 279)), some (.int (nI (r1))), some (.int (nI (n1 + 0))), some (.int (nI (p + 1)))]) (st2 := []) (pc2 := 0) rfl rfl ?_
                refine A_goto (tgt := 34) hg dX11_gap_94 (by decide) ?_
                exact ih34 (p + 1) (n1 + 0) (by omega) (by first | (rw [s_gpc_t1 (hvp.symm.trans c54) (q_1f c81), hn]; done) | (rw [s_gpc_t2 (fun e => c54 (hvp.trans e)) (q_0f c81), hn]; done) | (rw [s_gpc_f1 (hvp.symm.trans c54) (q_1t c81)]; exact hn) | (rw [s_gpc_f2 (fun e => c54 (hvp.trans e)) (q_0t c81)]; exact hn)) (by omega)
            · skip
              refine A_iconst (v := (nI (1))) hg dX11_gap_57 (by decide) ?_
              refine A_goto (tgt := 62) hg dX11_gap_58 (by decide) ?_
              refine A_aload_n hg dX11_gap_62 rfl rfl ?_
              refine A_aload_n hg dX11_gap_63 rfl rfl ?_
              refine A_iload_n hg dX11_gap_64 rfl rfl ?_
              refine A_bipush (v := (nI (18))) hg dX11_gap_65 (by decide) ?_
              refine A_eV (kc2 := 0) (ks2 := 0) (As := [.int (nI (r1)), .int (nI (18))]) (rest := [.ref (q_h G + 279), .int (nI (1)), .int (nI (n1))]) hg lk_RX11_85 in_X11_of se_X11_of rfl dX11_gap_67 ⟨by decide, by decide⟩ rfl rfl ⟨by decide, by decide⟩ hc_24 (by omega) rfl rfl (Nat.le_of_ble_eq_true rfl) (c_X11_of G ex n σ_33 (upd (upd (upd F 7 (nI (0))) 12 (nI (mc'))) 16 (nI (z'))) g r1 18 hc_24 hc_34 (by omega) (by omega)) ?_
              refine A_iload_n hg dX11_gap_70 rfl rfl ?_
              refine A_bipush (v := (nI (41))) hg dX11_gap_71 (by decide) ?_
              refine A_idivN hg dX11_gap_73 (by omega) (by decide) (by decide) ?_
              refine A_iload_n hg dX11_gap_74 rfl rfl ?_
              refine A_bipush (v := (nI (41))) hg dX11_gap_75 (by decide) ?_
              refine A_iremN hg dX11_gap_77 (by omega) (by decide) (by decide) ?_
              refine A_eV (kc2 := 0) (ks2 := 0) (As := [.int (nI (s_rule g r1 18)), .int (nI (p / 41)), .int (nI (p % 41))]) (rest := [.int (nI (1)), .int (nI (n1))]) hg lk_RX11_445 in_X11_isGolden se_X11_isGolden rfl dX11_gap_78 ⟨by decide, by decide⟩ rfl rfl ⟨by decide, by decide⟩ hc_24 (by omega) rfl rfl (Nat.le_of_ble_eq_true rfl) (c_X11_isGolden G ex n σ_33 (upd (upd (upd F 7 (nI (0))) 12 (nI (mc'))) 16 (nI (z'))) (s_rule g r1 18) (p / 41) (p % 41) hc_24 (by omega) (by omega) (by omega) (by omega)) ?_
              refine A_top (w := .int (nI (if s_isG (s_rule g r1 18) (p / 41) (p % 41) = true then 1 else 0))) (congrArg Value.int (q_bN _)) ?_
              refine A_icmp_neN (tgt := 88) hg dX11_gap_81 (by decide) (by first | decide | (split <;> decide)) (by decide) (fun c81 => ?_) (fun c81 => ?_)
              · skip
                refine A_iconst (v := (nI (1))) hg dX11_gap_88 (by decide) ?_
                refine A_iaddN hg dX11_gap_89 ?_
                refine A_istore_n hg dX11_gap_90 rfl (by decide) (q_c1d rfl) ?_
                refine A_eq (ls2 := [some (.ref (q_h G + 279)), some (.int (nI (r1))), some (.int (nI (n1 + 1))), some (.int (nI (p)))]) (st2 := []) (pc2 := 0) rfl rfl ?_
                refine A_iincN (k' := 1) hg dX11_gap_91 (by decide) rfl (by decide) (q_c1d rfl) ?_
                refine A_eq (ls2 := [some (.ref (q_h G + 279)), some (.int (nI (r1))), some (.int (nI (n1 + 1))), some (.int (nI (p + 1)))]) (st2 := []) (pc2 := 0) rfl rfl ?_
                refine A_goto (tgt := 34) hg dX11_gap_94 (by decide) ?_
                exact ih34 (p + 1) (n1 + 1) (by omega) (by first | (rw [s_gpc_t1 (hvp.symm.trans c54) (q_1f c81), hn]; done) | (rw [s_gpc_t2 (fun e => c54 (hvp.trans e)) (q_0f c81), hn]; done) | (rw [s_gpc_f1 (hvp.symm.trans c54) (q_1t c81)]; exact hn) | (rw [s_gpc_f2 (fun e => c54 (hvp.trans e)) (q_0t c81)]; exact hn)) (by omega)
              · skip
                refine A_iconst (v := (nI (0))) hg dX11_gap_84 (by decide) ?_
                refine A_goto (tgt := 89) hg dX11_gap_85 (by decide) ?_
                refine A_iaddN hg dX11_gap_89 ?_
                refine A_istore_n hg dX11_gap_90 rfl (by decide) (q_c1d rfl) ?_
                refine A_eq (ls2 := [some (.ref (q_h G + 279)), some (.int (nI (r1))), some (.int (nI (n1 + 0))), some (.int (nI (p)))]) (st2 := []) (pc2 := 0) rfl rfl ?_
                refine A_iincN (k' := 1) hg dX11_gap_91 (by decide) rfl (by decide) (q_c1d rfl) ?_
                refine A_eq (ls2 := [some (.ref (q_h G + 279)), some (.int (nI (r1))), some (.int (nI (n1 + 0))), some (.int (nI (p + 1)))]) (st2 := []) (pc2 := 0) rfl rfl ?_
                refine A_goto (tgt := 34) hg dX11_gap_94 (by decide) ?_
                exact ih34 (p + 1) (n1 + 0) (by omega) (by first | (rw [s_gpc_t1 (hvp.symm.trans c54) (q_1f c81), hn]; done) | (rw [s_gpc_t2 (fun e => c54 (hvp.trans e)) (q_0f c81), hn]; done) | (rw [s_gpc_f1 (hvp.symm.trans c54) (q_1t c81)]; exact hn) | (rw [s_gpc_f2 (fun e => c54 (hvp.trans e)) (q_0t c81)]; exact hn)) (by omega)
      exact hL34 _ 0 0 (by omega) ((s_gpc_0 _).symm) (Nat.lt_succ_self _)
    · skip
      refine A_iconst (v := (q_d (0))) hg dX11_gap_23 (by decide) ?_
      rw [hQ]
      exact A_ireturn hg (by decide) (by decide) rfl dX11_gap_24 ⟨rfl, Or.inr (Or.inl (⟨r1, rfl, (by first | rfl | assumption | omega), (by first | rfl | assumption | omega), c20, hc_2, (fun i hi => (hf_3 i (by omega)))⟩))⟩
end
