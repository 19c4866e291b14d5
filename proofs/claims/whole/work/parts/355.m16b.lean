section
set_option maxRecDepth 100000 in
set_option maxHeartbeats 4000000 in
theorem c_X11_losing (G : GL) (ex : Bool) (n : Nat) (σ : Nat → va_E) (F : Nat → Int32) (g : Nat → Nat) (f : Nat → Nat) (nv : Nat → Nat) (ns : Nat → Nat) (mk : Nat → Nat) (va : Nat → Nat) (sp : Nat → Nat) (lo : Nat → Nat) (mc : Nat) (z : Nat) (r : Int32) (x : Int32) (s : Bool) (hc0 : σ 279 = o11 G F) (hc1 : σ 280 = q_an G 265 g) (hc2 : σ 285 = q_bn G 1681 f) (hc3 : σ 286 = q_an G 1681 nv) (hc4 : σ 287 = q_an G 1681 ns) (hc5 : σ 288 = q_an G 2000 mk) (hc6 : σ 289 = q_an G 6724 va) (hc7 : σ 290 = q_an G 6724 sp) (hc8 : σ 291 = q_an G 80 lo) (hn : 294 ≤ n) (hg9 : s_gwf g) (hmc : mc + 6724 < 2 ^ 31) (hF12 : F 12 = nI mc) (hF16 : F 16 = nI z) (hmk : ∀ v : Nat, v < 2000 → mk v ≤ mc) (hTI : s_TI z lo va sp) (hlo : ∀ j : Nat, j < 80 → lo j < 2 ^ 31) : Ct G yX11_losing cX11_losing 6 (some .int) ⟨6, 0, 0, 137⟩ [.ref (q_h G + 279), .int (r), .int (x), .int (q_b (s))] ex n σ (fun v9 σ2 => (v9 = some (.int (nI (0))) ∧ (∀ j : Nat, j < g 0 → r = nI j → False) ∧ σ2 279 = o11 G (upd F 7 (nI (1))) ∧ (∀ i : Nat, i ≠ 279 → σ2 i = σ i)) ∨ (∃ (r1 : Nat), ∃ (i1 : Nat), ∃ (f' : Nat → Nat), ∃ (nv' : Nat → Nat), ∃ (ns' : Nat → Nat), ∃ (mk' : Nat → Nat), ∃ (va' : Nat → Nat), ∃ (sp' : Nat → Nat), ∃ (lo' : Nat → Nat), ∃ (mc' : Nat), ∃ (z' : Nat), v9 = some (.int (nI (if s = true then s_lzn (s_rule g r1) i1 % 41 else s_lzn (s_rule g r1) i1 / 41))) ∧ (r = nI r1) ∧ (r1 < g 0) ∧ (x = nI i1) ∧ (i1 < s_lzc (s_rule g r1) 1681) ∧ (s_TI z' lo' va' sp') ∧ (mc' ≤ mc + 6724) ∧ (∀ v : Nat, v < 2000 → mk' v ≤ mc') ∧ (∀ j : Nat, j < 80 → lo' j < 2 ^ 31) ∧ σ2 279 = o11 G (upd (upd (upd F 7 (nI (0))) 12 (nI (mc'))) 16 (nI (z'))) ∧ σ2 285 = q_bn G 1681 f' ∧ σ2 286 = q_an G 1681 nv' ∧ σ2 287 = q_an G 1681 ns' ∧ σ2 288 = q_an G 2000 mk' ∧ σ2 289 = q_an G 6724 va' ∧ σ2 290 = q_an G 6724 sp' ∧ σ2 291 = q_an G 80 lo' ∧ (∀ i : Nat, i ≠ 279 ∧ (i < 285 ∨ 291 < i) → σ2 i = σ i)) ∨ (∃ (r1 : Nat), ∃ (f' : Nat → Nat), ∃ (nv' : Nat → Nat), ∃ (ns' : Nat → Nat), ∃ (mk' : Nat → Nat), ∃ (va' : Nat → Nat), ∃ (sp' : Nat → Nat), ∃ (lo' : Nat → Nat), ∃ (mc' : Nat), ∃ (z' : Nat), v9 = some (.int (q_d (0))) ∧ (r = nI r1) ∧ (r1 < g 0) ∧ (∀ j : Nat, j < s_lzc (s_rule g r1) 1681 → x = nI j → False) ∧ (s_TI z' lo' va' sp') ∧ (mc' ≤ mc + 6724) ∧ (∀ v : Nat, v < 2000 → mk' v ≤ mc') ∧ (∀ j : Nat, j < 80 → lo' j < 2 ^ 31) ∧ σ2 279 = o11 G (upd (upd (upd F 7 (nI (0))) 12 (nI (mc'))) 16 (nI (z'))) ∧ σ2 285 = q_bn G 1681 f' ∧ σ2 286 = q_an G 1681 nv' ∧ σ2 287 = q_an G 1681 ns' ∧ σ2 288 = q_an G 2000 mk' ∧ σ2 289 = q_an G 6724 va' ∧ σ2 290 = q_an G 6724 sp' ∧ σ2 291 = q_an G 80 lo' ∧ (∀ i : Nat, i ≠ 279 ∧ (i < 285 ∨ 291 < i) → σ2 i = σ i))) := by
  refine q_enter [some (.ref (q_h G + 279)), some (.int (r)), some (.int (x)), some (.int (q_b (s))), none, none] (by decide) (Nat.le_of_ble_eq_true rfl) rfl ?_
  intro K hg
  obtain ⟨Q, hQ⟩ : ∃ Q, Q = q_Q G K ex n 0 0 (fun v9 n' σ' => n' = n ∧ (fun v9 σ2 => (v9 = some (.int (nI (0))) ∧ (∀ j : Nat, j < g 0 → r = nI j → False) ∧ σ2 279 = o11 G (upd F 7 (nI (1))) ∧ (∀ i : Nat, i ≠ 279 → σ2 i = σ i)) ∨ (∃ (r1 : Nat), ∃ (i1 : Nat), ∃ (f' : Nat → Nat), ∃ (nv' : Nat → Nat), ∃ (ns' : Nat → Nat), ∃ (mk' : Nat → Nat), ∃ (va' : Nat → Nat), ∃ (sp' : Nat → Nat), ∃ (lo' : Nat → Nat), ∃ (mc' : Nat), ∃ (z' : Nat), v9 = some (.int (nI (if s = true then s_lzn (s_rule g r1) i1 % 41 else s_lzn (s_rule g r1) i1 / 41))) ∧ (r = nI r1) ∧ (r1 < g 0) ∧ (x = nI i1) ∧ (i1 < s_lzc (s_rule g r1) 1681) ∧ (s_TI z' lo' va' sp') ∧ (mc' ≤ mc + 6724) ∧ (∀ v : Nat, v < 2000 → mk' v ≤ mc') ∧ (∀ j : Nat, j < 80 → lo' j < 2 ^ 31) ∧ σ2 279 = o11 G (upd (upd (upd F 7 (nI (0))) 12 (nI (mc'))) 16 (nI (z'))) ∧ σ2 285 = q_bn G 1681 f' ∧ σ2 286 = q_an G 1681 nv' ∧ σ2 287 = q_an G 1681 ns' ∧ σ2 288 = q_an G 2000 mk' ∧ σ2 289 = q_an G 6724 va' ∧ σ2 290 = q_an G 6724 sp' ∧ σ2 291 = q_an G 80 lo' ∧ (∀ i : Nat, i ≠ 279 ∧ (i < 285 ∨ 291 < i) → σ2 i = σ i)) ∨ (∃ (r1 : Nat), ∃ (f' : Nat → Nat), ∃ (nv' : Nat → Nat), ∃ (ns' : Nat → Nat), ∃ (mk' : Nat → Nat), ∃ (va' : Nat → Nat), ∃ (sp' : Nat → Nat), ∃ (lo' : Nat → Nat), ∃ (mc' : Nat), ∃ (z' : Nat), v9 = some (.int (q_d (0))) ∧ (r = nI r1) ∧ (r1 < g 0) ∧ (∀ j : Nat, j < s_lzc (s_rule g r1) 1681 → x = nI j → False) ∧ (s_TI z' lo' va' sp') ∧ (mc' ≤ mc + 6724) ∧ (∀ v : Nat, v < 2000 → mk' v ≤ mc') ∧ (∀ j : Nat, j < 80 → lo' j < 2 ^ 31) ∧ σ2 279 = o11 G (upd (upd (upd F 7 (nI (0))) 12 (nI (mc'))) 16 (nI (z'))) ∧ σ2 285 = q_bn G 1681 f' ∧ σ2 286 = q_an G 1681 nv' ∧ σ2 287 = q_an G 1681 ns' ∧ σ2 288 = q_an G 2000 mk' ∧ σ2 289 = q_an G 6724 va' ∧ σ2 290 = q_an G 6724 sp' ∧ σ2 291 = q_an G 80 lo' ∧ (∀ i : Nat, i ≠ 279 ∧ (i < 285 ∨ 291 < i) → σ2 i = σ i))) v9 σ') q_noX := ⟨_, rfl⟩
  refine (?_ : AJ G K (q_Q G K ex n 0 0 _ _) 0 0 ex n 0 _ _ σ)
  rw [← hQ]
  have hnr : g 0 ≤ 4 := hg9.1
  refine A_aload_n hg dX11_losing_0 rfl rfl ?_
  refine A_iconst (v := (nI (0))) hg dX11_losing_1 (by decide) ?_
  refine A_putf hg fl_RX11_67 dX11_losing_2 hc0 (by omega) (Nat.le_of_ble_eq_true rfl) rfl rfl rfl (fun σ_1 hc_2 hf_3 => ?_)
  have hc_2 : σ_1 279 = o11 G (upd F 7 (nI (0))) := hc_2
  have hc_4 : σ_1 280 = q_an G 265 g := (hf_3 _ (by omega)).trans hc1
  have hc_5 : σ_1 285 = q_bn G 1681 f := (hf_3 _ (by omega)).trans hc2
  have hc_6 : σ_1 286 = q_an G 1681 nv := (hf_3 _ (by omega)).trans hc3
  have hc_7 : σ_1 287 = q_an G 1681 ns := (hf_3 _ (by omega)).trans hc4
  have hc_8 : σ_1 288 = q_an G 2000 mk := (hf_3 _ (by omega)).trans hc5
  have hc_9 : σ_1 289 = q_an G 6724 va := (hf_3 _ (by omega)).trans hc6
  have hc_10 : σ_1 290 = q_an G 6724 sp := (hf_3 _ (by omega)).trans hc7
  have hc_11 : σ_1 291 = q_an G 80 lo := (hf_3 _ (by omega)).trans hc8
  refine A_aload_n hg dX11_losing_5 rfl rfl ?_
  refine A_iload_n hg dX11_losing_6 rfl rfl ?_
  refine A_hV (kc2 := 0) (ks2 := 0) (As := [.int (r)]) (rest := []) hg lk_RX11_402 in_X11_noRule se_X11_noRule rfl dX11_losing_7 ⟨by decide, by decide⟩ rfl rfl ⟨by decide, by decide⟩ hc_2 (by omega) rfl rfl (Nat.le_of_ble_eq_true rfl) (c_X11_noRule G ex n σ_1 (upd F 7 (nI (0))) g r hc_2 hc_4 (by omega) (by omega)) ?_
  rintro _ σ_15 (⟨rfl, hno, hc_12, hf_13⟩ | ⟨r1, rfl, hre, hrl, he_14⟩)
  · skip
    refine (?_ : AJ G K Q 0 0 ex n 10 [some (.ref (q_h G + 279)), some (.int (r)), some (.int (x)), some (.int (q_b (s))), none, none] [.int (nI (1))] σ_15)
    have hc_12 : σ_15 279 = o11 G (upd F 7 (nI (1))) := hc_12
    have hc_16 : σ_15 280 = q_an G 265 g := (hf_13 _ (by omega)).trans hc_4
    have hc_17 : σ_15 285 = q_bn G 1681 f := (hf_13 _ (by omega)).trans hc_5
    have hc_18 : σ_15 286 = q_an G 1681 nv := (hf_13 _ (by omega)).trans hc_6
    have hc_19 : σ_15 287 = q_an G 1681 ns := (hf_13 _ (by omega)).trans hc_7
    have hc_20 : σ_15 288 = q_an G 2000 mk := (hf_13 _ (by omega)).trans hc_8
    have hc_21 : σ_15 289 = q_an G 6724 va := (hf_13 _ (by omega)).trans hc_9
    have hc_22 : σ_15 290 = q_an G 6724 sp := (hf_13 _ (by omega)).trans hc_10
    have hc_23 : σ_15 291 = q_an G 80 lo := (hf_13 _ (by omega)).trans hc_11
    refine A_if_eqN (tgt := 15) hg dX11_losing_10 (by decide) (by decide) (fun c10 => absurd c10 (by decide)) (fun c10 => ?_)
    refine A_iconst (v := (nI (0))) hg dX11_losing_13 (by decide) ?_
    rw [hQ]
    exact A_ireturn hg (by decide) (by decide) rfl dX11_losing_14 ⟨rfl, Or.inl (⟨rfl, (by first | rfl | assumption | omega), hc_12, (fun i hi => ((hf_13 i (by omega)).trans (hf_3 i (by omega))))⟩)⟩
  · skip
    rw [he_14]
    refine (?_ : AJ G K Q 0 0 ex n 10 [some (.ref (q_h G + 279)), some (.int (r)), some (.int (x)), some (.int (q_b (s))), none, none] [.int (nI (0))] σ_1)
    refine A_if_eqN (tgt := 15) hg dX11_losing_10 (by decide) (by decide) (fun c10 => ?_) (fun c10 => absurd (by decide) c10)
    subst hre
    have hw := hg9.2.2.2.2.2.1 r1 hrl
    have hu0 := hw.1
    have hu9 := hw.2.1
    have hu18 := hw.2.2.1
    have hu19 := hw.2.2.2.1
    have hu20 := hw.2.2.2.2.1
    refine A_aload_n hg dX11_losing_15 rfl rfl ?_
    refine A_iload_n hg dX11_losing_16 rfl rfl ?_
    refine A_vV (kc2 := 0) (ks2 := 0) (As := [.int (nI (r1))]) (rest := []) hg lk_RX11_143 in_X11_lays se_X11_lays rfl dX11_losing_17 ⟨by decide, by decide⟩ rfl rfl ⟨by decide, by decide⟩ hc_2 (by omega) rfl rfl (Nat.le_of_ble_eq_true rfl) (c_X11_lays G ex n σ_1 (upd F 7 (nI (0))) g r1 f nv ns mk va sp lo mc z hc_2 hc_4 hc_5 hc_6 hc_7 hc_8 hc_9 hc_10 hc_11 (by omega) (by omega) hw (by omega) hF12 hF16 hmk hTI hlo) ?_
    rintro σ_33 ⟨f', nv', ns', mk', va', sp', lo', mc', z', hTI2, hCU2, hkp2, hmc2, hmk2, hlo2, hc_24, hc_25, hc_26, hc_27, hc_28, hc_29, hc_30, hc_31, hf_32⟩
    have hc_24 : σ_33 279 = o11 G (upd (upd (upd F 7 (nI (0))) 12 (nI (mc'))) 16 (nI (z'))) := hc_24
    have hc_34 : σ_33 280 = q_an G 265 g := (hf_32 _ (by omega)).trans hc_4
    refine A_iload_n hg dX11_losing_20 rfl rfl ?_
    refine A_istore hg dX11_losing_21 (by decide) (q_c1d rfl) ?_
    refine A_eq (ls2 := [some (.ref (q_h G + 279)), some (.int (nI (r1))), some (.int (x)), some (.int (q_b (s))), some (.int (x)), none]) (st2 := []) (pc2 := 0) rfl rfl ?_
    refine A_iconst (v := (nI (0))) hg dX11_losing_23 (by decide) ?_
    refine A_istore hg dX11_losing_24 (by decide) (q_c1d rfl) ?_
    refine A_eq (ls2 := [some (.ref (q_h G + 279)), some (.int (nI (r1))), some (.int (x)), some (.int (q_b (s))), some (.int (x)), some (.int (nI (0)))]) (st2 := []) (pc2 := 0) rfl rfl ?_
    have hL26 : ∀ (fu : Nat) (p : Nat) (lf : Int32), (p ≤ 1681) → ((x < 0 ∧ lf = x) ∨ ∃ i : Nat, i < 2 ^ 31 ∧ x = nI i ∧ s_lzc (s_rule g r1) p ≤ i ∧ lf = nI (i - s_lzc (s_rule g r1) p)) → (1681 - p) < fu → AJ G K Q 0 0 ex n 26 [some (.ref (q_h G + 279)), some (.int (nI (r1))), some (.int (x)), some (.int (q_b (s))), some (.int (lf)), some (.int (nI (p)))] [] σ_33 := by
      intro fu
      induction fu with
      | zero => intro p lf hp hA hm; exact absurd hm (Nat.not_lt_zero _)
      | succ fu ih26 =>
        intro p lf hp hA hm26
        refine A_iload hg dX11_losing_26 rfl ?_
        refine A_sipush (v := (nI (1681))) hg dX11_losing_28 (by decide) ?_
        refine A_icmp_geN (tgt := 90) hg dX11_losing_31 (by omega) (by decide) (by decide) (fun c31 => ?_) (fun c31 => ?_)
        · skip
          refine A_iconst (v := (q_d (0))) hg dX11_losing_90 (by decide) ?_
          rw [hQ]
          exact A_ireturn hg (by decide) (by decide) rfl dX11_losing_91 ⟨rfl, Or.inr (Or.inr ((⟨r1, f', nv', ns', mk', va', sp', lo', mc', z', rfl, (by first | rfl | assumption | omega), (by first | rfl | assumption | omega), (q_lzend (C := s_lzc (s_rule g r1)) (s_lzc_le _ _) hp (by first | exact Or.inr c36 | exact Or.inl (by omega)) hA), hTI2, (by omega), hmk2, hlo2, hc_24, hc_25, hc_26, hc_27, hc_28, hc_29, hc_30, hc_31, (fun i hi => ((hf_32 i (by omega)).trans (hf_3 i (by omega))))⟩)))⟩
        · skip
          refine A_iload hg dX11_losing_34 rfl ?_
          refine A_if_lt (tgt := 90) hg dX11_losing_36 (by decide) (fun c36 => ?_) (fun c36 => ?_)
          · skip
            refine A_iconst (v := (q_d (0))) hg dX11_losing_90 (by decide) ?_
            rw [hQ]
            exact A_ireturn hg (by decide) (by decide) rfl dX11_losing_91 ⟨rfl, Or.inr (Or.inr ((⟨r1, f', nv', ns', mk', va', sp', lo', mc', z', rfl, (by first | rfl | assumption | omega), (by first | rfl | assumption | omega), (q_lzend (C := s_lzc (s_rule g r1)) (s_lzc_le _ _) hp (by first | exact Or.inr c36 | exact Or.inl (by omega)) hA), hTI2, (by omega), hmk2, hlo2, hc_24, hc_25, hc_26, hc_27, hc_28, hc_29, hc_30, hc_31, (fun i hi => ((hf_32 i (by omega)).trans (hf_3 i (by omega))))⟩)))⟩
          · skip
            rcases hA with ⟨hx0, hlf⟩ | ⟨i1, hi1, hxe, hci, hlf⟩
            · exact absurd (by rw [hlf]; exact hx0) c36
            subst hxe
            subst hlf
            have hvp := (hCU2 p (by omega)).1
            have hvl := s_V_le (s_rule g r1) (p := p) (by omega)
            refine A_aload_n hg dX11_losing_39 rfl rfl ?_
            refine A_getf (v := .ref (q_h G + 289)) hg fl_RX11_38 dX11_losing_40 hc_24 (by omega) rfl ?_
            refine A_sipush (v := (nI (1681))) hg dX11_losing_43 (by decide) ?_
            refine A_iload_n hg dX11_losing_46 rfl rfl ?_
            refine A_imulN hg dX11_losing_47 ?_
            refine A_iload hg dX11_losing_48 rfl ?_
            refine A_iaddN hg dX11_losing_50 ?_
            refine A_iald (j := ((1681 * r1) + p)) hg dX11_losing_51 hc_29 (by omega) (by omega) (by decide) ?_
            refine A_if_eqN (tgt := 58) hg dX11_losing_52 (by omega) (by decide) (fun c52 => ?_) (fun c52 => ?_)
            · skip
              refine A_iload hg dX11_losing_58 rfl ?_
              refine A_if_neN (tgt := 81) hg dX11_losing_60 (by omega) (by decide) (fun c60 => ?_) (fun c60 => ?_)
              · skip
                refine A_iincD hg dX11_losing_81 (by decide) rfl (by omega) (by decide) (q_c1d rfl) ?_
                refine A_eq (ls2 := [some (.ref (q_h G + 279)), some (.int (nI (r1))), some (.int (nI (i1))), some (.int (q_b (s))), some (.int (nI ((i1 - s_lzc (s_rule g r1) p) - 1))), some (.int (nI (p)))]) (st2 := []) (pc2 := 0) rfl rfl ?_
                refine A_iincN (k' := 1) hg dX11_losing_84 (by decide) rfl (by decide) (q_c1d rfl) ?_
                refine A_eq (ls2 := [some (.ref (q_h G + 279)), some (.int (nI (r1))), some (.int (nI (i1))), some (.int (q_b (s))), some (.int (nI ((i1 - s_lzc (s_rule g r1) p) - 1))), some (.int (nI (p + 1)))]) (st2 := []) (pc2 := 0) rfl rfl ?_
                refine A_goto (tgt := 26) hg dX11_losing_87 (by decide) ?_
                have hst := s_lzc_t (hvp.symm.trans c52)
                exact ih26 (p + 1) (nI ((i1 - s_lzc (s_rule g r1) p) - 1)) (by omega) (Or.inr ⟨i1, hi1, rfl, by omega, congrArg nI (by omega)⟩) (by omega)
              · skip
                refine A_iload_n hg dX11_losing_63 rfl rfl ?_
                refine A_if_eqB (tgt := 75) hg dX11_losing_64 (by decide) (fun c64 => ?_) (fun c64 => ?_)
                · skip
                  refine A_iload hg dX11_losing_75 rfl ?_
                  refine A_bipush (v := (nI (41))) hg dX11_losing_77 (by decide) ?_
                  refine A_idivN hg dX11_losing_79 (by omega) (by decide) (by decide) ?_
                  rw [hQ]
                  exact A_ireturn hg (by decide) (by decide) rfl dX11_losing_80 ⟨rfl, Or.inr (Or.inl (⟨r1, i1, f', nv', ns', mk', va', sp', lo', mc', z', (q_lznv (by first | exact Or.inl ⟨c64, rfl⟩ | exact Or.inr ⟨c64, rfl⟩) (q_lzn1 (by omega) (hvp.symm.trans c52) hci c60)), rfl, hrl, rfl, (q_lzn2 (by omega) (hvp.symm.trans c52) hci c60), hTI2, (by omega), hmk2, hlo2, hc_24, hc_25, hc_26, hc_27, hc_28, hc_29, hc_30, hc_31, (fun i hi => ((hf_32 i (by omega)).trans (hf_3 i (by omega))))⟩))⟩
                · skip
                  refine A_iload hg dX11_losing_67 rfl ?_
                  refine A_bipush (v := (nI (41))) hg dX11_losing_69 (by decide) ?_
                  refine A_iremN hg dX11_losing_71 (by omega) (by decide) (by decide) ?_
                  refine A_goto (tgt := 80) hg dX11_losing_72 (by decide) ?_
                  rw [hQ]
                  exact A_ireturn hg (by decide) (by decide) rfl dX11_losing_80 ⟨rfl, Or.inr (Or.inl (⟨r1, i1, f', nv', ns', mk', va', sp', lo', mc', z', (q_lznv (by first | exact Or.inl ⟨c64, rfl⟩ | exact Or.inr ⟨c64, rfl⟩) (q_lzn1 (by omega) (hvp.symm.trans c52) hci c60)), rfl, hrl, rfl, (q_lzn2 (by omega) (hvp.symm.trans c52) hci c60), hTI2, (by omega), hmk2, hlo2, hc_24, hc_25, hc_26, hc_27, hc_28, hc_29, hc_30, hc_31, (fun i hi => ((hf_32 i (by omega)).trans (hf_3 i (by omega))))⟩))⟩
            · skip
              refine A_goto (tgt := 84) hg dX11_losing_55 (by decide) ?_
              refine A_iincN (k' := 1) hg dX11_losing_84 (by decide) rfl (by decide) (q_c1d rfl) ?_
              refine A_eq (ls2 := [some (.ref (q_h G + 279)), some (.int (nI (r1))), some (.int (nI (i1))), some (.int (q_b (s))), some (.int (nI (i1 - s_lzc (s_rule g r1) p))), some (.int (nI (p + 1)))]) (st2 := []) (pc2 := 0) rfl rfl ?_
              refine A_goto (tgt := 26) hg dX11_losing_87 (by decide) ?_
              have hst := s_lzc_f (fun e => c52 (hvp.trans e))
              exact ih26 (p + 1) (nI (i1 - s_lzc (s_rule g r1) p)) (by omega) (Or.inr ⟨i1, hi1, rfl, by omega, congrArg nI (by omega)⟩) (by omega)
    exact hL26 _ 0 x (by omega) (by by_cases h : x < 0; exact Or.inl ⟨h, rfl⟩; obtain ⟨i, h1, h2⟩ := nI_of h; rw [s_lzc_0]; exact Or.inr ⟨i, h1, h2, Nat.zero_le i, h2⟩) (Nat.lt_succ_self _)
end
