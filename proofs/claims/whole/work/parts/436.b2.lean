section
set_option maxRecDepth 100000 in
set_option maxHeartbeats 4000000 in
theorem c_X11_again (G : GL) (ex : Bool) (n : Nat) (σ : Nat → va_E) (F : Nat → Int32) (g : Nat → Nat) (f : Nat → Nat) (nv : Nat → Nat) (ns : Nat → Nat) (mk : Nat → Nat) (va : Nat → Nat) (sp : Nat → Nat) (lo : Nat → Nat) (mc : Nat) (z : Nat) (a : Nat → Nat) (m : Nat) (p : Int32) (hc0 : σ 279 = o11 G F) (hc1 : σ 280 = q_an G 265 g) (hc2 : σ 284 = q_an G 2120 a) (hc3 : σ 285 = q_bn G 1681 f) (hc4 : σ 286 = q_an G 1681 nv) (hc5 : σ 287 = q_an G 1681 ns) (hc6 : σ 288 = q_an G 2000 mk) (hc7 : σ 289 = q_an G 6724 va) (hc8 : σ 290 = q_an G 6724 sp) (hc9 : σ 291 = q_an G 80 lo) (hn : 294 ≤ n) (hg9 : s_gwf g) (hmc : mc + 6724 < 2 ^ 31) (hF12 : F 12 = nI mc) (hF16 : F 16 = nI z) (hmk : ∀ v : Nat, v < 2000 → mk v ≤ mc) (hTI : s_TI z lo va sp) (hlo : ∀ j : Nat, j < 80 → lo j < 2 ^ 31) (hF5 : F 5 = nI m) (hm8 : m ≤ 8) : Ct G yX11_again cX11_again 3 (some .int) ⟨7, 0, 0, 158⟩ [.ref (q_h G + 279), .int (p)] ex n σ (fun v9 σ2 => (v9 = some (.int (nI (0))) ∧ (∀ j : Nat, 0 ≤ j → j ≤ 1 → p = nI j → False) ∧ σ2 279 = o11 G (upd F 7 (nI (1))) ∧ (∀ i : Nat, i ≠ 279 → σ2 i = σ i)) ∨ (∃ (p1 : Nat), ∃ (f' : Nat → Nat), ∃ (nv' : Nat → Nat), ∃ (ns' : Nat → Nat), ∃ (mk' : Nat → Nat), ∃ (va' : Nat → Nat), ∃ (sp' : Nat → Nat), ∃ (lo' : Nat → Nat), ∃ (mc' : Nat), ∃ (z' : Nat), ∃ (a' : Nat → Nat), v9 = some (.int (nI (s_tot (s_again g p1)))) ∧ (p = nI p1) ∧ (p1 ≤ 1) ∧ (s_TI z' lo' va' sp') ∧ (mc' ≤ mc + 6724) ∧ (∀ v : Nat, v < 2000 → mk' v ≤ mc') ∧ (∀ j : Nat, j < 80 → lo' j < 2 ^ 31) ∧ (∀ j : Nat, j < 265 → a' (265 * s_pmany m + j) = g j) ∧ (∀ j : Nat, j < 265 * s_pmany m → a' j = s_pshift a m j) ∧ σ2 279 = o11 G (upd (upd (upd (upd F 5 (nI (s_pmany m + 1))) 7 (nI (0))) 12 (nI (mc'))) 16 (nI (z'))) ∧ σ2 280 = q_an G 265 (s_again g p1) ∧ σ2 284 = q_an G 2120 a' ∧ σ2 285 = q_bn G 1681 f' ∧ σ2 286 = q_an G 1681 nv' ∧ σ2 287 = q_an G 1681 ns' ∧ σ2 288 = q_an G 2000 mk' ∧ σ2 289 = q_an G 6724 va' ∧ σ2 290 = q_an G 6724 sp' ∧ σ2 291 = q_an G 80 lo' ∧ (∀ i : Nat, i ≠ 279 ∧ i ≠ 280 ∧ i ≠ 284 ∧ (i < 285 ∨ 291 < i) → σ2 i = σ i))) := by
  refine q_enter [some (.ref (q_h G + 279)), some (.int (p)), none] (by decide) (Nat.le_of_ble_eq_true rfl) rfl ?_
  intro K hg
  obtain ⟨Q, hQ⟩ : ∃ Q, Q = q_Q G K ex n 0 0 (fun v9 n' σ' => n' = n ∧ (fun v9 σ2 => (v9 = some (.int (nI (0))) ∧ (∀ j : Nat, 0 ≤ j → j ≤ 1 → p = nI j → False) ∧ σ2 279 = o11 G (upd F 7 (nI (1))) ∧ (∀ i : Nat, i ≠ 279 → σ2 i = σ i)) ∨ (∃ (p1 : Nat), ∃ (f' : Nat → Nat), ∃ (nv' : Nat → Nat), ∃ (ns' : Nat → Nat), ∃ (mk' : Nat → Nat), ∃ (va' : Nat → Nat), ∃ (sp' : Nat → Nat), ∃ (lo' : Nat → Nat), ∃ (mc' : Nat), ∃ (z' : Nat), ∃ (a' : Nat → Nat), v9 = some (.int (nI (s_tot (s_again g p1)))) ∧ (p = nI p1) ∧ (p1 ≤ 1) ∧ (s_TI z' lo' va' sp') ∧ (mc' ≤ mc + 6724) ∧ (∀ v : Nat, v < 2000 → mk' v ≤ mc') ∧ (∀ j : Nat, j < 80 → lo' j < 2 ^ 31) ∧ (∀ j : Nat, j < 265 → a' (265 * s_pmany m + j) = g j) ∧ (∀ j : Nat, j < 265 * s_pmany m → a' j = s_pshift a m j) ∧ σ2 279 = o11 G (upd (upd (upd (upd F 5 (nI (s_pmany m + 1))) 7 (nI (0))) 12 (nI (mc'))) 16 (nI (z'))) ∧ σ2 280 = q_an G 265 (s_again g p1) ∧ σ2 284 = q_an G 2120 a' ∧ σ2 285 = q_bn G 1681 f' ∧ σ2 286 = q_an G 1681 nv' ∧ σ2 287 = q_an G 1681 ns' ∧ σ2 288 = q_an G 2000 mk' ∧ σ2 289 = q_an G 6724 va' ∧ σ2 290 = q_an G 6724 sp' ∧ σ2 291 = q_an G 80 lo' ∧ (∀ i : Nat, i ≠ 279 ∧ i ≠ 280 ∧ i ≠ 284 ∧ (i < 285 ∨ 291 < i) → σ2 i = σ i))) v9 σ') q_noX := ⟨_, rfl⟩
  refine (?_ : AJ G K (q_Q G K ex n 0 0 _ _) 0 0 ex n 0 _ _ σ)
  rw [← hQ]
  have hg14 := hg9.2.1
  have hg24 := hg9.2.2.1
  refine A_aload_n hg dX11_again_0 rfl rfl ?_
  refine A_iconst (v := (nI (0))) hg dX11_again_1 (by decide) ?_
  refine A_putf hg fl_RX11_67 dX11_again_2 hc0 (by omega) (Nat.le_of_ble_eq_true rfl) rfl rfl rfl (fun σ_1 hc_2 hf_3 => ?_)
  have hc_2 : σ_1 279 = o11 G (upd F 7 (nI (0))) := hc_2
  have hc_4 : σ_1 280 = q_an G 265 g := (hf_3 _ (by omega)).trans hc1
  have hc_5 : σ_1 284 = q_an G 2120 a := (hf_3 _ (by omega)).trans hc2
  have hc_6 : σ_1 285 = q_bn G 1681 f := (hf_3 _ (by omega)).trans hc3
  have hc_7 : σ_1 286 = q_an G 1681 nv := (hf_3 _ (by omega)).trans hc4
  have hc_8 : σ_1 287 = q_an G 1681 ns := (hf_3 _ (by omega)).trans hc5
  have hc_9 : σ_1 288 = q_an G 2000 mk := (hf_3 _ (by omega)).trans hc6
  have hc_10 : σ_1 289 = q_an G 6724 va := (hf_3 _ (by omega)).trans hc7
  have hc_11 : σ_1 290 = q_an G 6724 sp := (hf_3 _ (by omega)).trans hc8
  have hc_12 : σ_1 291 = q_an G 80 lo := (hf_3 _ (by omega)).trans hc9
  refine A_aload_n hg dX11_again_5 rfl rfl ?_
  refine A_iload_n hg dX11_again_6 rfl rfl ?_
  refine A_hV (kc2 := 0) (ks2 := 0) (As := [.int (p)]) (rest := []) hg lk_RX11_399 in_X11_noPlayer se_X11_noPlayer rfl dX11_again_7 ⟨by decide, by decide⟩ rfl rfl ⟨by decide, by decide⟩ hc_2 (by omega) rfl rfl (Nat.le_of_ble_eq_true rfl) (c_X11_noPlayer G ex n σ_1 (upd F 7 (nI (0))) p hc_2 (by omega)) ?_
  rintro _ σ_16 (⟨rfl, hno, hc_13, hf_14⟩ | ⟨p1, rfl, hpe, hpa, hpl, he_15⟩)
  · skip
    refine (?_ : AJ G K Q 0 0 ex n 10 [some (.ref (q_h G + 279)), some (.int (p)), none] [.int (nI (1))] σ_16)
    have hc_13 : σ_16 279 = o11 G (upd F 7 (nI (1))) := hc_13
    have hc_17 : σ_16 280 = q_an G 265 g := (hf_14 _ (by omega)).trans hc_4
    have hc_18 : σ_16 284 = q_an G 2120 a := (hf_14 _ (by omega)).trans hc_5
    have hc_19 : σ_16 285 = q_bn G 1681 f := (hf_14 _ (by omega)).trans hc_6
    have hc_20 : σ_16 286 = q_an G 1681 nv := (hf_14 _ (by omega)).trans hc_7
    have hc_21 : σ_16 287 = q_an G 1681 ns := (hf_14 _ (by omega)).trans hc_8
    have hc_22 : σ_16 288 = q_an G 2000 mk := (hf_14 _ (by omega)).trans hc_9
    have hc_23 : σ_16 289 = q_an G 6724 va := (hf_14 _ (by omega)).trans hc_10
    have hc_24 : σ_16 290 = q_an G 6724 sp := (hf_14 _ (by omega)).trans hc_11
    have hc_25 : σ_16 291 = q_an G 80 lo := (hf_14 _ (by omega)).trans hc_12
    refine A_if_eqN (tgt := 15) hg dX11_again_10 (by decide) (by decide) (fun c10 => absurd c10 (by decide)) (fun c10 => ?_)
    refine A_iconst (v := (nI (0))) hg dX11_again_13 (by decide) ?_
    rw [hQ]
    exact A_ireturn hg (by decide) (by decide) rfl dX11_again_14 ⟨rfl, Or.inl (⟨rfl, (by first | rfl | assumption | omega), hc_13, (fun i hi => ((hf_14 i (by omega)).trans (hf_3 i (by omega))))⟩)⟩
  · skip
    rw [he_15]
    refine (?_ : AJ G K Q 0 0 ex n 10 [some (.ref (q_h G + 279)), some (.int (p)), none] [.int (nI (0))] σ_1)
    refine A_if_eqN (tgt := 15) hg dX11_again_10 (by decide) (by decide) (fun c10 => ?_) (fun c10 => absurd (by decide) c10)
    subst hpe
    refine A_aload_n hg dX11_again_15 rfl rfl ?_
    refine A_vV (kc2 := 0) (ks2 := 0) (As := []) (rest := []) hg lk_RX11_389 in_X11_laysAll se_X11_laysAll rfl dX11_again_16 ⟨by decide, by decide⟩ rfl rfl ⟨by decide, by decide⟩ hc_2 (by omega) rfl rfl (Nat.le_of_ble_eq_true rfl) (c_X11_laysAll G ex n σ_1 (upd F 7 (nI (0))) g f nv ns mk va sp lo mc z hc_2 hc_4 hc_6 hc_7 hc_8 hc_9 hc_10 hc_11 hc_12 (by omega) hg9.1 hg9.2.2.2.2.2.1 (by omega) hF12 hF16 hmk hTI hlo) ?_
    rintro σ_35 ⟨f', nv', ns', mk', va', sp', lo', mc', z', hTI2, hCU2, hmc2, hmk2, hlo2, hc_26, hc_27, hc_28, hc_29, hc_30, hc_31, hc_32, hc_33, hf_34⟩
    have hc_26 : σ_35 279 = o11 G (upd (upd (upd F 7 (nI (0))) 12 (nI (mc'))) 16 (nI (z'))) := hc_26
    have hc_36 : σ_35 280 = q_an G 265 g := (hf_34 _ (by omega)).trans hc_4
    have hc_37 : σ_35 284 = q_an G 2120 a := (hf_34 _ (by omega)).trans hc_5
    have hCV2 : ∀ r : Nat, r < g 0 → ∀ q : Nat, q < 1681 → va' (1681 * r + q) = s_V (s_rule g r) q := fun r hr q hq => (hCU2 r hr q hq).1
    refine A_aload_n hg dX11_again_19 rfl rfl ?_
    refine A_vV (kc2 := 0) (ks2 := 0) (As := []) (rest := []) hg lk_RX11_463 in_X11_remembers se_X11_remembers rfl dX11_again_20 ⟨by decide, by decide⟩ rfl rfl ⟨by decide, by decide⟩ hc_26 (by omega) rfl rfl (Nat.le_of_ble_eq_true rfl) (c_X11_remembers G ex n σ_35 (upd (upd (upd F 7 (nI (0))) 12 (nI (mc'))) 16 (nI (z'))) g a m hc_26 hc_36 hc_37 (by omega) hF5 (by omega)) ?_
    rintro σ_41 ⟨a', hnew, hold, hc_38, hc_39, hf_40⟩
    have hc_38 : σ_41 279 = o11 G (upd (upd (upd (upd F 5 (nI (s_pmany m + 1))) 7 (nI (0))) 12 (nI (mc'))) 16 (nI (z'))) := hc_38
    have hc_42 : σ_41 280 = q_an G 265 g := (hf_40 _ (by omega)).trans hc_36
    have hc_43 : σ_41 285 = q_bn G 1681 f' := (hf_40 _ (by omega)).trans hc_27
    have hc_44 : σ_41 286 = q_an G 1681 nv' := (hf_40 _ (by omega)).trans hc_28
    have hc_45 : σ_41 287 = q_an G 1681 ns' := (hf_40 _ (by omega)).trans hc_29
    have hc_46 : σ_41 288 = q_an G 2000 mk' := (hf_40 _ (by omega)).trans hc_30
    have hc_47 : σ_41 289 = q_an G 6724 va' := (hf_40 _ (by omega)).trans hc_31
    have hc_48 : σ_41 290 = q_an G 6724 sp' := (hf_40 _ (by omega)).trans hc_32
    have hc_49 : σ_41 291 = q_an G 80 lo' := (hf_40 _ (by omega)).trans hc_33
    refine A_canon (s_agB g 0) hc_42 (fun jj _ => (s_agB_lo (by omega)).symm) (fun σ_50 hc_51 hf_52 => ?_)
    have hc_53 : σ_50 285 = q_bn G 1681 f' := (hf_52 _ (by omega)).trans hc_43
    have hc_54 : σ_50 286 = q_an G 1681 nv' := (hf_52 _ (by omega)).trans hc_44
    have hc_55 : σ_50 287 = q_an G 1681 ns' := (hf_52 _ (by omega)).trans hc_45
    have hc_56 : σ_50 288 = q_an G 2000 mk' := (hf_52 _ (by omega)).trans hc_46
    have hc_57 : σ_50 289 = q_an G 6724 va' := (hf_52 _ (by omega)).trans hc_47
    have hc_58 : σ_50 290 = q_an G 6724 sp' := (hf_52 _ (by omega)).trans hc_48
    have hc_59 : σ_50 291 = q_an G 80 lo' := (hf_52 _ (by omega)).trans hc_49
    have hc_60 : σ_50 279 = o11 G (upd (upd (upd (upd F 5 (nI (s_pmany m + 1))) 7 (nI (0))) 12 (nI (mc'))) 16 (nI (z'))) := (hf_52 _ (by omega)).trans hc_38
    have hc_61 : σ_50 284 = q_an G 2120 a' := (hf_52 _ (by omega)).trans hc_39
    refine A_iconst (v := (nI (0))) hg dX11_again_23 (by decide) ?_
    refine A_istore_n hg dX11_again_24 rfl (by decide) (q_c1d rfl) ?_
    refine A_eq (ls2 := [some (.ref (q_h G + 279)), some (.int (nI (p1))), some (.int (nI (0)))]) (st2 := []) (pc2 := 0) rfl rfl ?_
    have hL25 : ∀ (fu : Nat) (b : Nat) (σ_62 : Nat → va_E), (σ_62 285 = q_bn G 1681 f') → (σ_62 286 = q_an G 1681 nv') → (σ_62 287 = q_an G 1681 ns') → (σ_62 288 = q_an G 2000 mk') → (σ_62 289 = q_an G 6724 va') → (σ_62 290 = q_an G 6724 sp') → (σ_62 291 = q_an G 80 lo') → (σ_62 279 = o11 G (upd (upd (upd (upd F 5 (nI (s_pmany m + 1))) 7 (nI (0))) 12 (nI (mc'))) 16 (nI (z')))) → (σ_62 284 = q_an G 2120 a') → (σ_62 280 = q_an G 265 (s_agB g b)) → (∀ i : Nat, i ≠ 279 ∧ i ≠ 280 ∧ i ≠ 284 ∧ (i < 285 ∨ 291 < i) → σ_62 i = σ i) → (b ≤ g 1) → (g 1 - b) < fu → AJ G K Q 0 0 ex n 25 [some (.ref (q_h G + 279)), some (.int (nI (p1))), some (.int (nI (b)))] [] σ_62 := by
      intro fu
      induction fu with
      | zero => intro b σ_62 hc_63 hc_64 hc_65 hc_66 hc_67 hc_68 hc_69 hc_70 hc_71 hc_72 hf_73 hb1 hm; exact absurd hm (Nat.not_lt_zero _)
      | succ fu ih25 =>
        intro b σ_62 hc_63 hc_64 hc_65 hc_66 hc_67 hc_68 hc_69 hc_70 hc_71 hc_72 hf_73 hb1 hm25
        refine A_iload_n hg dX11_again_25 rfl rfl ?_
        refine A_aload_n hg dX11_again_26 rfl rfl ?_
        refine A_getf (v := .ref (q_h G + 280)) hg fl_RX11_7 dX11_again_27 hc_70 (by omega) rfl ?_
        refine A_iconst (v := (nI (1))) hg dX11_again_30 (by decide) ?_
        refine A_iald (j := 1) hg dX11_again_31 hc_72 (by omega) (by omega) (by decide) ?_
        refine A_top (w := .int (nI (g 1))) (by rw [s_agB_lo (Or.inl (by decide))]) ?_
        refine A_icmp_geN (tgt := 65) hg dX11_again_32 (by omega) (by omega) (by decide) (fun c32 => ?_) (fun c32 => ?_)
        · skip
          refine A_canon (s_agS (s_agB g (g 1)) 0) hc_72 (fun jj _ => by rw [show b = g 1 by omega]; exact (s_agS_lo (by omega)).symm) (fun σ_74 hc_75 hf_76 => ?_)
          have hc_77 : σ_74 285 = q_bn G 1681 f' := (hf_76 _ (by omega)).trans hc_63
          have hc_78 : σ_74 286 = q_an G 1681 nv' := (hf_76 _ (by omega)).trans hc_64
          have hc_79 : σ_74 287 = q_an G 1681 ns' := (hf_76 _ (by omega)).trans hc_65
          have hc_80 : σ_74 288 = q_an G 2000 mk' := (hf_76 _ (by omega)).trans hc_66
          have hc_81 : σ_74 289 = q_an G 6724 va' := (hf_76 _ (by omega)).trans hc_67
          have hc_82 : σ_74 290 = q_an G 6724 sp' := (hf_76 _ (by omega)).trans hc_68
          have hc_83 : σ_74 291 = q_an G 80 lo' := (hf_76 _ (by omega)).trans hc_69
          have hc_84 : σ_74 279 = o11 G (upd (upd (upd (upd F 5 (nI (s_pmany m + 1))) 7 (nI (0))) 12 (nI (mc'))) 16 (nI (z'))) := (hf_76 _ (by omega)).trans hc_70
          have hc_85 : σ_74 284 = q_an G 2120 a' := (hf_76 _ (by omega)).trans hc_71
          refine A_iconst (v := (nI (0))) hg dX11_again_65 (by decide) ?_
          refine A_istore_n hg dX11_again_66 rfl (by decide) (q_c1d rfl) ?_
          refine A_eq (ls2 := [some (.ref (q_h G + 279)), some (.int (nI (p1))), some (.int (nI (0)))]) (st2 := []) (pc2 := 0) rfl rfl ?_
          have hL67 : ∀ (fu : Nat) (q : Nat) (σ_86 : Nat → va_E), (σ_86 285 = q_bn G 1681 f') → (σ_86 286 = q_an G 1681 nv') → (σ_86 287 = q_an G 1681 ns') → (σ_86 288 = q_an G 2000 mk') → (σ_86 289 = q_an G 6724 va') → (σ_86 290 = q_an G 6724 sp') → (σ_86 291 = q_an G 80 lo') → (σ_86 279 = o11 G (upd (upd (upd (upd F 5 (nI (s_pmany m + 1))) 7 (nI (0))) 12 (nI (mc'))) 16 (nI (z')))) → (σ_86 284 = q_an G 2120 a') → (σ_86 280 = q_an G 265 (s_agS (s_agB g (g 1)) q)) → (∀ i : Nat, i ≠ 279 ∧ i ≠ 280 ∧ i ≠ 284 ∧ (i < 285 ∨ 291 < i) → σ_86 i = σ i) → (q ≤ g 2) → (g 2 - q) < fu → AJ G K Q 0 0 ex n 67 [some (.ref (q_h G + 279)), some (.int (nI (p1))), some (.int (nI (q)))] [] σ_86 := by
            intro fu
            induction fu with
            | zero => intro q σ_86 hc_87 hc_88 hc_89 hc_90 hc_91 hc_92 hc_93 hc_94 hc_95 hc_96 hf_97 hq1 hm; exact absurd hm (Nat.not_lt_zero _)
            | succ fu ih67 =>
              intro q σ_86 hc_87 hc_88 hc_89 hc_90 hc_91 hc_92 hc_93 hc_94 hc_95 hc_96 hf_97 hq1 hm67
              refine A_iload_n hg dX11_again_67 rfl rfl ?_
              refine A_aload_n hg dX11_again_68 rfl rfl ?_
              refine A_getf (v := .ref (q_h G + 280)) hg fl_RX11_7 dX11_again_69 hc_94 (by omega) rfl ?_
              refine A_iconst (v := (nI (2))) hg dX11_again_72 (by decide) ?_
              refine A_iald (j := 2) hg dX11_again_73 hc_96 (by omega) (by omega) (by decide) ?_
              refine A_top (w := .int (nI (g 2))) (by rw [s_agS_lo (Or.inl (by decide)), s_agB_lo (Or.inl (by decide))]) ?_
              refine A_icmp_geN (tgt := 95) hg dX11_again_74 (by omega) (by omega) (by decide) (fun c74 => ?_) (fun c74 => ?_)
              · skip
                refine A_canon (s_ag0 g) hc_96 (fun jj _ => by unfold s_ag0; rw [show q = g 2 by omega]) (fun σ_98 hc_99 hf_100 => ?_)
                have hc_101 : σ_98 285 = q_bn G 1681 f' := (hf_100 _ (by omega)).trans hc_87
                have hc_102 : σ_98 286 = q_an G 1681 nv' := (hf_100 _ (by omega)).trans hc_88
                have hc_103 : σ_98 287 = q_an G 1681 ns' := (hf_100 _ (by omega)).trans hc_89
                have hc_104 : σ_98 288 = q_an G 2000 mk' := (hf_100 _ (by omega)).trans hc_90
                have hc_105 : σ_98 289 = q_an G 6724 va' := (hf_100 _ (by omega)).trans hc_91
                have hc_106 : σ_98 290 = q_an G 6724 sp' := (hf_100 _ (by omega)).trans hc_92
                have hc_107 : σ_98 291 = q_an G 80 lo' := (hf_100 _ (by omega)).trans hc_93
                have hc_108 : σ_98 279 = o11 G (upd (upd (upd (upd F 5 (nI (s_pmany m + 1))) 7 (nI (0))) 12 (nI (mc'))) 16 (nI (z'))) := (hf_100 _ (by omega)).trans hc_94
                have hc_109 : σ_98 284 = q_an G 2120 a' := (hf_100 _ (by omega)).trans hc_95
                refine A_aload_n hg dX11_again_95 rfl rfl ?_
                refine A_getf (v := .ref (q_h G + 280)) hg fl_RX11_7 dX11_again_96 hc_108 (by omega) rfl ?_
                refine A_iconst (v := (nI (3))) hg dX11_again_99 (by decide) ?_
                refine A_iload_n hg dX11_again_100 rfl rfl ?_
                refine A_iast (j := 3) (x := p1) hg dX11_again_101 hc_99 (by omega) (by omega) (by decide) (fun σ_110 hc_111 hf_112 => ?_)
                have hc_113 : σ_110 285 = q_bn G 1681 f' := (hf_112 _ (by omega)).trans hc_101
                have hc_114 : σ_110 286 = q_an G 1681 nv' := (hf_112 _ (by omega)).trans hc_102
                have hc_115 : σ_110 287 = q_an G 1681 ns' := (hf_112 _ (by omega)).trans hc_103
                have hc_116 : σ_110 288 = q_an G 2000 mk' := (hf_112 _ (by omega)).trans hc_104
                have hc_117 : σ_110 289 = q_an G 6724 va' := (hf_112 _ (by omega)).trans hc_105
                have hc_118 : σ_110 290 = q_an G 6724 sp' := (hf_112 _ (by omega)).trans hc_106
                have hc_119 : σ_110 291 = q_an G 80 lo' := (hf_112 _ (by omega)).trans hc_107
                have hc_120 : σ_110 279 = o11 G (upd (upd (upd (upd F 5 (nI (s_pmany m + 1))) 7 (nI (0))) 12 (nI (mc'))) 16 (nI (z'))) := (hf_112 _ (by omega)).trans hc_108
                have hc_121 : σ_110 284 = q_an G 2120 a' := (hf_112 _ (by omega)).trans hc_109
                refine A_aload_n hg dX11_again_102 rfl rfl ?_
                refine A_getf (v := .ref (q_h G + 280)) hg fl_RX11_7 dX11_again_103 hc_120 (by omega) rfl ?_
                refine A_iconst (v := (nI (4))) hg dX11_again_106 (by decide) ?_
                refine A_iconst (v := (nI (0))) hg dX11_again_107 (by decide) ?_
                refine A_iast (j := 4) (x := 0) hg dX11_again_108 hc_111 (by omega) (by omega) (by decide) (fun σ_122 hc_123 hf_124 => ?_)
                have hc_125 : σ_122 285 = q_bn G 1681 f' := (hf_124 _ (by omega)).trans hc_113
                have hc_126 : σ_122 286 = q_an G 1681 nv' := (hf_124 _ (by omega)).trans hc_114
                have hc_127 : σ_122 287 = q_an G 1681 ns' := (hf_124 _ (by omega)).trans hc_115
                have hc_128 : σ_122 288 = q_an G 2000 mk' := (hf_124 _ (by omega)).trans hc_116
                have hc_129 : σ_122 289 = q_an G 6724 va' := (hf_124 _ (by omega)).trans hc_117
                have hc_130 : σ_122 290 = q_an G 6724 sp' := (hf_124 _ (by omega)).trans hc_118
                have hc_131 : σ_122 291 = q_an G 80 lo' := (hf_124 _ (by omega)).trans hc_119
                have hc_132 : σ_122 279 = o11 G (upd (upd (upd (upd F 5 (nI (s_pmany m + 1))) 7 (nI (0))) 12 (nI (mc'))) 16 (nI (z'))) := (hf_124 _ (by omega)).trans hc_120
                have hc_133 : σ_122 284 = q_an G 2120 a' := (hf_124 _ (by omega)).trans hc_121
                refine A_aload_n hg dX11_again_109 rfl rfl ?_
                refine A_getf (v := .ref (q_h G + 280)) hg fl_RX11_7 dX11_again_110 hc_132 (by omega) rfl ?_
                refine A_iconst (v := (nI (5))) hg dX11_again_113 (by decide) ?_
                refine A_dup2 hg dX11_again_114 rfl rfl ?_
                refine A_iald (j := 5) hg dX11_again_115 hc_123 (by omega) (by omega) (by decide) ?_
                refine A_iconst (v := (nI (1))) hg dX11_again_116 (by decide) ?_
                refine A_iaddN hg dX11_again_117 ?_
                refine A_iast (j := 5) (x := (((va_up (va_up (s_ag0 g) 3 p1) 4 0) 5) + 1)) hg dX11_again_118 hc_123 (by omega) (by omega) (by decide) (fun σ_134 hc_135 hf_136 => ?_)
                have hc_137 : σ_134 285 = q_bn G 1681 f' := (hf_136 _ (by omega)).trans hc_125
                have hc_138 : σ_134 286 = q_an G 1681 nv' := (hf_136 _ (by omega)).trans hc_126
                have hc_139 : σ_134 287 = q_an G 1681 ns' := (hf_136 _ (by omega)).trans hc_127
                have hc_140 : σ_134 288 = q_an G 2000 mk' := (hf_136 _ (by omega)).trans hc_128
                have hc_141 : σ_134 289 = q_an G 6724 va' := (hf_136 _ (by omega)).trans hc_129
                have hc_142 : σ_134 290 = q_an G 6724 sp' := (hf_136 _ (by omega)).trans hc_130
                have hc_143 : σ_134 291 = q_an G 80 lo' := (hf_136 _ (by omega)).trans hc_131
                have hc_144 : σ_134 279 = o11 G (upd (upd (upd (upd F 5 (nI (s_pmany m + 1))) 7 (nI (0))) 12 (nI (mc'))) 16 (nI (z'))) := (hf_136 _ (by omega)).trans hc_132
                have hc_145 : σ_134 284 = q_an G 2120 a' := (hf_136 _ (by omega)).trans hc_133
                refine A_canon (s_again g p1) hc_135 (fun _ _ => rfl) (fun σ_146 hc_147 hf_148 => ?_)
                have hc_149 : σ_146 285 = q_bn G 1681 f' := (hf_148 _ (by omega)).trans hc_137
                have hc_150 : σ_146 286 = q_an G 1681 nv' := (hf_148 _ (by omega)).trans hc_138
                have hc_151 : σ_146 287 = q_an G 1681 ns' := (hf_148 _ (by omega)).trans hc_139
                have hc_152 : σ_146 288 = q_an G 2000 mk' := (hf_148 _ (by omega)).trans hc_140
                have hc_153 : σ_146 289 = q_an G 6724 va' := (hf_148 _ (by omega)).trans hc_141
                have hc_154 : σ_146 290 = q_an G 6724 sp' := (hf_148 _ (by omega)).trans hc_142
                have hc_155 : σ_146 291 = q_an G 80 lo' := (hf_148 _ (by omega)).trans hc_143
                have hc_156 : σ_146 279 = o11 G (upd (upd (upd (upd F 5 (nI (s_pmany m + 1))) 7 (nI (0))) 12 (nI (mc'))) 16 (nI (z'))) := (hf_148 _ (by omega)).trans hc_144
                have hc_157 : σ_146 284 = q_an G 2120 a' := (hf_148 _ (by omega)).trans hc_145
                have hgn := s_gwf_again hpl hg9
                have hCVn := s_again_CV (pl := p1) hg9 hCV2
                refine A_aload_n hg dX11_again_119 rfl rfl ?_
                refine A_eV (kc2 := 0) (ks2 := 0) (As := []) (rest := []) hg lk_RX11_206 in_X11_total se_X11_total rfl dX11_again_120 ⟨by decide, by decide⟩ rfl rfl ⟨by decide, by decide⟩ hc_156 (by omega) rfl rfl (Nat.le_of_ble_eq_true rfl) (c_X11_total G ex n σ_146 (upd (upd (upd (upd F 5 (nI (s_pmany m + 1))) 7 (nI (0))) 12 (nI (mc'))) 16 (nI (z'))) (s_again g p1) va' hc_156 hc_147 hc_153 (by omega) hgn hCVn) ?_
                rw [hQ]
                exact A_ireturn hg (by decide) (by decide) rfl dX11_again_123 ⟨rfl, Or.inr ((⟨p1, f', nv', ns', mk', va', sp', lo', mc', z', a', rfl, (by first | rfl | assumption | omega), (by first | rfl | assumption | omega), hTI2, hmc2, hmk2, hlo2, hnew, hold, hc_156, hc_147, hc_157, hc_149, hc_150, hc_151, hc_152, hc_153, hc_154, hc_155, (fun i hi => ((hf_148 i (by omega)).trans ((hf_136 i (by omega)).trans ((hf_124 i (by omega)).trans ((hf_112 i (by omega)).trans ((hf_100 i (by omega)).trans (hf_97 i (by omega))))))))⟩))⟩
              · skip
                refine A_aload_n hg dX11_again_77 rfl rfl ?_
                refine A_iload_n hg dX11_again_78 rfl rfl ?_
                refine A_iconst (v := (nI (0))) hg dX11_again_79 (by decide) ?_
                refine A_aload_n hg dX11_again_80 rfl rfl ?_
                refine A_iload_n hg dX11_again_81 rfl rfl ?_
                refine A_iconst (v := (nI (2))) hg dX11_again_82 (by decide) ?_
                refine A_eV (kc2 := 0) (ks2 := 0) (As := [.int (nI (q)), .int (nI (2))]) (rest := [.int (nI (0)), .int (nI (q)), .ref (q_h G + 279)]) hg lk_RX11_194 in_X11_ofStick se_X11_ofStick rfl dX11_again_83 ⟨by decide, by decide⟩ rfl rfl ⟨by decide, by decide⟩ hc_94 (by omega) rfl rfl (Nat.le_of_ble_eq_true rfl) (c_X11_ofStick G ex n σ_86 (upd (upd (upd (upd F 5 (nI (s_pmany m + 1))) 7 (nI (0))) 12 (nI (mc'))) 16 (nI (z'))) (s_agS (s_agB g (g 1)) q) q 2 hc_94 hc_96 (by omega) (by omega)) ?_
                refine A_vV (kc2 := 0) (ks2 := 0) (As := [.int (nI (q)), .int (nI (0)), .int (nI ((s_agS (s_agB g (g 1)) q) (153 + 3 * q + 2)))]) (rest := []) hg lk_RX11_176 in_X11_putsStick se_X11_putsStick rfl dX11_again_86 ⟨by decide, by decide⟩ rfl rfl ⟨by decide, by decide⟩ hc_94 (by omega) rfl rfl (Nat.le_of_ble_eq_true rfl) (c_X11_putsStick G ex n σ_86 (upd (upd (upd (upd F 5 (nI (s_pmany m + 1))) 7 (nI (0))) 12 (nI (mc'))) 16 (nI (z'))) (s_agS (s_agB g (g 1)) q) q 0 ((s_agS (s_agB g (g 1)) q) (153 + 3 * q + 2)) hc_94 hc_96 (by omega) (by omega)) ?_
                rintro σ_160 ⟨hc_158, hf_159⟩
                have hc_161 : σ_160 285 = q_bn G 1681 f' := (hf_159 _ (by omega)).trans hc_87
                have hc_162 : σ_160 286 = q_an G 1681 nv' := (hf_159 _ (by omega)).trans hc_88
                have hc_163 : σ_160 287 = q_an G 1681 ns' := (hf_159 _ (by omega)).trans hc_89
                have hc_164 : σ_160 288 = q_an G 2000 mk' := (hf_159 _ (by omega)).trans hc_90
                have hc_165 : σ_160 289 = q_an G 6724 va' := (hf_159 _ (by omega)).trans hc_91
                have hc_166 : σ_160 290 = q_an G 6724 sp' := (hf_159 _ (by omega)).trans hc_92
                have hc_167 : σ_160 291 = q_an G 80 lo' := (hf_159 _ (by omega)).trans hc_93
                have hc_168 : σ_160 279 = o11 G (upd (upd (upd (upd F 5 (nI (s_pmany m + 1))) 7 (nI (0))) 12 (nI (mc'))) 16 (nI (z'))) := (hf_159 _ (by omega)).trans hc_94
                have hc_169 : σ_160 284 = q_an G 2120 a' := (hf_159 _ (by omega)).trans hc_95
                refine A_canon (s_agS (s_agB g (g 1)) (q + 1)) hc_158 (fun jj _ => s_agS_s (s_agB g (g 1)) q jj) (fun σ_170 hc_171 hf_172 => ?_)
                have hc_173 : σ_170 285 = q_bn G 1681 f' := (hf_172 _ (by omega)).trans hc_161
                have hc_174 : σ_170 286 = q_an G 1681 nv' := (hf_172 _ (by omega)).trans hc_162
                have hc_175 : σ_170 287 = q_an G 1681 ns' := (hf_172 _ (by omega)).trans hc_163
                have hc_176 : σ_170 288 = q_an G 2000 mk' := (hf_172 _ (by omega)).trans hc_164
                have hc_177 : σ_170 289 = q_an G 6724 va' := (hf_172 _ (by omega)).trans hc_165
                have hc_178 : σ_170 290 = q_an G 6724 sp' := (hf_172 _ (by omega)).trans hc_166
                have hc_179 : σ_170 291 = q_an G 80 lo' := (hf_172 _ (by omega)).trans hc_167
                have hc_180 : σ_170 279 = o11 G (upd (upd (upd (upd F 5 (nI (s_pmany m + 1))) 7 (nI (0))) 12 (nI (mc'))) 16 (nI (z'))) := (hf_172 _ (by omega)).trans hc_168
                have hc_181 : σ_170 284 = q_an G 2120 a' := (hf_172 _ (by omega)).trans hc_169
                refine A_iincN (k' := 1) hg dX11_again_89 (by decide) rfl (by decide) (q_c1d rfl) ?_
                refine A_eq (ls2 := [some (.ref (q_h G + 279)), some (.int (nI (p1))), some (.int (nI (q + 1)))]) (st2 := []) (pc2 := 0) rfl rfl ?_
                refine A_goto (tgt := 67) hg dX11_again_92 (by decide) ?_
                exact ih67 (q + 1) σ_170 hc_173 hc_174 hc_175 hc_176 hc_177 hc_178 hc_179 hc_180 hc_181 hc_171 (fun i hi => ((hf_172 i (by omega)).trans ((hf_159 i (by omega)).trans (hf_97 i (by omega))))) (by omega) (by omega)
          exact hL67 _ 0 σ_74 hc_77 hc_78 hc_79 hc_80 hc_81 hc_82 hc_83 hc_84 hc_85 hc_75 (fun i hi => ((hf_76 i (by omega)).trans (hf_73 i (by omega)))) (Nat.zero_le _) (Nat.lt_succ_self _)
        · skip
          refine A_aload_n hg dX11_again_35 rfl rfl ?_
          refine A_iload_n hg dX11_again_36 rfl rfl ?_
          refine A_iconst (v := (nI (1))) hg dX11_again_37 (by decide) ?_
          refine A_aload_n hg dX11_again_38 rfl rfl ?_
          refine A_iload_n hg dX11_again_39 rfl rfl ?_
          refine A_iconst (v := (nI (3))) hg dX11_again_40 (by decide) ?_
          refine A_eV (kc2 := 0) (ks2 := 0) (As := [.int (nI (b)), .int (nI (3))]) (rest := [.int (nI (1)), .int (nI (b)), .ref (q_h G + 279)]) hg lk_RX11_185 in_X11_ofBoard se_X11_ofBoard rfl dX11_again_41 ⟨by decide, by decide⟩ rfl rfl ⟨by decide, by decide⟩ hc_70 (by omega) rfl rfl (Nat.le_of_ble_eq_true rfl) (c_X11_ofBoard G ex n σ_62 (upd (upd (upd (upd F 5 (nI (s_pmany m + 1))) 7 (nI (0))) 12 (nI (mc'))) 16 (nI (z'))) (s_agB g b) b 3 hc_70 hc_72 (by omega) (by omega)) ?_
          refine A_vV (kc2 := 0) (ks2 := 0) (As := [.int (nI (b)), .int (nI (1)), .int (nI ((s_agB g b) (133 + 5 * b + 3)))]) (rest := []) hg lk_RX11_173 in_X11_putsBoard se_X11_putsBoard rfl dX11_again_44 ⟨by decide, by decide⟩ rfl rfl ⟨by decide, by decide⟩ hc_70 (by omega) rfl rfl (Nat.le_of_ble_eq_true rfl) (c_X11_putsBoard G ex n σ_62 (upd (upd (upd (upd F 5 (nI (s_pmany m + 1))) 7 (nI (0))) 12 (nI (mc'))) 16 (nI (z'))) (s_agB g b) b 1 ((s_agB g b) (133 + 5 * b + 3)) hc_70 hc_72 (by omega) (by omega)) ?_
          rintro σ_184 ⟨hc_182, hf_183⟩
          have hc_185 : σ_184 285 = q_bn G 1681 f' := (hf_183 _ (by omega)).trans hc_63
          have hc_186 : σ_184 286 = q_an G 1681 nv' := (hf_183 _ (by omega)).trans hc_64
          have hc_187 : σ_184 287 = q_an G 1681 ns' := (hf_183 _ (by omega)).trans hc_65
          have hc_188 : σ_184 288 = q_an G 2000 mk' := (hf_183 _ (by omega)).trans hc_66
          have hc_189 : σ_184 289 = q_an G 6724 va' := (hf_183 _ (by omega)).trans hc_67
          have hc_190 : σ_184 290 = q_an G 6724 sp' := (hf_183 _ (by omega)).trans hc_68
          have hc_191 : σ_184 291 = q_an G 80 lo' := (hf_183 _ (by omega)).trans hc_69
          have hc_192 : σ_184 279 = o11 G (upd (upd (upd (upd F 5 (nI (s_pmany m + 1))) 7 (nI (0))) 12 (nI (mc'))) 16 (nI (z'))) := (hf_183 _ (by omega)).trans hc_70
          have hc_193 : σ_184 284 = q_an G 2120 a' := (hf_183 _ (by omega)).trans hc_71
          refine A_aload_n hg dX11_again_47 rfl rfl ?_
          refine A_iload_n hg dX11_again_48 rfl rfl ?_
          refine A_iconst (v := (nI (2))) hg dX11_again_49 (by decide) ?_
          refine A_aload_n hg dX11_again_50 rfl rfl ?_
          refine A_iload_n hg dX11_again_51 rfl rfl ?_
          refine A_iconst (v := (nI (4))) hg dX11_again_52 (by decide) ?_
          refine A_eV (kc2 := 0) (ks2 := 0) (As := [.int (nI (b)), .int (nI (4))]) (rest := [.int (nI (2)), .int (nI (b)), .ref (q_h G + 279)]) hg lk_RX11_185 in_X11_ofBoard se_X11_ofBoard rfl dX11_again_53 ⟨by decide, by decide⟩ rfl rfl ⟨by decide, by decide⟩ hc_192 (by omega) rfl rfl (Nat.le_of_ble_eq_true rfl) (c_X11_ofBoard G ex n σ_184 (upd (upd (upd (upd F 5 (nI (s_pmany m + 1))) 7 (nI (0))) 12 (nI (mc'))) 16 (nI (z'))) (va_up (s_agB g b) (133 + 5 * b + 1) ((s_agB g b) (133 + 5 * b + 3))) b 4 hc_192 hc_182 (by omega) (by omega)) ?_
          refine A_vV (kc2 := 0) (ks2 := 0) (As := [.int (nI (b)), .int (nI (2)), .int (nI ((va_up (s_agB g b) (133 + 5 * b + 1) ((s_agB g b) (133 + 5 * b + 3))) (133 + 5 * b + 4)))]) (rest := []) hg lk_RX11_173 in_X11_putsBoard se_X11_putsBoard rfl dX11_again_56 ⟨by decide, by decide⟩ rfl rfl ⟨by decide, by decide⟩ hc_192 (by omega) rfl rfl (Nat.le_of_ble_eq_true rfl) (c_X11_putsBoard G ex n σ_184 (upd (upd (upd (upd F 5 (nI (s_pmany m + 1))) 7 (nI (0))) 12 (nI (mc'))) 16 (nI (z'))) (va_up (s_agB g b) (133 + 5 * b + 1) ((s_agB g b) (133 + 5 * b + 3))) b 2 ((va_up (s_agB g b) (133 + 5 * b + 1) ((s_agB g b) (133 + 5 * b + 3))) (133 + 5 * b + 4)) hc_192 hc_182 (by omega) (by omega)) ?_
          rintro σ_196 ⟨hc_194, hf_195⟩
          have hc_197 : σ_196 285 = q_bn G 1681 f' := (hf_195 _ (by omega)).trans hc_185
          have hc_198 : σ_196 286 = q_an G 1681 nv' := (hf_195 _ (by omega)).trans hc_186
          have hc_199 : σ_196 287 = q_an G 1681 ns' := (hf_195 _ (by omega)).trans hc_187
          have hc_200 : σ_196 288 = q_an G 2000 mk' := (hf_195 _ (by omega)).trans hc_188
          have hc_201 : σ_196 289 = q_an G 6724 va' := (hf_195 _ (by omega)).trans hc_189
          have hc_202 : σ_196 290 = q_an G 6724 sp' := (hf_195 _ (by omega)).trans hc_190
          have hc_203 : σ_196 291 = q_an G 80 lo' := (hf_195 _ (by omega)).trans hc_191
          have hc_204 : σ_196 279 = o11 G (upd (upd (upd (upd F 5 (nI (s_pmany m + 1))) 7 (nI (0))) 12 (nI (mc'))) 16 (nI (z'))) := (hf_195 _ (by omega)).trans hc_192
          have hc_205 : σ_196 284 = q_an G 2120 a' := (hf_195 _ (by omega)).trans hc_193
          refine A_canon (s_agB g (b + 1)) hc_194 (fun jj _ => s_agB_s g b jj) (fun σ_206 hc_207 hf_208 => ?_)
          have hc_209 : σ_206 285 = q_bn G 1681 f' := (hf_208 _ (by omega)).trans hc_197
          have hc_210 : σ_206 286 = q_an G 1681 nv' := (hf_208 _ (by omega)).trans hc_198
          have hc_211 : σ_206 287 = q_an G 1681 ns' := (hf_208 _ (by omega)).trans hc_199
          have hc_212 : σ_206 288 = q_an G 2000 mk' := (hf_208 _ (by omega)).trans hc_200
          have hc_213 : σ_206 289 = q_an G 6724 va' := (hf_208 _ (by omega)).trans hc_201
          have hc_214 : σ_206 290 = q_an G 6724 sp' := (hf_208 _ (by omega)).trans hc_202
          have hc_215 : σ_206 291 = q_an G 80 lo' := (hf_208 _ (by omega)).trans hc_203
          have hc_216 : σ_206 279 = o11 G (upd (upd (upd (upd F 5 (nI (s_pmany m + 1))) 7 (nI (0))) 12 (nI (mc'))) 16 (nI (z'))) := (hf_208 _ (by omega)).trans hc_204
          have hc_217 : σ_206 284 = q_an G 2120 a' := (hf_208 _ (by omega)).trans hc_205
          refine A_iincN (k' := 1) hg dX11_again_59 (by decide) rfl (by decide) (q_c1d rfl) ?_
          refine A_eq (ls2 := [some (.ref (q_h G + 279)), some (.int (nI (p1))), some (.int (nI (b + 1)))]) (st2 := []) (pc2 := 0) rfl rfl ?_
          refine A_goto (tgt := 25) hg dX11_again_62 (by decide) ?_
          exact ih25 (b + 1) σ_206 hc_209 hc_210 hc_211 hc_212 hc_213 hc_214 hc_215 hc_216 hc_217 hc_207 (fun i hi => ((hf_208 i (by omega)).trans ((hf_195 i (by omega)).trans ((hf_183 i (by omega)).trans (hf_73 i (by omega)))))) (by omega) (by omega)
    exact hL25 _ 0 σ_50 hc_53 hc_54 hc_55 hc_56 hc_57 hc_58 hc_59 hc_60 hc_61 hc_51 (fun i hi => ((hf_52 i (by omega)).trans ((hf_40 i (by omega)).trans ((hf_34 i (by omega)).trans (hf_3 i (by omega)))))) (Nat.zero_le _) (Nat.lt_succ_self _)
end
