section
set_option maxRecDepth 100000 in
set_option maxHeartbeats 4000000 in
theorem c_X11_lays (G : GL) (ex : Bool) (n : Nat) (σ : Nat → va_E) (F : Nat → Int32) (g : Nat → Nat) (r : Nat) (f : Nat → Nat) (nv : Nat → Nat) (ns : Nat → Nat) (mk : Nat → Nat) (va : Nat → Nat) (sp : Nat → Nat) (lo : Nat → Nat) (mc : Nat) (z : Nat) (hc0 : σ 279 = o11 G F) (hc1 : σ 280 = q_an G 265 g) (hc2 : σ 285 = q_bn G 1681 f) (hc3 : σ 286 = q_an G 1681 nv) (hc4 : σ 287 = q_an G 1681 ns) (hc5 : σ 288 = q_an G 2000 mk) (hc6 : σ 289 = q_an G 6724 va) (hc7 : σ 290 = q_an G 6724 sp) (hc8 : σ 291 = q_an G 80 lo) (hn : 294 ≤ n) (hr : r < 4) (hw : s_rwf (s_rule g r)) (hmc : mc + 1681 < 2 ^ 31) (hF12 : F 12 = nI mc) (hF16 : F 16 = nI z) (hmk : ∀ v : Nat, v < 2000 → mk v ≤ mc) (hTI : s_TI z lo va sp) (hlo : ∀ j : Nat, j < 80 → lo j < 2 ^ 31) : Ct G yX11_lays cX11_lays 3 none ⟨5, 0, 0, 115⟩ [.ref (q_h G + 279), .int (nI (r))] ex n σ (fun v9 σ2 => v9 = none ∧ ∃ (f' : Nat → Nat), ∃ (nv' : Nat → Nat), ∃ (ns' : Nat → Nat), ∃ (mk' : Nat → Nat), ∃ (va' : Nat → Nat), ∃ (sp' : Nat → Nat), ∃ (lo' : Nat → Nat), ∃ (mc' : Nat), ∃ (z' : Nat), (s_TI z' lo' va' sp') ∧ (s_CU (s_rule g r) r va' sp') ∧ (∀ j : Nat, (j < 1681 * r ∨ 1681 * r + 1681 ≤ j) → va' j = va j ∧ sp' j = sp j) ∧ (mc' ≤ mc + 1681) ∧ (∀ v : Nat, v < 2000 → mk' v ≤ mc') ∧ (∀ j : Nat, j < 80 → lo' j < 2 ^ 31) ∧ σ2 279 = o11 G (upd (upd F 12 (nI (mc'))) 16 (nI (z'))) ∧ σ2 285 = q_bn G 1681 f' ∧ σ2 286 = q_an G 1681 nv' ∧ σ2 287 = q_an G 1681 ns' ∧ σ2 288 = q_an G 2000 mk' ∧ σ2 289 = q_an G 6724 va' ∧ σ2 290 = q_an G 6724 sp' ∧ σ2 291 = q_an G 80 lo' ∧ (∀ i : Nat, i ≠ 279 ∧ (i < 285 ∨ 291 < i) → σ2 i = σ i)) := by
  refine q_enter [some (.ref (q_h G + 279)), some (.int (nI (r))), none] (by decide) (Nat.le_of_ble_eq_true rfl) rfl ?_
  intro K hg
  obtain ⟨Q, hQ⟩ : ∃ Q, Q = q_Q G K ex n 0 0 (fun v9 n' σ' => n' = n ∧ (fun v9 σ2 => v9 = none ∧ ∃ (f' : Nat → Nat), ∃ (nv' : Nat → Nat), ∃ (ns' : Nat → Nat), ∃ (mk' : Nat → Nat), ∃ (va' : Nat → Nat), ∃ (sp' : Nat → Nat), ∃ (lo' : Nat → Nat), ∃ (mc' : Nat), ∃ (z' : Nat), (s_TI z' lo' va' sp') ∧ (s_CU (s_rule g r) r va' sp') ∧ (∀ j : Nat, (j < 1681 * r ∨ 1681 * r + 1681 ≤ j) → va' j = va j ∧ sp' j = sp j) ∧ (mc' ≤ mc + 1681) ∧ (∀ v : Nat, v < 2000 → mk' v ≤ mc') ∧ (∀ j : Nat, j < 80 → lo' j < 2 ^ 31) ∧ σ2 279 = o11 G (upd (upd F 12 (nI (mc'))) 16 (nI (z'))) ∧ σ2 285 = q_bn G 1681 f' ∧ σ2 286 = q_an G 1681 nv' ∧ σ2 287 = q_an G 1681 ns' ∧ σ2 288 = q_an G 2000 mk' ∧ σ2 289 = q_an G 6724 va' ∧ σ2 290 = q_an G 6724 sp' ∧ σ2 291 = q_an G 80 lo' ∧ (∀ i : Nat, i ≠ 279 ∧ (i < 285 ∨ 291 < i) → σ2 i = σ i)) v9 σ') q_noX := ⟨_, rfl⟩
  refine (?_ : AJ G K (q_Q G K ex n 0 0 _ _) 0 0 ex n 0 _ _ σ)
  rw [← hQ]
  have hz := hTI.1
  have hwb : ∀ j : Nat, j < 20 → s_rule g r (9 + j) ≤ 40 := s_rwf_le hw
  refine A_aload_n hg dX11_lays_0 rfl rfl ?_
  refine A_iload_n hg dX11_lays_1 rfl rfl ?_
  refine A_hV (kc2 := 0) (ks2 := 0) (As := [.int (nI (r))]) (rest := []) hg lk_RX11_129 in_X11_isLaid se_X11_isLaid rfl dX11_lays_2 ⟨by decide, by decide⟩ rfl rfl ⟨by decide, by decide⟩ hc0 (by omega) rfl rfl (Nat.le_of_ble_eq_true rfl) (c_X11_isLaid G ex n σ F g r lo z hc0 hc1 hc8 (by omega) (by omega) (by omega) hF16 (by omega) hlo) ?_
  rintro _ σ_3 (⟨rfl, ht, heq, he_1⟩ | ⟨rfl, he_2⟩)
  · skip
    rw [he_1]
    refine (?_ : AJ G K Q 0 0 ex n 5 [some (.ref (q_h G + 279)), some (.int (nI (r))), none] [.int (nI (1))] σ)
    refine A_if_eqN (tgt := 9) hg dX11_lays_5 (by decide) (by decide) (fun c5 => absurd c5 (by decide)) (fun c5 => ?_)
    have hz0 : σ 279 = o11 G (upd (upd F 12 (nI mc)) 16 (nI z)) := by rw [hc0, q_updF hF12, q_updF hF16]
    rw [hQ]
    exact A_return hg (by decide) (by decide) rfl dX11_lays_8 ⟨rfl, ⟨rfl, f, nv, ns, mk, va, sp, lo, mc, z, hTI, (s_TI_cur hTI hr ht heq), (fun _ _ => ⟨rfl, rfl⟩), by omega, hmk, hlo, hz0, hc2, hc3, hc4, hc5, hc6, hc7, hc8, (fun _ _ => rfl)⟩⟩
  · skip
    rw [he_2]
    refine (?_ : AJ G K Q 0 0 ex n 5 [some (.ref (q_h G + 279)), some (.int (nI (r))), none] [.int (nI (0))] σ)
    refine A_if_eqN (tgt := 9) hg dX11_lays_5 (by decide) (by decide) (fun c5 => ?_) (fun c5 => absurd (by decide) c5)
    refine A_aload_n hg dX11_lays_9 rfl rfl ?_
    refine A_dup hg dX11_lays_10 rfl ?_
    refine A_getf (v := .int (nI (z))) hg fl_RX11_126 dX11_lays_11 hc0 (by omega) (congrArg (fun z => some (Value.int z)) hF16) ?_
    refine A_iconst (v := (nI (1))) hg dX11_lays_14 (by decide) ?_
    refine A_iload_n hg dX11_lays_15 rfl rfl ?_
    refine A_ishl hg dX11_lays_16 ?_
    refine A_ior hg dX11_lays_17 ?_
    refine A_top (w := .int (nI (z ||| 2 ^ r))) (congrArg Value.int (q_bitset z hz r hr).1) ?_
    refine A_putf hg fl_RX11_126 dX11_lays_18 hc0 (by omega) (Nat.le_of_ble_eq_true rfl) rfl rfl rfl (fun σ_4 hc_5 hf_6 => ?_)
    have hc_5 : σ_4 279 = o11 G (upd F 16 (nI (z ||| 2 ^ r))) := hc_5
    have hc_7 : σ_4 280 = q_an G 265 g := (hf_6 _ (by omega)).trans hc1
    have hc_8 : σ_4 285 = q_bn G 1681 f := (hf_6 _ (by omega)).trans hc2
    have hc_9 : σ_4 286 = q_an G 1681 nv := (hf_6 _ (by omega)).trans hc3
    have hc_10 : σ_4 287 = q_an G 1681 ns := (hf_6 _ (by omega)).trans hc4
    have hc_11 : σ_4 288 = q_an G 2000 mk := (hf_6 _ (by omega)).trans hc5
    have hc_12 : σ_4 289 = q_an G 6724 va := (hf_6 _ (by omega)).trans hc6
    have hc_13 : σ_4 290 = q_an G 6724 sp := (hf_6 _ (by omega)).trans hc7
    have hc_14 : σ_4 291 = q_an G 80 lo := (hf_6 _ (by omega)).trans hc8
    refine A_iconst (v := (nI (0))) hg dX11_lays_21 (by decide) ?_
    refine A_istore_n hg dX11_lays_22 rfl (by decide) (q_c1d rfl) ?_
    refine A_eq (ls2 := [some (.ref (q_h G + 279)), some (.int (nI (r))), some (.int (nI (0)))]) (st2 := []) (pc2 := 0) rfl rfl ?_
    have hL23 : ∀ (fu : Nat) (k : Nat) (lo1 : Nat → Nat) (σ_15 : Nat → va_E), (σ_15 280 = q_an G 265 g) → (σ_15 285 = q_bn G 1681 f) → (σ_15 286 = q_an G 1681 nv) → (σ_15 287 = q_an G 1681 ns) → (σ_15 288 = q_an G 2000 mk) → (σ_15 289 = q_an G 6724 va) → (σ_15 290 = q_an G 6724 sp) → (σ_15 291 = q_an G 80 lo1) → (σ_15 279 = o11 G (upd F 16 (nI (z ||| 2 ^ r)))) → (∀ i : Nat, i ≠ 279 ∧ i ≠ 291 → σ_15 i = σ i) → (k ≤ 20) → (∀ j : Nat, j < k → lo1 (20 * r + j) = s_rule g r (9 + j)) → (∀ j : Nat, ¬ (20 * r ≤ j ∧ j < 20 * r + 20) → lo1 j = lo j) → (20 - k) < fu → AJ G K Q 0 0 ex n 23 [some (.ref (q_h G + 279)), some (.int (nI (r))), some (.int (nI (k)))] [] σ_15 := by
      intro fu
      induction fu with
      | zero => intro k lo1 σ_15 hc_16 hc_17 hc_18 hc_19 hc_20 hc_21 hc_22 hc_23 hc_24 hf_25 hk hl1 hl2 hm; exact absurd hm (Nat.not_lt_zero _)
      | succ fu ih23 =>
        intro k lo1 σ_15 hc_16 hc_17 hc_18 hc_19 hc_20 hc_21 hc_22 hc_23 hc_24 hf_25 hk hl1 hl2 hm23
        refine A_iload_n hg dX11_lays_23 rfl rfl ?_
        refine A_bipush (v := (nI (20))) hg dX11_lays_24 (by decide) ?_
        refine A_icmp_geN (tgt := 55) hg dX11_lays_26 (by omega) (by decide) (by decide) (fun c26 => ?_) (fun c26 => ?_)
        · skip
          refine A_aload_n hg dX11_lays_55 rfl rfl ?_
          refine A_iload_n hg dX11_lays_56 rfl rfl ?_
          refine A_vV (kc2 := 0) (ks2 := 0) (As := [.int (nI (r))]) (rest := []) hg lk_RX11_133 in_X11_laysAllowed se_X11_laysAllowed rfl dX11_lays_57 ⟨by decide, by decide⟩ rfl rfl ⟨by decide, by decide⟩ hc_24 (by omega) rfl rfl (Nat.le_of_ble_eq_true rfl) (c_X11_laysAllowed G ex n σ_15 (upd F 16 (nI (z ||| 2 ^ r))) g r f hc_24 hc_16 hc_17 (by omega) (by omega) (by omega)) ?_
          rintro σ_28 ⟨f1, hA1, hc_26, hf_27⟩
          have hc_29 : σ_28 280 = q_an G 265 g := (hf_27 _ (by omega)).trans hc_16
          have hc_30 : σ_28 286 = q_an G 1681 nv := (hf_27 _ (by omega)).trans hc_18
          have hc_31 : σ_28 287 = q_an G 1681 ns := (hf_27 _ (by omega)).trans hc_19
          have hc_32 : σ_28 288 = q_an G 2000 mk := (hf_27 _ (by omega)).trans hc_20
          have hc_33 : σ_28 289 = q_an G 6724 va := (hf_27 _ (by omega)).trans hc_21
          have hc_34 : σ_28 290 = q_an G 6724 sp := (hf_27 _ (by omega)).trans hc_22
          have hc_35 : σ_28 291 = q_an G 80 lo1 := (hf_27 _ (by omega)).trans hc_23
          have hc_36 : σ_28 279 = o11 G (upd F 16 (nI (z ||| 2 ^ r))) := (hf_27 _ (by omega)).trans hc_24
          refine A_aload_n hg dX11_lays_60 rfl rfl ?_
          refine A_vV (kc2 := 0) (ks2 := 0) (As := []) (rest := []) hg lk_RX11_137 in_X11_laysValues se_X11_laysValues rfl dX11_lays_61 ⟨by decide, by decide⟩ rfl rfl ⟨by decide, by decide⟩ hc_36 (by omega) rfl rfl (Nat.le_of_ble_eq_true rfl) (c_X11_laysValues G ex n σ_28 (upd F 16 (nI (z ||| 2 ^ r))) (s_A (s_rule g r)) f1 nv mk mc hc_36 hc_26 hc_30 hc_32 (by omega) hF12 (by omega) hA1 (s_A0 _) hmk) ?_
          rintro σ_41 ⟨nv1, mk1, hnv1, hmk1, hc_37, hc_38, hc_39, hf_40⟩
          have hc_37 : σ_41 279 = o11 G (upd (upd F 12 (nI (mc + 1681))) 16 (nI (z ||| 2 ^ r))) := hc_37
          have hc_42 : σ_41 280 = q_an G 265 g := (hf_40 _ (by omega)).trans hc_29
          have hc_43 : σ_41 287 = q_an G 1681 ns := (hf_40 _ (by omega)).trans hc_31
          have hc_44 : σ_41 289 = q_an G 6724 va := (hf_40 _ (by omega)).trans hc_33
          have hc_45 : σ_41 290 = q_an G 6724 sp := (hf_40 _ (by omega)).trans hc_34
          have hc_46 : σ_41 291 = q_an G 80 lo1 := (hf_40 _ (by omega)).trans hc_35
          have hc_47 : σ_41 285 = q_bn G 1681 f1 := (hf_40 _ (by omega)).trans hc_26
          refine A_aload_n hg dX11_lays_64 rfl rfl ?_
          refine A_vV (kc2 := 0) (ks2 := 0) (As := []) (rest := []) hg lk_RX11_140 in_X11_laysSpans se_X11_laysSpans rfl dX11_lays_65 ⟨by decide, by decide⟩ rfl rfl ⟨by decide, by decide⟩ hc_37 (by omega) rfl rfl (Nat.le_of_ble_eq_true rfl) (c_X11_laysSpans G ex n σ_41 (upd (upd F 12 (nI (mc + 1681))) 16 (nI (z ||| 2 ^ r))) (s_A (s_rule g r)) f1 nv1 ns hc_37 hc_47 hc_38 hc_43 (by omega) hA1 (s_A0 _) hnv1) ?_
          rintro σ_50 ⟨ns1, hns1, hc_48, hf_49⟩
          have hc_51 : σ_50 280 = q_an G 265 g := (hf_49 _ (by omega)).trans hc_42
          have hc_52 : σ_50 289 = q_an G 6724 va := (hf_49 _ (by omega)).trans hc_44
          have hc_53 : σ_50 290 = q_an G 6724 sp := (hf_49 _ (by omega)).trans hc_45
          have hc_54 : σ_50 291 = q_an G 80 lo1 := (hf_49 _ (by omega)).trans hc_46
          have hc_55 : σ_50 285 = q_bn G 1681 f1 := (hf_49 _ (by omega)).trans hc_47
          have hc_56 : σ_50 279 = o11 G (upd (upd F 12 (nI (mc + 1681))) 16 (nI (z ||| 2 ^ r))) := (hf_49 _ (by omega)).trans hc_37
          have hc_57 : σ_50 286 = q_an G 1681 nv1 := (hf_49 _ (by omega)).trans hc_38
          have hc_58 : σ_50 288 = q_an G 2000 mk1 := (hf_49 _ (by omega)).trans hc_39
          refine A_iconst (v := (nI (0))) hg dX11_lays_68 (by decide) ?_
          refine A_istore_n hg dX11_lays_69 rfl (by decide) (q_c1d rfl) ?_
          refine A_eq (ls2 := [some (.ref (q_h G + 279)), some (.int (nI (r))), some (.int (nI (0)))]) (st2 := []) (pc2 := 0) rfl rfl ?_
          have hL70 : ∀ (fu : Nat) (p : Nat) (va1 : Nat → Nat) (sp1 : Nat → Nat) (σ_59 : Nat → va_E), (σ_59 280 = q_an G 265 g) → (σ_59 289 = q_an G 6724 va1) → (σ_59 290 = q_an G 6724 sp1) → (σ_59 291 = q_an G 80 lo1) → (σ_59 285 = q_bn G 1681 f1) → (σ_59 279 = o11 G (upd (upd F 12 (nI (mc + 1681))) 16 (nI (z ||| 2 ^ r)))) → (σ_59 286 = q_an G 1681 nv1) → (σ_59 288 = q_an G 2000 mk1) → (σ_59 287 = q_an G 1681 ns1) → (∀ i : Nat, i ≠ 279 ∧ (i < 285 ∨ 291 < i) → σ_59 i = σ i) → (p ≤ 1681) → (∀ j : Nat, j < p → va1 (1681 * r + j) = nv1 j) → (∀ j : Nat, j < p → sp1 (1681 * r + j) = ns1 j) → (∀ j : Nat, (j < 1681 * r ∨ 1681 * r + 1681 ≤ j) → va1 j = va j) → (∀ j : Nat, (j < 1681 * r ∨ 1681 * r + 1681 ≤ j) → sp1 j = sp j) → (1681 - p) < fu → AJ G K Q 0 0 ex n 70 [some (.ref (q_h G + 279)), some (.int (nI (r))), some (.int (nI (p)))] [] σ_59 := by
            intro fu
            induction fu with
            | zero => intro p va1 sp1 σ_59 hc_60 hc_61 hc_62 hc_63 hc_64 hc_65 hc_66 hc_67 hc_68 hf_69 hp hv1 hs1 hv2 hs2 hm; exact absurd hm (Nat.not_lt_zero _)
            | succ fu ih70 =>
              intro p va1 sp1 σ_59 hc_60 hc_61 hc_62 hc_63 hc_64 hc_65 hc_66 hc_67 hc_68 hf_69 hp hv1 hs1 hv2 hs2 hm70
              refine A_iload_n hg dX11_lays_70 rfl rfl ?_
              refine A_sipush (v := (nI (1681))) hg dX11_lays_71 (by decide) ?_
              refine A_icmp_geN (tgt := 119) hg dX11_lays_74 (by omega) (by decide) (by decide) (fun c74 => ?_) (fun c74 => ?_)
              · skip
                have hCU1 : s_CU (s_rule g r) r va1 sp1 := fun q hq => ⟨by rw [hv1 q (by omega), hnv1 q hq]; rfl, by rw [hs1 q (by omega), hns1 q hq]; rfl⟩
                have hkp1 : ∀ j : Nat, (j < 1681 * r ∨ 1681 * r + 1681 ≤ j) → va1 j = va j ∧ sp1 j = sp j := fun j hj => ⟨hv2 j hj, hs2 j hj⟩
                have hlo3 : ∀ j : Nat, j < 80 → lo1 j < 2 ^ 31 := fun j hj => by
                  by_cases e : 20 * r ≤ j ∧ j < 20 * r + 20
                  · have h1 := hl1 (j - 20 * r) (by omega)
                    have h2 := hwb (j - 20 * r) (by omega)
                    rw [show 20 * r + (j - 20 * r) = j by omega] at h1; omega
                  · rw [hl2 j e]; exact hlo j hj
                rw [hQ]
                exact A_return hg (by decide) (by decide) rfl dX11_lays_119 ⟨rfl, ⟨rfl, f1, nv1, ns1, mk1, va1, sp1, lo1, (mc + 1681), (z ||| 2 ^ r), (s_TI_set hTI hr hw (fun q hq => hl1 q (by omega)) hl2 hCU1 hkp1), hCU1, hkp1, (Nat.le_refl _), hmk1, hlo3, hc_65, hc_64, hc_66, hc_68, hc_67, hc_61, hc_62, hc_63, (fun i hi => (hf_69 i (by omega)))⟩⟩
              · skip
                refine A_aload_n hg dX11_lays_77 rfl rfl ?_
                refine A_getf (v := .ref (q_h G + 289)) hg fl_RX11_38 dX11_lays_78 hc_65 (by omega) rfl ?_
                refine A_sipush (v := (nI (1681))) hg dX11_lays_81 (by decide) ?_
                refine A_iload_n hg dX11_lays_84 rfl rfl ?_
                refine A_imulN hg dX11_lays_85 ?_
                refine A_iload_n hg dX11_lays_86 rfl rfl ?_
                refine A_iaddN hg dX11_lays_87 ?_
                refine A_aload_n hg dX11_lays_88 rfl rfl ?_
                refine A_getf (v := .ref (q_h G + 286)) hg fl_RX11_29 dX11_lays_89 hc_65 (by omega) rfl ?_
                refine A_iload_n hg dX11_lays_92 rfl rfl ?_
                refine A_iald (j := p) hg dX11_lays_93 hc_66 (by omega) (by omega) (by decide) ?_
                refine A_iast (j := ((1681 * r) + p)) (x := (nv1 p)) hg dX11_lays_94 hc_61 (by omega) (by omega) (by decide) (fun σ_70 hc_71 hf_72 => ?_)
                have hc_73 : σ_70 280 = q_an G 265 g := (hf_72 _ (by omega)).trans hc_60
                have hc_74 : σ_70 290 = q_an G 6724 sp1 := (hf_72 _ (by omega)).trans hc_62
                have hc_75 : σ_70 291 = q_an G 80 lo1 := (hf_72 _ (by omega)).trans hc_63
                have hc_76 : σ_70 285 = q_bn G 1681 f1 := (hf_72 _ (by omega)).trans hc_64
                have hc_77 : σ_70 279 = o11 G (upd (upd F 12 (nI (mc + 1681))) 16 (nI (z ||| 2 ^ r))) := (hf_72 _ (by omega)).trans hc_65
                have hc_78 : σ_70 286 = q_an G 1681 nv1 := (hf_72 _ (by omega)).trans hc_66
                have hc_79 : σ_70 288 = q_an G 2000 mk1 := (hf_72 _ (by omega)).trans hc_67
                have hc_80 : σ_70 287 = q_an G 1681 ns1 := (hf_72 _ (by omega)).trans hc_68
                refine A_aload_n hg dX11_lays_95 rfl rfl ?_
                refine A_getf (v := .ref (q_h G + 290)) hg fl_RX11_41 dX11_lays_96 hc_77 (by omega) rfl ?_
                refine A_sipush (v := (nI (1681))) hg dX11_lays_99 (by decide) ?_
                refine A_iload_n hg dX11_lays_102 rfl rfl ?_
                refine A_imulN hg dX11_lays_103 ?_
                refine A_iload_n hg dX11_lays_104 rfl rfl ?_
                refine A_iaddN hg dX11_lays_105 ?_
                refine A_aload_n hg dX11_lays_106 rfl rfl ?_
                refine A_getf (v := .ref (q_h G + 287)) hg fl_RX11_32 dX11_lays_107 hc_77 (by omega) rfl ?_
                refine A_iload_n hg dX11_lays_110 rfl rfl ?_
                refine A_iald (j := p) hg dX11_lays_111 hc_80 (by omega) (by omega) (by decide) ?_
                refine A_iast (j := ((1681 * r) + p)) (x := (ns1 p)) hg dX11_lays_112 hc_74 (by omega) (by omega) (by decide) (fun σ_81 hc_82 hf_83 => ?_)
                have hc_84 : σ_81 280 = q_an G 265 g := (hf_83 _ (by omega)).trans hc_73
                have hc_85 : σ_81 291 = q_an G 80 lo1 := (hf_83 _ (by omega)).trans hc_75
                have hc_86 : σ_81 285 = q_bn G 1681 f1 := (hf_83 _ (by omega)).trans hc_76
                have hc_87 : σ_81 279 = o11 G (upd (upd F 12 (nI (mc + 1681))) 16 (nI (z ||| 2 ^ r))) := (hf_83 _ (by omega)).trans hc_77
                have hc_88 : σ_81 286 = q_an G 1681 nv1 := (hf_83 _ (by omega)).trans hc_78
                have hc_89 : σ_81 288 = q_an G 2000 mk1 := (hf_83 _ (by omega)).trans hc_79
                have hc_90 : σ_81 287 = q_an G 1681 ns1 := (hf_83 _ (by omega)).trans hc_80
                have hc_91 : σ_81 289 = q_an G 6724 (va_up va1 ((1681 * r) + p) (nv1 p)) := (hf_83 _ (by omega)).trans hc_71
                refine A_iincN (k' := 1) hg dX11_lays_113 (by decide) rfl (by decide) (q_c1d rfl) ?_
                refine A_eq (ls2 := [some (.ref (q_h G + 279)), some (.int (nI (r))), some (.int (nI (p + 1)))]) (st2 := []) (pc2 := 0) rfl rfl ?_
                refine A_goto (tgt := 70) hg dX11_lays_116 (by decide) ?_
                exact ih70 (p + 1) (va_up va1 ((1681 * r) + p) (nv1 p)) (va_up sp1 ((1681 * r) + p) (ns1 p)) σ_81 hc_84 hc_91 hc_82 hc_85 hc_86 hc_87 hc_88 hc_89 hc_90 (fun i hi => ((hf_83 i (by omega)).trans ((hf_72 i (by omega)).trans (hf_69 i (by omega))))) (by omega) (q_fillA (f0 := va) hv1 rfl) (q_fillA (f0 := va) hs1 rfl) (q_outA hv2 (by omega)) (q_outA hs2 (by omega)) (by omega)
          exact hL70 _ 0 va sp σ_50 hc_51 hc_52 hc_53 hc_54 hc_55 hc_56 hc_57 hc_58 hc_48 (fun i hi => ((hf_49 i (by omega)).trans ((hf_40 i (by omega)).trans ((hf_27 i (by omega)).trans (hf_25 i (by omega)))))) (by omega) (fun j h => absurd h (Nat.not_lt_zero j)) (fun j h => absurd h (Nat.not_lt_zero j)) (fun _ _ => rfl) (fun _ _ => rfl) (Nat.lt_succ_self _)
        · skip
          refine A_aload_n hg dX11_lays_29 rfl rfl ?_
          refine A_getf (v := .ref (q_h G + 291)) hg fl_RX11_44 dX11_lays_30 hc_24 (by omega) rfl ?_
          refine A_bipush (v := (nI (20))) hg dX11_lays_33 (by decide) ?_
          refine A_iload_n hg dX11_lays_35 rfl rfl ?_
          refine A_imulN hg dX11_lays_36 ?_
          refine A_iload_n hg dX11_lays_37 rfl rfl ?_
          refine A_iaddN hg dX11_lays_38 ?_
          refine A_aload_n hg dX11_lays_39 rfl rfl ?_
          refine A_iload_n hg dX11_lays_40 rfl rfl ?_
          refine A_bipush (v := (nI (9))) hg dX11_lays_41 (by decide) ?_
          refine A_iload_n hg dX11_lays_43 rfl rfl ?_
          refine A_iaddN hg dX11_lays_44 ?_
          refine A_eV (kc2 := 0) (ks2 := 0) (As := [.int (nI (r)), .int (nI (9 + k))]) (rest := [.int (nI ((20 * r) + k)), .ref (q_h G + 291)]) hg lk_RX11_85 in_X11_of se_X11_of rfl dX11_lays_45 ⟨by decide, by decide⟩ rfl rfl ⟨by decide, by decide⟩ hc_24 (by omega) rfl rfl (Nat.le_of_ble_eq_true rfl) (c_X11_of G ex n σ_15 (upd F 16 (nI (z ||| 2 ^ r))) g r (9 + k) hc_24 hc_16 (by omega) (by omega)) ?_
          refine A_iast (j := ((20 * r) + k)) (x := (s_rule g r (9 + k))) hg dX11_lays_48 hc_23 (by omega) (by omega) (by decide) (fun σ_92 hc_93 hf_94 => ?_)
          have hc_95 : σ_92 280 = q_an G 265 g := (hf_94 _ (by omega)).trans hc_16
          have hc_96 : σ_92 285 = q_bn G 1681 f := (hf_94 _ (by omega)).trans hc_17
          have hc_97 : σ_92 286 = q_an G 1681 nv := (hf_94 _ (by omega)).trans hc_18
          have hc_98 : σ_92 287 = q_an G 1681 ns := (hf_94 _ (by omega)).trans hc_19
          have hc_99 : σ_92 288 = q_an G 2000 mk := (hf_94 _ (by omega)).trans hc_20
          have hc_100 : σ_92 289 = q_an G 6724 va := (hf_94 _ (by omega)).trans hc_21
          have hc_101 : σ_92 290 = q_an G 6724 sp := (hf_94 _ (by omega)).trans hc_22
          have hc_102 : σ_92 279 = o11 G (upd F 16 (nI (z ||| 2 ^ r))) := (hf_94 _ (by omega)).trans hc_24
          refine A_iincN (k' := 1) hg dX11_lays_49 (by decide) rfl (by decide) (q_c1d rfl) ?_
          refine A_eq (ls2 := [some (.ref (q_h G + 279)), some (.int (nI (r))), some (.int (nI (k + 1)))]) (st2 := []) (pc2 := 0) rfl rfl ?_
          refine A_goto (tgt := 23) hg dX11_lays_52 (by decide) ?_
          exact ih23 (k + 1) (va_up lo1 ((20 * r) + k) (s_rule g r (9 + k))) σ_92 hc_95 hc_96 hc_97 hc_98 hc_99 hc_100 hc_101 hc_93 hc_102 (fun i hi => ((hf_94 i (by omega)).trans (hf_25 i (by omega)))) (by omega) (q_fillA (f0 := lo) hl1 rfl) (q_outA hl2 (by omega)) (by omega)
    exact hL23 _ 0 lo σ_4 hc_7 hc_8 hc_9 hc_10 hc_11 hc_12 hc_13 hc_14 hc_5 (fun i hi => (hf_6 i (by omega))) (by omega) (fun j h => absurd h (Nat.not_lt_zero j)) (fun _ _ => rfl) (Nat.lt_succ_self _)
set_option maxRecDepth 100000 in
set_option maxHeartbeats 4000000 in
theorem c_X11_laysAll (G : GL) (ex : Bool) (n : Nat) (σ : Nat → va_E) (F : Nat → Int32) (g : Nat → Nat) (f : Nat → Nat) (nv : Nat → Nat) (ns : Nat → Nat) (mk : Nat → Nat) (va : Nat → Nat) (sp : Nat → Nat) (lo : Nat → Nat) (mc : Nat) (z : Nat) (hc0 : σ 279 = o11 G F) (hc1 : σ 280 = q_an G 265 g) (hc2 : σ 285 = q_bn G 1681 f) (hc3 : σ 286 = q_an G 1681 nv) (hc4 : σ 287 = q_an G 1681 ns) (hc5 : σ 288 = q_an G 2000 mk) (hc6 : σ 289 = q_an G 6724 va) (hc7 : σ 290 = q_an G 6724 sp) (hc8 : σ 291 = q_an G 80 lo) (hn : 294 ≤ n) (hnr : g 0 ≤ 4) (hwf : ∀ r : Nat, r < g 0 → s_rwf (s_rule g r)) (hmc : mc + 6724 < 2 ^ 31) (hF12 : F 12 = nI mc) (hF16 : F 16 = nI z) (hmk : ∀ v : Nat, v < 2000 → mk v ≤ mc) (hTI : s_TI z lo va sp) (hlo : ∀ j : Nat, j < 80 → lo j < 2 ^ 31) : Ct G yX11_laysAll cX11_laysAll 2 none ⟨6, 0, 0, 137⟩ [.ref (q_h G + 279)] ex n σ (fun v9 σ2 => v9 = none ∧ ∃ (f' : Nat → Nat), ∃ (nv' : Nat → Nat), ∃ (ns' : Nat → Nat), ∃ (mk' : Nat → Nat), ∃ (va' : Nat → Nat), ∃ (sp' : Nat → Nat), ∃ (lo' : Nat → Nat), ∃ (mc' : Nat), ∃ (z' : Nat), (s_TI z' lo' va' sp') ∧ (∀ r : Nat, r < g 0 → s_CU (s_rule g r) r va' sp') ∧ (mc' ≤ mc + 6724) ∧ (∀ v : Nat, v < 2000 → mk' v ≤ mc') ∧ (∀ j : Nat, j < 80 → lo' j < 2 ^ 31) ∧ σ2 279 = o11 G (upd (upd F 12 (nI (mc'))) 16 (nI (z'))) ∧ σ2 285 = q_bn G 1681 f' ∧ σ2 286 = q_an G 1681 nv' ∧ σ2 287 = q_an G 1681 ns' ∧ σ2 288 = q_an G 2000 mk' ∧ σ2 289 = q_an G 6724 va' ∧ σ2 290 = q_an G 6724 sp' ∧ σ2 291 = q_an G 80 lo' ∧ (∀ i : Nat, i ≠ 279 ∧ (i < 285 ∨ 291 < i) → σ2 i = σ i)) := by
  refine q_enter [some (.ref (q_h G + 279)), none] (by decide) (Nat.le_of_ble_eq_true rfl) rfl ?_
  intro K hg
  obtain ⟨Q, hQ⟩ : ∃ Q, Q = q_Q G K ex n 0 0 (fun v9 n' σ' => n' = n ∧ (fun v9 σ2 => v9 = none ∧ ∃ (f' : Nat → Nat), ∃ (nv' : Nat → Nat), ∃ (ns' : Nat → Nat), ∃ (mk' : Nat → Nat), ∃ (va' : Nat → Nat), ∃ (sp' : Nat → Nat), ∃ (lo' : Nat → Nat), ∃ (mc' : Nat), ∃ (z' : Nat), (s_TI z' lo' va' sp') ∧ (∀ r : Nat, r < g 0 → s_CU (s_rule g r) r va' sp') ∧ (mc' ≤ mc + 6724) ∧ (∀ v : Nat, v < 2000 → mk' v ≤ mc') ∧ (∀ j : Nat, j < 80 → lo' j < 2 ^ 31) ∧ σ2 279 = o11 G (upd (upd F 12 (nI (mc'))) 16 (nI (z'))) ∧ σ2 285 = q_bn G 1681 f' ∧ σ2 286 = q_an G 1681 nv' ∧ σ2 287 = q_an G 1681 ns' ∧ σ2 288 = q_an G 2000 mk' ∧ σ2 289 = q_an G 6724 va' ∧ σ2 290 = q_an G 6724 sp' ∧ σ2 291 = q_an G 80 lo' ∧ (∀ i : Nat, i ≠ 279 ∧ (i < 285 ∨ 291 < i) → σ2 i = σ i)) v9 σ') q_noX := ⟨_, rfl⟩
  refine (?_ : AJ G K (q_Q G K ex n 0 0 _ _) 0 0 ex n 0 _ _ σ)
  rw [← hQ]
  refine A_iconst (v := (nI (0))) hg dX11_laysAll_0 (by decide) ?_
  refine A_istore_n hg dX11_laysAll_1 rfl (by decide) (q_c1d rfl) ?_
  refine A_eq (ls2 := [some (.ref (q_h G + 279)), some (.int (nI (0)))]) (st2 := []) (pc2 := 0) rfl rfl ?_
  have hL2 : ∀ (fu : Nat) (r : Nat) (f1 : Nat → Nat) (nv1 : Nat → Nat) (ns1 : Nat → Nat) (mk1 : Nat → Nat) (va1 : Nat → Nat) (sp1 : Nat → Nat) (lo1 : Nat → Nat) (mc1 : Nat) (z1 : Nat) (σ_1 : Nat → va_E), (σ_1 279 = o11 G (upd (upd F 12 (nI (mc1))) 16 (nI (z1)))) → (σ_1 280 = q_an G 265 g) → (σ_1 285 = q_bn G 1681 f1) → (σ_1 286 = q_an G 1681 nv1) → (σ_1 287 = q_an G 1681 ns1) → (σ_1 288 = q_an G 2000 mk1) → (σ_1 289 = q_an G 6724 va1) → (σ_1 290 = q_an G 6724 sp1) → (σ_1 291 = q_an G 80 lo1) → (∀ i : Nat, i ≠ 279 ∧ (i < 285 ∨ 291 < i) → σ_1 i = σ i) → (r ≤ g 0) → (s_TI z1 lo1 va1 sp1) → (∀ q : Nat, q < r → s_CU (s_rule g q) q va1 sp1) → (mc1 ≤ mc + 1681 * r) → (∀ v : Nat, v < 2000 → mk1 v ≤ mc1) → (∀ j : Nat, j < 80 → lo1 j < 2 ^ 31) → (g 0 - r) < fu → AJ G K Q 0 0 ex n 2 [some (.ref (q_h G + 279)), some (.int (nI (r)))] [] σ_1 := by
    intro fu
    induction fu with
    | zero => intro r f1 nv1 ns1 mk1 va1 sp1 lo1 mc1 z1 σ_1 hc_2 hc_3 hc_4 hc_5 hc_6 hc_7 hc_8 hc_9 hc_10 hf_11 hr hTI1 hCU1 hmc1 hmk1 hlo1 hm; exact absurd hm (Nat.not_lt_zero _)
    | succ fu ih2 =>
      intro r f1 nv1 ns1 mk1 va1 sp1 lo1 mc1 z1 σ_1 hc_2 hc_3 hc_4 hc_5 hc_6 hc_7 hc_8 hc_9 hc_10 hf_11 hr hTI1 hCU1 hmc1 hmk1 hlo1 hm2
      refine A_iload_n hg dX11_laysAll_2 rfl rfl ?_
      refine A_aload_n hg dX11_laysAll_3 rfl rfl ?_
      refine A_getf (v := .ref (q_h G + 280)) hg fl_RX11_7 dX11_laysAll_4 hc_2 (by omega) rfl ?_
      refine A_iconst (v := (nI (0))) hg dX11_laysAll_7 (by decide) ?_
      refine A_iald (j := 0) hg dX11_laysAll_8 hc_3 (by omega) (by omega) (by decide) ?_
      refine A_icmp_geN (tgt := 23) hg dX11_laysAll_9 (by omega) (by omega) (by decide) (fun c9 => ?_) (fun c9 => ?_)
      · skip
        rw [hQ]
        exact A_return hg (by decide) (by decide) rfl dX11_laysAll_23 ⟨rfl, ⟨rfl, f1, nv1, ns1, mk1, va1, sp1, lo1, mc1, z1, hTI1, (fun q hq => hCU1 q (by omega)), by omega, hmk1, hlo1, hc_2, hc_4, hc_5, hc_6, hc_7, hc_8, hc_9, hc_10, (fun i hi => (hf_11 i (by omega)))⟩⟩
      · skip
        refine A_aload_n hg dX11_laysAll_12 rfl rfl ?_
        refine A_iload_n hg dX11_laysAll_13 rfl rfl ?_
        refine A_vV (kc2 := 0) (ks2 := 0) (As := [.int (nI (r))]) (rest := []) hg lk_RX11_143 in_X11_lays se_X11_lays rfl dX11_laysAll_14 ⟨by decide, by decide⟩ rfl rfl ⟨by decide, by decide⟩ hc_2 (by omega) rfl rfl (Nat.le_of_ble_eq_true rfl) (c_X11_lays G ex n σ_1 (upd (upd F 12 (nI (mc1))) 16 (nI (z1))) g r f1 nv1 ns1 mk1 va1 sp1 lo1 mc1 z1 hc_2 hc_3 hc_4 hc_5 hc_6 hc_7 hc_8 hc_9 hc_10 (by omega) (by omega) (hwf r (by omega)) (by omega) rfl rfl hmk1 hTI1 hlo1) ?_
        rintro σ_30 ⟨f'_12, nv'_13, ns'_14, mk'_15, va'_16, sp'_17, lo'_18, mc'_19, z'_20, hTI2, hCU2, hkp2, hmc2, hmk2, hlo2, hc_21, hc_22, hc_23, hc_24, hc_25, hc_26, hc_27, hc_28, hf_29⟩
        have hc_21 : σ_30 279 = o11 G (upd (upd F 12 (nI (mc'_19))) 16 (nI (z'_20))) := hc_21
        have hc_31 : σ_30 280 = q_an G 265 g := (hf_29 _ (by omega)).trans hc_3
        have hCU3 : ∀ q : Nat, q < r + 1 → s_CU (s_rule g q) q va'_16 sp'_17 := fun q hq => by
          by_cases e : q = r
          · rw [e]; exact hCU2
          · intro p hp
            have h1 := hkp2 (1681 * q + p) (by omega)
            rw [h1.1, h1.2]; exact hCU1 q (by omega) p hp
        refine A_iincN (k' := 1) hg dX11_laysAll_17 (by decide) rfl (by decide) (q_c1d rfl) ?_
        refine A_eq (ls2 := [some (.ref (q_h G + 279)), some (.int (nI (r + 1)))]) (st2 := []) (pc2 := 0) rfl rfl ?_
        refine A_goto (tgt := 2) hg dX11_laysAll_20 (by decide) ?_
        exact ih2 (r + 1) f'_12 nv'_13 ns'_14 mk'_15 va'_16 sp'_17 lo'_18 mc'_19 z'_20 σ_30 hc_21 hc_31 hc_22 hc_23 hc_24 hc_25 hc_26 hc_27 hc_28 (fun i hi => ((hf_29 i (by omega)).trans (hf_11 i (by omega)))) (by omega) hTI2 hCU3 (by omega) hmk2 hlo2 (by omega)
  have hc_32 : σ 279 = o11 G (upd (upd F 12 (nI (mc))) 16 (nI (z))) := by rw [hc0, q_updF hF12, q_updF hF16]
  exact hL2 _ 0 f nv ns mk va sp lo mc z σ hc_32 hc1 hc2 hc3 hc4 hc5 hc6 hc7 hc8 (fun _ _ => rfl) (by omega) hTI (fun q h => absurd h (Nat.not_lt_zero q)) (by omega) hmk hlo (Nat.lt_succ_self _)
set_option maxRecDepth 100000 in
set_option maxHeartbeats 4000000 in
theorem c_X11_copies (G : GL) (ex : Bool) (n : Nat) (σ : Nat → va_E) (a : Nat) (b : Nat) (la : Nat) (lb : Nat) (fa : Nat → Nat) (fb : Nat → Nat) (x : Nat) (y : Nat) (hc0 : σ a = q_an G (la) fa) (hc1 : σ b = q_an G (lb) fb) (hn : 294 ≤ n) (hab : a ≠ b) (han : a < 294) (hbn : b < 294) (hx : x + 265 ≤ la) (hy : y + 265 ≤ lb) (hla : la < 2 ^ 30) (hlb : lb < 2 ^ 30) : Ct G yX11_copies cX11_copies 5 none ⟨0, 0, 0, 0⟩ [.ref (q_h G + a), .int (nI (x)), .ref (q_h G + b), .int (nI (y))] ex n σ (fun v9 σ2 => v9 = none ∧ ∃ (fb' : Nat → Nat), (∀ k : Nat, k < 265 → fb' (y + k) = fa (x + k)) ∧ (∀ j : Nat, (j < y ∨ y + 265 ≤ j) → fb' j = fb j) ∧ σ2 b = q_an G (lb) fb' ∧ (∀ i : Nat, i ≠ b → σ2 i = σ i)) := by
  refine q_enter [some (.ref (q_h G + a)), some (.int (nI (x))), some (.ref (q_h G + b)), some (.int (nI (y))), none] (by decide) (Nat.le_of_ble_eq_true rfl) rfl ?_
  intro K hg
  obtain ⟨Q, hQ⟩ : ∃ Q, Q = q_Q G K ex n 0 0 (fun v9 n' σ' => n' = n ∧ (fun v9 σ2 => v9 = none ∧ ∃ (fb' : Nat → Nat), (∀ k : Nat, k < 265 → fb' (y + k) = fa (x + k)) ∧ (∀ j : Nat, (j < y ∨ y + 265 ≤ j) → fb' j = fb j) ∧ σ2 b = q_an G (lb) fb' ∧ (∀ i : Nat, i ≠ b → σ2 i = σ i)) v9 σ') q_noX := ⟨_, rfl⟩
  refine (?_ : AJ G K (q_Q G K ex n 0 0 _ _) 0 0 ex n 0 _ _ σ)
  rw [← hQ]
  refine A_iconst (v := (nI (0))) hg dX11_copies_0 (by decide) ?_
  refine A_istore hg dX11_copies_1 (by decide) (q_c1d rfl) ?_
  refine A_eq (ls2 := [some (.ref (q_h G + a)), some (.int (nI (x))), some (.ref (q_h G + b)), some (.int (nI (y))), some (.int (nI (0)))]) (st2 := []) (pc2 := 0) rfl rfl ?_
  have hL3 : ∀ (fu : Nat) (k : Nat) (fb1 : Nat → Nat) (σ_1 : Nat → va_E), (σ_1 a = q_an G (la) fa) → (σ_1 b = q_an G (lb) fb1) → (∀ i : Nat, i ≠ b → σ_1 i = σ i) → (k ≤ 265) → (∀ j : Nat, j < k → fb1 (y + j) = fa (x + j)) → (∀ j : Nat, (j < y ∨ y + 265 ≤ j) → fb1 j = fb j) → (265 - k) < fu → AJ G K Q 0 0 ex n 3 [some (.ref (q_h G + a)), some (.int (nI (x))), some (.ref (q_h G + b)), some (.int (nI (y))), some (.int (nI (k)))] [] σ_1 := by
    intro fu
    induction fu with
    | zero => intro k fb1 σ_1 hc_2 hc_3 hf_4 hk h1 h2 hm; exact absurd hm (Nat.not_lt_zero _)
    | succ fu ih3 =>
      intro k fb1 σ_1 hc_2 hc_3 hf_4 hk h1 h2 hm3
      refine A_iload hg dX11_copies_3 rfl ?_
      refine A_sipush (v := (nI (265))) hg dX11_copies_5 (by decide) ?_
      refine A_icmp_geN (tgt := 29) hg dX11_copies_8 (by omega) (by decide) (by decide) (fun c8 => ?_) (fun c8 => ?_)
      · skip
        rw [hQ]
        exact A_return hg (by decide) (by decide) rfl dX11_copies_29 ⟨rfl, ⟨rfl, fb1, (fun j hj => h1 j (by omega)), h2, hc_3, (fun i hi => (hf_4 i (by omega)))⟩⟩
      · skip
        refine A_aload_n hg dX11_copies_11 rfl rfl ?_
        refine A_iload_n hg dX11_copies_12 rfl rfl ?_
        refine A_iload hg dX11_copies_13 rfl ?_
        refine A_iaddN hg dX11_copies_15 ?_
        refine A_aload_n hg dX11_copies_16 rfl rfl ?_
        refine A_iload_n hg dX11_copies_17 rfl rfl ?_
        refine A_iload hg dX11_copies_18 rfl ?_
        refine A_iaddN hg dX11_copies_20 ?_
        refine A_iald (j := (x + k)) hg dX11_copies_21 hc_2 (by omega) (by omega) (by omega) ?_
        refine A_iast (j := (y + k)) (x := (fa (x + k))) hg dX11_copies_22 hc_3 (by omega) (by omega) (by omega) (fun σ_5 hc_6 hf_7 => ?_)
        have hc_8 : σ_5 a = q_an G (la) fa := (hf_7 _ (by omega)).trans hc_2
        refine A_iincN (k' := 1) hg dX11_copies_23 (by decide) rfl (by decide) (q_c1d rfl) ?_
        refine A_eq (ls2 := [some (.ref (q_h G + a)), some (.int (nI (x))), some (.ref (q_h G + b)), some (.int (nI (y))), some (.int (nI (k + 1)))]) (st2 := []) (pc2 := 0) rfl rfl ?_
        refine A_goto (tgt := 3) hg dX11_copies_26 (by decide) ?_
        exact ih3 (k + 1) (va_up fb1 (y + k) (fa (x + k))) σ_5 hc_8 hc_6 (fun i hi => ((hf_7 i (by omega)).trans (hf_4 i (by omega)))) (by omega) (q_fillA (f0 := fb) (h := fun j => fa (x + j)) h1 rfl) (q_outA h2 (by omega)) (by omega)
  exact hL3 _ 0 fb σ hc0 hc1 (fun _ _ => rfl) (by omega) (fun j h => absurd h (Nat.not_lt_zero j)) (fun _ _ => rfl) (Nat.lt_succ_self _)
set_option maxRecDepth 100000 in
set_option maxHeartbeats 4000000 in
theorem c_X11_begins (G : GL) (ex : Bool) (n : Nat) (σ : Nat → va_E) (F : Nat → Int32) (g : Nat → Nat) (hc0 : σ 279 = o11 G F) (hc1 : σ 280 = q_an G 265 g) (hn : 294 ≤ n) : Ct G yX11_begins cX11_begins 2 none ⟨0, 0, 0, 0⟩ [.ref (q_h G + 279)] ex n σ (fun v9 σ2 => v9 = none ∧ ∃ (g' : Nat → Nat), (∀ k : Nat, k < 265 → g' k = if k = 5 then 1 else 0) ∧ σ2 280 = q_an G 265 g' ∧ (∀ i : Nat, i ≠ 280 → σ2 i = σ i)) := by
  refine q_enter [some (.ref (q_h G + 279)), none] (by decide) (Nat.le_of_ble_eq_true rfl) rfl ?_
  intro K hg
  obtain ⟨Q, hQ⟩ : ∃ Q, Q = q_Q G K ex n 0 0 (fun v9 n' σ' => n' = n ∧ (fun v9 σ2 => v9 = none ∧ ∃ (g' : Nat → Nat), (∀ k : Nat, k < 265 → g' k = if k = 5 then 1 else 0) ∧ σ2 280 = q_an G 265 g' ∧ (∀ i : Nat, i ≠ 280 → σ2 i = σ i)) v9 σ') q_noX := ⟨_, rfl⟩
  refine (?_ : AJ G K (q_Q G K ex n 0 0 _ _) 0 0 ex n 0 _ _ σ)
  rw [← hQ]
  refine A_iconst (v := (nI (0))) hg dX11_begins_0 (by decide) ?_
  refine A_istore_n hg dX11_begins_1 rfl (by decide) (q_c1d rfl) ?_
  refine A_eq (ls2 := [some (.ref (q_h G + 279)), some (.int (nI (0)))]) (st2 := []) (pc2 := 0) rfl rfl ?_
  have hL2 : ∀ (fu : Nat) (k : Nat) (g1 : Nat → Nat) (σ_1 : Nat → va_E), (σ_1 279 = o11 G F) → (σ_1 280 = q_an G 265 g1) → (∀ i : Nat, i ≠ 280 → σ_1 i = σ i) → (k ≤ 265) → (∀ j : Nat, j < k → g1 j = 0) → (265 - k) < fu → AJ G K Q 0 0 ex n 2 [some (.ref (q_h G + 279)), some (.int (nI (k)))] [] σ_1 := by
    intro fu
    induction fu with
    | zero => intro k g1 σ_1 hc_2 hc_3 hf_4 hk h1 hm; exact absurd hm (Nat.not_lt_zero _)
    | succ fu ih2 =>
      intro k g1 σ_1 hc_2 hc_3 hf_4 hk h1 hm2
      refine A_iload_n hg dX11_begins_2 rfl rfl ?_
      refine A_sipush (v := (nI (265))) hg dX11_begins_3 (by decide) ?_
      refine A_icmp_geN (tgt := 22) hg dX11_begins_6 (by omega) (by decide) (by decide) (fun c6 => ?_) (fun c6 => ?_)
      · skip
        refine A_aload_n hg dX11_begins_22 rfl rfl ?_
        refine A_getf (v := .ref (q_h G + 280)) hg fl_RX11_7 dX11_begins_23 hc_2 (by omega) rfl ?_
        refine A_iconst (v := (nI (5))) hg dX11_begins_26 (by decide) ?_
        refine A_iconst (v := (nI (1))) hg dX11_begins_27 (by decide) ?_
        refine A_iast (j := 5) (x := 1) hg dX11_begins_28 hc_3 (by omega) (by omega) (by decide) (fun σ_5 hc_6 hf_7 => ?_)
        have hc_8 : σ_5 279 = o11 G F := (hf_7 _ (by omega)).trans hc_2
        rw [hQ]
        exact A_return hg (by decide) (by decide) rfl dX11_begins_29 ⟨rfl, ⟨rfl, _, (fun j hj => by by_cases e : j = 5 <;> simp [va_up, e, h1 j (by omega)]), hc_6, (fun i hi => ((hf_7 i (by omega)).trans (hf_4 i (by omega))))⟩⟩
      · skip
        refine A_aload_n hg dX11_begins_9 rfl rfl ?_
        refine A_getf (v := .ref (q_h G + 280)) hg fl_RX11_7 dX11_begins_10 hc_2 (by omega) rfl ?_
        refine A_iload_n hg dX11_begins_13 rfl rfl ?_
        refine A_iconst (v := (nI (0))) hg dX11_begins_14 (by decide) ?_
        refine A_iast (j := k) (x := 0) hg dX11_begins_15 hc_3 (by omega) (by omega) (by decide) (fun σ_9 hc_10 hf_11 => ?_)
        have hc_12 : σ_9 279 = o11 G F := (hf_11 _ (by omega)).trans hc_2
        refine A_iincN (k' := 1) hg dX11_begins_16 (by decide) rfl (by decide) (q_c1d rfl) ?_
        refine A_eq (ls2 := [some (.ref (q_h G + 279)), some (.int (nI (k + 1)))]) (st2 := []) (pc2 := 0) rfl rfl ?_
        refine A_goto (tgt := 2) hg dX11_begins_19 (by decide) ?_
        exact ih2 (k + 1) (va_up g1 k 0) σ_9 hc_12 hc_10 (fun i hi => ((hf_11 i (by omega)).trans (hf_4 i (by omega)))) (by omega) (q_fill (h := fun _ => 0) h1 rfl) (by omega)
  exact hL2 _ 0 g σ hc0 hc1 (fun _ _ => rfl) (by omega) (fun j h => absurd h (Nat.not_lt_zero j)) (Nat.lt_succ_self _)
end
