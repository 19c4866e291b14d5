section
set_option maxRecDepth 100000 in
set_option maxHeartbeats 4000000 in
theorem c_X11_move (G : GL) (ex : Bool) (n : Nat) (σ : Nat → va_E) (F : Nat → Int32) (g : Nat → Nat) (f : Nat → Nat) (nv : Nat → Nat) (ns : Nat → Nat) (mk : Nat → Nat) (va : Nat → Nat) (sp : Nat → Nat) (lo : Nat → Nat) (mc : Nat) (z : Nat) (a : Nat → Nat) (m : Nat) (p : Int32) (k : Int32) (l : Int32) (hc0 : σ 279 = o11 G F) (hc1 : σ 280 = q_an G 265 g) (hc2 : σ 284 = q_an G 2120 a) (hc3 : σ 285 = q_bn G 1681 f) (hc4 : σ 286 = q_an G 1681 nv) (hc5 : σ 287 = q_an G 1681 ns) (hc6 : σ 288 = q_an G 2000 mk) (hc7 : σ 289 = q_an G 6724 va) (hc8 : σ 290 = q_an G 6724 sp) (hc9 : σ 291 = q_an G 80 lo) (hn : 294 ≤ n) (hg9 : s_gwf g) (hmc : mc + 6724 < 2 ^ 31) (hF12 : F 12 = nI mc) (hF16 : F 16 = nI z) (hmk : ∀ v : Nat, v < 2000 → mk v ≤ mc) (hTI : s_TI z lo va sp) (hlo : ∀ j : Nat, j < 80 → lo j < 2 ^ 31) (hF5 : F 5 = nI m) (hm8 : m ≤ 8) : Ct G yX11_move cX11_move 4 (some .int) ⟨8, 0, 0, 186⟩ [.ref (q_h G + 279), .int (p), .int (k), .int (l)] ex n σ (fun v9 σ2 => (v9 = some (.int (nI (0))) ∧ (∀ j : Nat, j < s_np g → p = nI j → False) ∧ σ2 279 = o11 G (upd F 7 (nI (1))) ∧ (∀ i : Nat, i ≠ 279 → σ2 i = σ i)) ∨ (∃ (p1 : Nat), v9 = some (.int (nI (0))) ∧ (p = nI p1) ∧ (p1 < s_np g) ∧ (¬ s_refI g p1 k l = 0) ∧ σ2 279 = o11 G (upd F 7 (nI (2))) ∧ (∀ i : Nat, i ≠ 279 → σ2 i = σ i)) ∨ (∃ (p1 : Nat), ∃ (a1 : Nat), ∃ (b1 : Nat), ∃ (f' : Nat → Nat), ∃ (nv' : Nat → Nat), ∃ (ns' : Nat → Nat), ∃ (mk' : Nat → Nat), ∃ (va' : Nat → Nat), ∃ (sp' : Nat → Nat), ∃ (lo' : Nat → Nat), ∃ (mc' : Nat), ∃ (z' : Nat), ∃ (a' : Nat → Nat), ∃ (q1 : Int32), ∃ (q2 : Int32), ∃ (q3 : Int32), v9 = some (.int (nI (s_tot (s_play g p1 a1 b1)))) ∧ (p = nI p1) ∧ (p1 < s_np g) ∧ (k = nI a1) ∧ (l = nI b1) ∧ (s_ref g p1 a1 b1 = 0) ∧ (s_TI z' lo' va' sp') ∧ (mc' ≤ mc + 6724) ∧ (∀ v : Nat, v < 2000 → mk' v ≤ mc') ∧ (∀ j : Nat, j < 80 → lo' j < 2 ^ 31) ∧ (∀ j : Nat, j < 265 → a' (265 * s_pmany m + j) = g j) ∧ (∀ j : Nat, j < 265 * s_pmany m → a' j = s_pshift a m j) ∧ σ2 279 = o11 G (upd (upd (upd (upd (upd (upd (upd F 5 (nI (s_pmany m + 1))) 7 (nI (0))) 12 (nI (mc'))) 16 (nI (z'))) 17 (q1)) 18 (q2)) 19 (q3)) ∧ σ2 280 = q_an G 265 (s_play g p1 a1 b1) ∧ σ2 284 = q_an G 2120 a' ∧ σ2 285 = q_bn G 1681 f' ∧ σ2 286 = q_an G 1681 nv' ∧ σ2 287 = q_an G 1681 ns' ∧ σ2 288 = q_an G 2000 mk' ∧ σ2 289 = q_an G 6724 va' ∧ σ2 290 = q_an G 6724 sp' ∧ σ2 291 = q_an G 80 lo' ∧ (∀ i : Nat, i ≠ 279 ∧ i ≠ 280 ∧ i ≠ 284 ∧ (i < 285 ∨ 291 < i) → σ2 i = σ i))) := by
  refine q_enter [some (.ref (q_h G + 279)), some (.int (p)), some (.int (k)), some (.int (l))] (by decide) (Nat.le_of_ble_eq_true rfl) rfl ?_
  intro K hg
  obtain ⟨Q, hQ⟩ : ∃ Q, Q = q_Q G K ex n 0 0 (fun v9 n' σ' => n' = n ∧ (fun v9 σ2 => (v9 = some (.int (nI (0))) ∧ (∀ j : Nat, j < s_np g → p = nI j → False) ∧ σ2 279 = o11 G (upd F 7 (nI (1))) ∧ (∀ i : Nat, i ≠ 279 → σ2 i = σ i)) ∨ (∃ (p1 : Nat), v9 = some (.int (nI (0))) ∧ (p = nI p1) ∧ (p1 < s_np g) ∧ (¬ s_refI g p1 k l = 0) ∧ σ2 279 = o11 G (upd F 7 (nI (2))) ∧ (∀ i : Nat, i ≠ 279 → σ2 i = σ i)) ∨ (∃ (p1 : Nat), ∃ (a1 : Nat), ∃ (b1 : Nat), ∃ (f' : Nat → Nat), ∃ (nv' : Nat → Nat), ∃ (ns' : Nat → Nat), ∃ (mk' : Nat → Nat), ∃ (va' : Nat → Nat), ∃ (sp' : Nat → Nat), ∃ (lo' : Nat → Nat), ∃ (mc' : Nat), ∃ (z' : Nat), ∃ (a' : Nat → Nat), ∃ (q1 : Int32), ∃ (q2 : Int32), ∃ (q3 : Int32), v9 = some (.int (nI (s_tot (s_play g p1 a1 b1)))) ∧ (p = nI p1) ∧ (p1 < s_np g) ∧ (k = nI a1) ∧ (l = nI b1) ∧ (s_ref g p1 a1 b1 = 0) ∧ (s_TI z' lo' va' sp') ∧ (mc' ≤ mc + 6724) ∧ (∀ v : Nat, v < 2000 → mk' v ≤ mc') ∧ (∀ j : Nat, j < 80 → lo' j < 2 ^ 31) ∧ (∀ j : Nat, j < 265 → a' (265 * s_pmany m + j) = g j) ∧ (∀ j : Nat, j < 265 * s_pmany m → a' j = s_pshift a m j) ∧ σ2 279 = o11 G (upd (upd (upd (upd (upd (upd (upd F 5 (nI (s_pmany m + 1))) 7 (nI (0))) 12 (nI (mc'))) 16 (nI (z'))) 17 (q1)) 18 (q2)) 19 (q3)) ∧ σ2 280 = q_an G 265 (s_play g p1 a1 b1) ∧ σ2 284 = q_an G 2120 a' ∧ σ2 285 = q_bn G 1681 f' ∧ σ2 286 = q_an G 1681 nv' ∧ σ2 287 = q_an G 1681 ns' ∧ σ2 288 = q_an G 2000 mk' ∧ σ2 289 = q_an G 6724 va' ∧ σ2 290 = q_an G 6724 sp' ∧ σ2 291 = q_an G 80 lo' ∧ (∀ i : Nat, i ≠ 279 ∧ i ≠ 280 ∧ i ≠ 284 ∧ (i < 285 ∨ 291 < i) → σ2 i = σ i))) v9 σ') q_noX := ⟨_, rfl⟩
  refine (?_ : AJ G K (q_Q G K ex n 0 0 _ _) 0 0 ex n 0 _ _ σ)
  rw [← hQ]
  refine A_aload_n hg dX11_move_0 rfl rfl ?_
  refine A_iconst (v := (nI (0))) hg dX11_move_1 (by decide) ?_
  refine A_putf hg fl_RX11_67 dX11_move_2 hc0 (by omega) (Nat.le_of_ble_eq_true rfl) rfl rfl rfl (fun σ_1 hc_2 hf_3 => ?_)
  have hc_2 : σ_1 279 = o11 G (upd F 7 (nI (0))) := hc_2
  have hc_4 : σ_1 280 = q_an G 265 g := (hf_3 _ (by omega)).trans hc1
  have hc_5 : σ_1 284 = q_an G 2120 a := (hf_3 _ (by omega)).trans hc2
  have hc_6 : σ_1 285 = q_bn G 1681 f := (hf_3 _ (by omega)).trans hc3
  have hc_7 : σ_1 286 = q_an G 1681 nv := (hf_3 _ (by omega)).trans hc4
  have hc_8 : σ_1 287 = q_an G 1681 ns := (hf_3 _ (by omega)).trans hc5
  have hc_9 : σ_1 288 = q_an G 2000 mk := (hf_3 _ (by omega)).trans hc6
  have hc_10 : σ_1 289 = q_an G 6724 va := (hf_3 _ (by omega)).trans hc7
  have hc_11 : σ_1 290 = q_an G 6724 sp := (hf_3 _ (by omega)).trans hc8
  have hc_12 : σ_1 291 = q_an G 80 lo := (hf_3 _ (by omega)).trans hc9
  refine A_aload_n hg dX11_move_5 rfl rfl ?_
  refine A_iload_n hg dX11_move_6 rfl rfl ?_
  refine A_hV (kc2 := 0) (ks2 := 0) (As := [.int (p)]) (rest := []) hg lk_RX11_418 in_X11_noPart se_X11_noPart rfl dX11_move_7 ⟨by decide, by decide⟩ rfl rfl ⟨by decide, by decide⟩ hc_2 (by omega) rfl rfl (Nat.le_of_ble_eq_true rfl) (c_X11_noPart G ex n σ_1 (upd F 7 (nI (0))) g p hc_2 hc_4 (by omega) (s_np_le hg9)) ?_
  rintro _ σ_16 (⟨rfl, hno, hc_13, hf_14⟩ | ⟨p1, rfl, hpe, hpl, he_15⟩)
  · skip
    refine (?_ : AJ G K Q 0 0 ex n 10 [some (.ref (q_h G + 279)), some (.int (p)), some (.int (k)), some (.int (l))] [.int (nI (1))] σ_16)
    have hc_13 : σ_16 279 = o11 G (upd F 7 (nI (1))) := hc_13
    have hc_17 : σ_16 280 = q_an G 265 g := (hf_14 _ (by omega)).trans hc_4
    have hc_18 : σ_16 284 = q_an G 2120 a := (hf_14 _ (by omega)).trans hc_5
    have hc_19 : σ_16 285 = q_bn G 1681 f := (hf_14 _ (by omega)).trans hc_6
    have hc_20 : σ_16 286 = q_an G 1681 nv := (hf_14 _ (by omega)).trans hc_7
    have hc_21 : σ_16 287 = q_an G 1681 ns := (hf_14 _ (by omega)).trans hc_8
    have hc_22 : σ_16 288 = q_an G 2000 mk := (hf_14 _ (by omega)).trans hc_9
    have hc_23 : σ_16 289 = q_an G 6724 va := (hf_14 _ (by omega)).trans hc_10
    have hc_24 : σ_16 290 = q_an G 6724 sp := (hf_14 _ (by omega)).trans hc_11
    have hc_25 : σ_16 291 = q_an G 80 lo := (hf_14 _ (by omega)).trans hc_12
    refine A_if_neN (tgt := 36) hg dX11_move_10 (by decide) (by decide) (fun c10 => ?_) (fun c10 => absurd c10 (by decide))
    refine A_iconst (v := (nI (0))) hg dX11_move_36 (by decide) ?_
    rw [hQ]
    exact A_ireturn hg (by decide) (by decide) rfl dX11_move_37 ⟨rfl, Or.inl (⟨rfl, (by first | rfl | assumption | omega), hc_13, (fun i hi => ((hf_14 i (by omega)).trans (hf_3 i (by omega))))⟩)⟩
  · skip
    rw [he_15]
    refine (?_ : AJ G K Q 0 0 ex n 10 [some (.ref (q_h G + 279)), some (.int (p)), some (.int (k)), some (.int (l))] [.int (nI (0))] σ_1)
    refine A_if_neN (tgt := 36) hg dX11_move_10 (by decide) (by decide) (fun c10 => absurd (by decide) c10) (fun c10 => ?_)
    subst hpe
    refine A_aload_n hg dX11_move_13 rfl rfl ?_
    refine A_aload_n hg dX11_move_14 rfl rfl ?_
    refine A_iload_n hg dX11_move_15 rfl rfl ?_
    refine A_iload_n hg dX11_move_16 rfl rfl ?_
    refine A_iload_n hg dX11_move_17 rfl rfl ?_
    refine A_eV (kc2 := 0) (ks2 := 0) (As := [.int (nI (p1)), .int (k), .int (l)]) (rest := [.ref (q_h G + 279)]) hg lk_RX11_209 in_X11_refusal se_X11_refusal rfl dX11_move_18 ⟨by decide, by decide⟩ rfl rfl ⟨by decide, by decide⟩ hc_2 (by omega) rfl rfl (Nat.le_of_ble_eq_true rfl) (c_X11_refusalI G ex n σ_1 (upd F 7 (nI (0))) g p1 k l hc_2 hc_4 (by omega) hg9 hpl) ?_
    have hrle : s_refI g p1 k l ≤ 7 := by
      unfold s_refI
      split
      · omega
      · exact s_ref_le _ _ _ _
    refine A_if_eqN (tgt := 28) hg dX11_move_21 (by omega) (by decide) (fun c21 => ?_) (fun c21 => ?_)
    · skip
      refine A_iconst (v := (nI (0))) hg dX11_move_28 (by decide) ?_
      refine A_iconst (v := (nI (2))) hg dX11_move_29 (by decide) ?_
      refine A_eV (kc2 := 0) (ks2 := 0) (As := [.int (nI (0)), .int (nI (2))]) (rest := []) hg lk_RX11_81 in_X11_fails se_X11_fails rfl dX11_move_30 ⟨by decide, by decide⟩ rfl rfl ⟨by decide, by decide⟩ hc_2 (by omega) rfl rfl (Nat.le_of_ble_eq_true rfl) (c_X11_fails0 G ex n σ_1 (upd F 7 (nI (0))) (nI (2)) hc_2 (by omega)) ?_
      refine A_if_eqN (tgt := 38) hg dX11_move_33 (by decide) (by decide) (fun c33 => ?_) (fun c33 => absurd (by decide) c33)
      obtain ⟨a1, b1, hke, hle, hka, hkb, hkx, hly, hrf⟩ := s_refI_0 c21
      subst hke
      subst hle
      refine A_aload_n hg dX11_move_38 rfl rfl ?_
      refine A_vV (kc2 := 0) (ks2 := 0) (As := []) (rest := []) hg lk_RX11_389 in_X11_laysAll se_X11_laysAll rfl dX11_move_39 ⟨by decide, by decide⟩ rfl rfl ⟨by decide, by decide⟩ hc_2 (by omega) rfl rfl (Nat.le_of_ble_eq_true rfl) (c_X11_laysAll G ex n σ_1 (upd F 7 (nI (0))) g f nv ns mk va sp lo mc z hc_2 hc_4 hc_6 hc_7 hc_8 hc_9 hc_10 hc_11 hc_12 (by omega) hg9.1 hg9.2.2.2.2.2.1 (by omega) hF12 hF16 hmk hTI hlo) ?_
      rintro σ_35 ⟨f', nv', ns', mk', va', sp', lo', mc', z', hTI2, hCU2, hmc2, hmk2, hlo2, hc_26, hc_27, hc_28, hc_29, hc_30, hc_31, hc_32, hc_33, hf_34⟩
      have hc_26 : σ_35 279 = o11 G (upd (upd (upd F 7 (nI (0))) 12 (nI (mc'))) 16 (nI (z'))) := hc_26
      have hc_36 : σ_35 280 = q_an G 265 g := (hf_34 _ (by omega)).trans hc_4
      have hc_37 : σ_35 284 = q_an G 2120 a := (hf_34 _ (by omega)).trans hc_5
      have hCV2 : ∀ r : Nat, r < g 0 → ∀ q : Nat, q < 1681 → va' (1681 * r + q) = s_V (s_rule g r) q := fun r hr q hq => (hCU2 r hr q hq).1
      refine A_aload_n hg dX11_move_42 rfl rfl ?_
      refine A_vV (kc2 := 0) (ks2 := 0) (As := []) (rest := []) hg lk_RX11_463 in_X11_remembers se_X11_remembers rfl dX11_move_43 ⟨by decide, by decide⟩ rfl rfl ⟨by decide, by decide⟩ hc_26 (by omega) rfl rfl (Nat.le_of_ble_eq_true rfl) (c_X11_remembers G ex n σ_35 (upd (upd (upd F 7 (nI (0))) 12 (nI (mc'))) 16 (nI (z'))) g a m hc_26 hc_36 hc_37 (by omega) hF5 (by omega)) ?_
      rintro σ_41 ⟨a', hnew, hold, hc_38, hc_39, hf_40⟩
      have hc_38 : σ_41 279 = o11 G (upd (upd (upd (upd F 5 (nI (s_pmany m + 1))) 7 (nI (0))) 12 (nI (mc'))) 16 (nI (z'))) := hc_38
      have hc_42 : σ_41 280 = q_an G 265 g := (hf_40 _ (by omega)).trans hc_36
      have hc_43 : σ_41 285 = q_bn G 1681 f' := (hf_40 _ (by omega)).trans hc_27
      have hc_44 : σ_41 286 = q_an G 1681 nv' := (hf_40 _ (by omega)).trans hc_28
      have hc_45 : σ_41 287 = q_an G 1681 ns' := (hf_40 _ (by omega)).trans hc_29
      have hc_46 : σ_41 288 = q_an G 2000 mk' := (hf_40 _ (by omega)).trans hc_30
      have hc_47 : σ_41 289 = q_an G 6724 va' := (hf_40 _ (by omega)).trans hc_31
      have hc_48 : σ_41 290 = q_an G 6724 sp' := (hf_40 _ (by omega)).trans hc_32
      have hc_49 : σ_41 291 = q_an G 80 lo' := (hf_40 _ (by omega)).trans hc_33
      refine A_aload_n hg dX11_move_46 rfl rfl ?_
      refine A_iload_n hg dX11_move_47 rfl rfl ?_
      refine A_iload_n hg dX11_move_48 rfl rfl ?_
      refine A_iload_n hg dX11_move_49 rfl rfl ?_
      refine A_vV (kc2 := 0) (ks2 := 0) (As := [.int (nI (p1)), .int (nI (a1)), .int (nI (b1))]) (rest := []) hg lk_RX11_250 in_X11_plays se_X11_plays rfl dX11_move_50 ⟨by decide, by decide⟩ rfl rfl ⟨by decide, by decide⟩ hc_38 (by omega) rfl rfl (Nat.le_of_ble_eq_true rfl) (c_X11_plays G ex n σ_41 (upd (upd (upd (upd F 5 (nI (s_pmany m + 1))) 7 (nI (0))) 12 (nI (mc'))) 16 (nI (z'))) g va' p1 a1 b1 hc_38 hc_42 hc_47 (by omega) hg9 hpl hCV2 hkx hly) ?_
      rintro σ_53 ⟨q1, q2, q3, hc_50, hc_51, hf_52⟩
      have hc_50 : σ_53 279 = o11 G (upd (upd (upd (upd (upd (upd (upd F 5 (nI (s_pmany m + 1))) 7 (nI (0))) 12 (nI (mc'))) 16 (nI (z'))) 17 (q1)) 18 (q2)) 19 (q3)) := hc_50
      have hc_54 : σ_53 285 = q_bn G 1681 f' := (hf_52 _ (by omega)).trans hc_43
      have hc_55 : σ_53 286 = q_an G 1681 nv' := (hf_52 _ (by omega)).trans hc_44
      have hc_56 : σ_53 287 = q_an G 1681 ns' := (hf_52 _ (by omega)).trans hc_45
      have hc_57 : σ_53 288 = q_an G 2000 mk' := (hf_52 _ (by omega)).trans hc_46
      have hc_58 : σ_53 289 = q_an G 6724 va' := (hf_52 _ (by omega)).trans hc_47
      have hc_59 : σ_53 290 = q_an G 6724 sp' := (hf_52 _ (by omega)).trans hc_48
      have hc_60 : σ_53 291 = q_an G 80 lo' := (hf_52 _ (by omega)).trans hc_49
      have hc_61 : σ_53 284 = q_an G 2120 a' := (hf_52 _ (by omega)).trans hc_39
      have hgp := s_gwf_play (k := a1) (l := b1) hg9 hpl
      have htr := s_turn_rules (k := a1) (l := b1) hg9 hpl
      have hCVp := s_CV_ag htr.1 htr.2 hg9 hCV2
      refine A_aload_n hg dX11_move_53 rfl rfl ?_
      refine A_eV (kc2 := 0) (ks2 := 0) (As := []) (rest := []) hg lk_RX11_206 in_X11_total se_X11_total rfl dX11_move_54 ⟨by decide, by decide⟩ rfl rfl ⟨by decide, by decide⟩ hc_50 (by omega) rfl rfl (Nat.le_of_ble_eq_true rfl) (c_X11_total G ex n σ_53 (upd (upd (upd (upd (upd (upd (upd F 5 (nI (s_pmany m + 1))) 7 (nI (0))) 12 (nI (mc'))) 16 (nI (z'))) 17 (q1)) 18 (q2)) 19 (q3)) (s_play g p1 a1 b1) va' hc_50 hc_51 hc_58 (by omega) hgp hCVp) ?_
      rw [hQ]
      exact A_ireturn hg (by decide) (by decide) rfl dX11_move_57 ⟨rfl, Or.inr (Or.inr ((⟨p1, a1, b1, f', nv', ns', mk', va', sp', lo', mc', z', a', q1, q2, q3, rfl, (by first | rfl | assumption | omega), (by first | rfl | assumption | omega), (by first | rfl | assumption | omega), (by first | rfl | assumption | omega), (by first | rfl | assumption | omega), hTI2, hmc2, hmk2, hlo2, hnew, hold, hc_50, hc_51, hc_61, hc_54, hc_55, hc_56, hc_57, hc_58, hc_59, hc_60, (fun i hi => ((hf_52 i (by omega)).trans ((hf_40 i (by omega)).trans ((hf_34 i (by omega)).trans (hf_3 i (by omega))))))⟩)))⟩
    · skip
      refine A_iconst (v := (nI (1))) hg dX11_move_24 (by decide) ?_
      refine A_goto (tgt := 29) hg dX11_move_25 (by decide) ?_
      refine A_iconst (v := (nI (2))) hg dX11_move_29 (by decide) ?_
      refine A_hV (kc2 := 0) (ks2 := 0) (As := [.int (nI (1)), .int (nI (2))]) (rest := []) hg lk_RX11_81 in_X11_fails se_X11_fails rfl dX11_move_30 ⟨by decide, by decide⟩ rfl rfl ⟨by decide, by decide⟩ hc_2 (by omega) rfl rfl (Nat.le_of_ble_eq_true rfl) (c_X11_fails1 G ex n σ_1 (upd F 7 (nI (0))) 2 hc_2 (by omega)) ?_
      rintro _ σ_64 ⟨rfl, hc_62, hf_63⟩
      refine (?_ : AJ G K Q 0 0 ex n 33 [some (.ref (q_h G + 279)), some (.int (nI (p1))), some (.int (k)), some (.int (l))] [.int (nI (1))] σ_64)
      have hc_62 : σ_64 279 = o11 G (upd F 7 (nI (2))) := hc_62
      have hc_65 : σ_64 280 = q_an G 265 g := (hf_63 _ (by omega)).trans hc_4
      have hc_66 : σ_64 284 = q_an G 2120 a := (hf_63 _ (by omega)).trans hc_5
      have hc_67 : σ_64 285 = q_bn G 1681 f := (hf_63 _ (by omega)).trans hc_6
      have hc_68 : σ_64 286 = q_an G 1681 nv := (hf_63 _ (by omega)).trans hc_7
      have hc_69 : σ_64 287 = q_an G 1681 ns := (hf_63 _ (by omega)).trans hc_8
      have hc_70 : σ_64 288 = q_an G 2000 mk := (hf_63 _ (by omega)).trans hc_9
      have hc_71 : σ_64 289 = q_an G 6724 va := (hf_63 _ (by omega)).trans hc_10
      have hc_72 : σ_64 290 = q_an G 6724 sp := (hf_63 _ (by omega)).trans hc_11
      have hc_73 : σ_64 291 = q_an G 80 lo := (hf_63 _ (by omega)).trans hc_12
      refine A_if_eqN (tgt := 38) hg dX11_move_33 (by decide) (by decide) (fun c33 => absurd c33 (by decide)) (fun c33 => ?_)
      refine A_iconst (v := (nI (0))) hg dX11_move_36 (by decide) ?_
      rw [hQ]
      exact A_ireturn hg (by decide) (by decide) rfl dX11_move_37 ⟨rfl, Or.inr (Or.inl (⟨p1, rfl, (by first | rfl | assumption | omega), (by first | rfl | assumption | omega), (by first | rfl | assumption | omega), hc_62, (fun i hi => ((hf_63 i (by omega)).trans (hf_3 i (by omega))))⟩))⟩
set_option maxRecDepth 100000 in
set_option maxHeartbeats 4000000 in
theorem c_X11_follow (G : GL) (ex : Bool) (n : Nat) (σ : Nat → va_E) (F : Nat → Int32) (g : Nat → Nat) (f : Nat → Nat) (nv : Nat → Nat) (ns : Nat → Nat) (mk : Nat → Nat) (va : Nat → Nat) (sp : Nat → Nat) (lo : Nat → Nat) (mc : Nat) (z : Nat) (a : Nat → Nat) (m : Nat) (t : Int32) (hc0 : σ 279 = o11 G F) (hc1 : σ 280 = q_an G 265 g) (hc2 : σ 284 = q_an G 2120 a) (hc3 : σ 285 = q_bn G 1681 f) (hc4 : σ 286 = q_an G 1681 nv) (hc5 : σ 287 = q_an G 1681 ns) (hc6 : σ 288 = q_an G 2000 mk) (hc7 : σ 289 = q_an G 6724 va) (hc8 : σ 290 = q_an G 6724 sp) (hc9 : σ 291 = q_an G 80 lo) (hn : 294 ≤ n) (hg9 : s_gwf g) (hmc : mc + 6724 < 2 ^ 31) (hF12 : F 12 = nI mc) (hF16 : F 16 = nI z) (hmk : ∀ v : Nat, v < 2000 → mk v ≤ mc) (hTI : s_TI z lo va sp) (hlo : ∀ j : Nat, j < 80 → lo j < 2 ^ 31) (hF5 : F 5 = nI m) (hm8 : m ≤ 8) : Ct G yX11_follow cX11_follow 2 (some .int) ⟨9, 0, 0, 208⟩ [.ref (q_h G + 279), .int (t)] ex n σ (fun v9 σ2 => (v9 = some (.int (nI (0))) ∧ (∀ j : Nat, 1 ≤ j → j ≤ 600 → t = nI j → False) ∧ σ2 279 = o11 G (upd F 7 (nI (1))) ∧ (∀ i : Nat, i ≠ 279 → σ2 i = σ i)) ∨ (∃ (t1 : Nat), ∃ (f' : Nat → Nat), ∃ (nv' : Nat → Nat), ∃ (ns' : Nat → Nat), ∃ (mk' : Nat → Nat), ∃ (va' : Nat → Nat), ∃ (sp' : Nat → Nat), ∃ (lo' : Nat → Nat), ∃ (mc' : Nat), ∃ (z' : Nat), ∃ (a' : Nat → Nat), ∃ (q1 : Int32), ∃ (q2 : Int32), ∃ (q3 : Int32), v9 = some (.int (nI (s_fn g t1))) ∧ (t = nI t1) ∧ (1 ≤ t1) ∧ (t1 ≤ 600) ∧ (s_TI z' lo' va' sp') ∧ (mc' ≤ mc + 6724) ∧ (∀ v : Nat, v < 2000 → mk' v ≤ mc') ∧ (∀ j : Nat, j < 80 → lo' j < 2 ^ 31) ∧ (∀ j : Nat, j < 265 → a' (265 * s_pmany m + j) = g j) ∧ (∀ j : Nat, j < 265 * s_pmany m → a' j = s_pshift a m j) ∧ σ2 279 = o11 G (upd (upd (upd (upd (upd (upd (upd F 5 (nI (s_pmany m + 1))) 7 (nI (0))) 12 (nI (mc'))) 16 (nI (z'))) 17 (q1)) 18 (q2)) 19 (q3)) ∧ σ2 280 = q_an G 265 (s_it g (s_fn g t1)) ∧ σ2 284 = q_an G 2120 a' ∧ σ2 285 = q_bn G 1681 f' ∧ σ2 286 = q_an G 1681 nv' ∧ σ2 287 = q_an G 1681 ns' ∧ σ2 288 = q_an G 2000 mk' ∧ σ2 289 = q_an G 6724 va' ∧ σ2 290 = q_an G 6724 sp' ∧ σ2 291 = q_an G 80 lo' ∧ (∀ i : Nat, i ≠ 279 ∧ i ≠ 280 ∧ i ≠ 284 ∧ (i < 285 ∨ 291 < i) → σ2 i = σ i))) := by
  refine q_enter [some (.ref (q_h G + 279)), some (.int (t))] (by decide) (Nat.le_of_ble_eq_true rfl) rfl ?_
  intro K hg
  obtain ⟨Q, hQ⟩ : ∃ Q, Q = q_Q G K ex n 0 0 (fun v9 n' σ' => n' = n ∧ (fun v9 σ2 => (v9 = some (.int (nI (0))) ∧ (∀ j : Nat, 1 ≤ j → j ≤ 600 → t = nI j → False) ∧ σ2 279 = o11 G (upd F 7 (nI (1))) ∧ (∀ i : Nat, i ≠ 279 → σ2 i = σ i)) ∨ (∃ (t1 : Nat), ∃ (f' : Nat → Nat), ∃ (nv' : Nat → Nat), ∃ (ns' : Nat → Nat), ∃ (mk' : Nat → Nat), ∃ (va' : Nat → Nat), ∃ (sp' : Nat → Nat), ∃ (lo' : Nat → Nat), ∃ (mc' : Nat), ∃ (z' : Nat), ∃ (a' : Nat → Nat), ∃ (q1 : Int32), ∃ (q2 : Int32), ∃ (q3 : Int32), v9 = some (.int (nI (s_fn g t1))) ∧ (t = nI t1) ∧ (1 ≤ t1) ∧ (t1 ≤ 600) ∧ (s_TI z' lo' va' sp') ∧ (mc' ≤ mc + 6724) ∧ (∀ v : Nat, v < 2000 → mk' v ≤ mc') ∧ (∀ j : Nat, j < 80 → lo' j < 2 ^ 31) ∧ (∀ j : Nat, j < 265 → a' (265 * s_pmany m + j) = g j) ∧ (∀ j : Nat, j < 265 * s_pmany m → a' j = s_pshift a m j) ∧ σ2 279 = o11 G (upd (upd (upd (upd (upd (upd (upd F 5 (nI (s_pmany m + 1))) 7 (nI (0))) 12 (nI (mc'))) 16 (nI (z'))) 17 (q1)) 18 (q2)) 19 (q3)) ∧ σ2 280 = q_an G 265 (s_it g (s_fn g t1)) ∧ σ2 284 = q_an G 2120 a' ∧ σ2 285 = q_bn G 1681 f' ∧ σ2 286 = q_an G 1681 nv' ∧ σ2 287 = q_an G 1681 ns' ∧ σ2 288 = q_an G 2000 mk' ∧ σ2 289 = q_an G 6724 va' ∧ σ2 290 = q_an G 6724 sp' ∧ σ2 291 = q_an G 80 lo' ∧ (∀ i : Nat, i ≠ 279 ∧ i ≠ 280 ∧ i ≠ 284 ∧ (i < 285 ∨ 291 < i) → σ2 i = σ i))) v9 σ') q_noX := ⟨_, rfl⟩
  refine (?_ : AJ G K (q_Q G K ex n 0 0 _ _) 0 0 ex n 0 _ _ σ)
  rw [← hQ]
  refine A_aload_n hg dX11_follow_0 rfl rfl ?_
  refine A_iconst (v := (nI (0))) hg dX11_follow_1 (by decide) ?_
  refine A_putf hg fl_RX11_67 dX11_follow_2 hc0 (by omega) (Nat.le_of_ble_eq_true rfl) rfl rfl rfl (fun σ_1 hc_2 hf_3 => ?_)
  have hc_2 : σ_1 279 = o11 G (upd F 7 (nI (0))) := hc_2
  have hc_4 : σ_1 280 = q_an G 265 g := (hf_3 _ (by omega)).trans hc1
  have hc_5 : σ_1 284 = q_an G 2120 a := (hf_3 _ (by omega)).trans hc2
  have hc_6 : σ_1 285 = q_bn G 1681 f := (hf_3 _ (by omega)).trans hc3
  have hc_7 : σ_1 286 = q_an G 1681 nv := (hf_3 _ (by omega)).trans hc4
  have hc_8 : σ_1 287 = q_an G 1681 ns := (hf_3 _ (by omega)).trans hc5
  have hc_9 : σ_1 288 = q_an G 2000 mk := (hf_3 _ (by omega)).trans hc6
  have hc_10 : σ_1 289 = q_an G 6724 va := (hf_3 _ (by omega)).trans hc7
  have hc_11 : σ_1 290 = q_an G 6724 sp := (hf_3 _ (by omega)).trans hc8
  have hc_12 : σ_1 291 = q_an G 80 lo := (hf_3 _ (by omega)).trans hc9
  refine A_aload_n hg dX11_follow_5 rfl rfl ?_
  refine A_iload_n hg dX11_follow_6 rfl rfl ?_
  refine A_iconst (v := (nI (1))) hg dX11_follow_7 (by decide) ?_
  refine A_sipush (v := (nI (600))) hg dX11_follow_8 (by decide) ?_
  refine A_eS (kc2 := 0) (ks2 := 0) (As := [.int (t), .int (nI (1)), .int (nI (600))]) (rest := [.ref (q_h G + 279)]) hg lk_RX11_77 st_X11_inRange dX11_follow_11 ⟨by decide, by decide⟩ rfl rfl ⟨by decide, by decide⟩ rfl rfl (Nat.le_of_ble_eq_true rfl) (c_X11_inRange G ex n σ_1 t (nI (1)) (nI (600))) ?_
  refine A_if_neB (tgt := 21) hg dX11_follow_14 (by decide) (fun c14 => ?_) (fun c14 => ?_)
  · skip
    refine A_iconst (v := (nI (0))) hg dX11_follow_21 (by decide) ?_
    refine A_iconst (v := (nI (1))) hg dX11_follow_22 (by decide) ?_
    refine A_eV (kc2 := 0) (ks2 := 0) (As := [.int (nI (0)), .int (nI (1))]) (rest := []) hg lk_RX11_81 in_X11_fails se_X11_fails rfl dX11_follow_23 ⟨by decide, by decide⟩ rfl rfl ⟨by decide, by decide⟩ hc_2 (by omega) rfl rfl (Nat.le_of_ble_eq_true rfl) (c_X11_fails0 G ex n σ_1 (upd F 7 (nI (0))) (nI (1)) hc_2 (by omega)) ?_
    refine A_if_eqN (tgt := 31) hg dX11_follow_26 (by decide) (by decide) (fun c26 => ?_) (fun c26 => absurd (by decide) c26)
    obtain ⟨t1, hte, hta, htl⟩ := q_in_nat (by decide) c14 (by decide)
    subst hte
    refine A_aload_n hg dX11_follow_31 rfl rfl ?_
    refine A_vV (kc2 := 0) (ks2 := 0) (As := []) (rest := []) hg lk_RX11_389 in_X11_laysAll se_X11_laysAll rfl dX11_follow_32 ⟨by decide, by decide⟩ rfl rfl ⟨by decide, by decide⟩ hc_2 (by omega) rfl rfl (Nat.le_of_ble_eq_true rfl) (c_X11_laysAll G ex n σ_1 (upd F 7 (nI (0))) g f nv ns mk va sp lo mc z hc_2 hc_4 hc_6 hc_7 hc_8 hc_9 hc_10 hc_11 hc_12 (by omega) hg9.1 hg9.2.2.2.2.2.1 (by omega) hF12 hF16 hmk hTI hlo) ?_
    rintro σ_22 ⟨f', nv', ns', mk', va', sp', lo', mc', z', hTI2, hCU2, hmc2, hmk2, hlo2, hc_13, hc_14, hc_15, hc_16, hc_17, hc_18, hc_19, hc_20, hf_21⟩
    have hc_13 : σ_22 279 = o11 G (upd (upd (upd F 7 (nI (0))) 12 (nI (mc'))) 16 (nI (z'))) := hc_13
    have hc_23 : σ_22 280 = q_an G 265 g := (hf_21 _ (by omega)).trans hc_4
    have hc_24 : σ_22 284 = q_an G 2120 a := (hf_21 _ (by omega)).trans hc_5
    have hCV2 : ∀ r : Nat, r < g 0 → ∀ q : Nat, q < 1681 → va' (1681 * r + q) = s_V (s_rule g r) q := fun r hr q hq => (hCU2 r hr q hq).1
    refine A_aload_n hg dX11_follow_35 rfl rfl ?_
    refine A_vV (kc2 := 0) (ks2 := 0) (As := []) (rest := []) hg lk_RX11_463 in_X11_remembers se_X11_remembers rfl dX11_follow_36 ⟨by decide, by decide⟩ rfl rfl ⟨by decide, by decide⟩ hc_13 (by omega) rfl rfl (Nat.le_of_ble_eq_true rfl) (c_X11_remembers G ex n σ_22 (upd (upd (upd F 7 (nI (0))) 12 (nI (mc'))) 16 (nI (z'))) g a m hc_13 hc_23 hc_24 (by omega) hF5 (by omega)) ?_
    rintro σ_28 ⟨a', hnew, hold, hc_25, hc_26, hf_27⟩
    have hc_25 : σ_28 279 = o11 G (upd (upd (upd (upd F 5 (nI (s_pmany m + 1))) 7 (nI (0))) 12 (nI (mc'))) 16 (nI (z'))) := hc_25
    have hc_29 : σ_28 280 = q_an G 265 g := (hf_27 _ (by omega)).trans hc_23
    have hc_30 : σ_28 285 = q_bn G 1681 f' := (hf_27 _ (by omega)).trans hc_14
    have hc_31 : σ_28 286 = q_an G 1681 nv' := (hf_27 _ (by omega)).trans hc_15
    have hc_32 : σ_28 287 = q_an G 1681 ns' := (hf_27 _ (by omega)).trans hc_16
    have hc_33 : σ_28 288 = q_an G 2000 mk' := (hf_27 _ (by omega)).trans hc_17
    have hc_34 : σ_28 289 = q_an G 6724 va' := (hf_27 _ (by omega)).trans hc_18
    have hc_35 : σ_28 290 = q_an G 6724 sp' := (hf_27 _ (by omega)).trans hc_19
    have hc_36 : σ_28 291 = q_an G 80 lo' := (hf_27 _ (by omega)).trans hc_20
    refine A_aload_n hg dX11_follow_39 rfl rfl ?_
    refine A_iload_n hg dX11_follow_40 rfl rfl ?_
    refine A_hV (kc2 := 0) (ks2 := 0) (As := [.int (nI (t1))]) (rest := []) hg lk_RX11_448 in_X11_follows se_X11_follows rfl dX11_follow_41 ⟨by decide, by decide⟩ rfl rfl ⟨by decide, by decide⟩ hc_25 (by omega) rfl rfl (Nat.le_of_ble_eq_true rfl) (c_X11_follows G ex n σ_28 (upd (upd (upd (upd F 5 (nI (s_pmany m + 1))) 7 (nI (0))) 12 (nI (mc'))) 16 (nI (z'))) g va' t1 hc_25 hc_29 hc_34 (by omega) hg9 hCV2 (by omega)) ?_
    rintro _ σ_40 ⟨q1, q2, q3, rfl, hc_37, hc_38, hf_39⟩
    refine (?_ : AJ G K Q 0 0 ex n 44 [some (.ref (q_h G + 279)), some (.int (nI (t1)))] [.int (nI (s_fn g t1))] σ_40)
    have hc_37 : σ_40 279 = o11 G (upd (upd (upd (upd (upd (upd (upd F 5 (nI (s_pmany m + 1))) 7 (nI (0))) 12 (nI (mc'))) 16 (nI (z'))) 17 (q1)) 18 (q2)) 19 (q3)) := hc_37
    have hc_41 : σ_40 285 = q_bn G 1681 f' := (hf_39 _ (by omega)).trans hc_30
    have hc_42 : σ_40 286 = q_an G 1681 nv' := (hf_39 _ (by omega)).trans hc_31
    have hc_43 : σ_40 287 = q_an G 1681 ns' := (hf_39 _ (by omega)).trans hc_32
    have hc_44 : σ_40 288 = q_an G 2000 mk' := (hf_39 _ (by omega)).trans hc_33
    have hc_45 : σ_40 289 = q_an G 6724 va' := (hf_39 _ (by omega)).trans hc_34
    have hc_46 : σ_40 290 = q_an G 6724 sp' := (hf_39 _ (by omega)).trans hc_35
    have hc_47 : σ_40 291 = q_an G 80 lo' := (hf_39 _ (by omega)).trans hc_36
    have hc_48 : σ_40 284 = q_an G 2120 a' := (hf_39 _ (by omega)).trans hc_26
    rw [hQ]
    exact A_ireturn hg (by decide) (by decide) rfl dX11_follow_44 ⟨rfl, Or.inr ((⟨t1, f', nv', ns', mk', va', sp', lo', mc', z', a', q1, q2, q3, rfl, (by first | rfl | assumption | omega), (by first | rfl | assumption | omega), (by first | rfl | assumption | omega), hTI2, hmc2, hmk2, hlo2, hnew, hold, hc_37, hc_38, hc_48, hc_41, hc_42, hc_43, hc_44, hc_45, hc_46, hc_47, (fun i hi => ((hf_39 i (by omega)).trans ((hf_27 i (by omega)).trans ((hf_21 i (by omega)).trans (hf_3 i (by omega))))))⟩))⟩
  · skip
    refine A_iconst (v := (nI (1))) hg dX11_follow_17 (by decide) ?_
    refine A_goto (tgt := 22) hg dX11_follow_18 (by decide) ?_
    refine A_iconst (v := (nI (1))) hg dX11_follow_22 (by decide) ?_
    refine A_hV (kc2 := 0) (ks2 := 0) (As := [.int (nI (1)), .int (nI (1))]) (rest := []) hg lk_RX11_81 in_X11_fails se_X11_fails rfl dX11_follow_23 ⟨by decide, by decide⟩ rfl rfl ⟨by decide, by decide⟩ hc_2 (by omega) rfl rfl (Nat.le_of_ble_eq_true rfl) (c_X11_fails1 G ex n σ_1 (upd F 7 (nI (0))) 1 hc_2 (by omega)) ?_
    rintro _ σ_51 ⟨rfl, hc_49, hf_50⟩
    refine (?_ : AJ G K Q 0 0 ex n 26 [some (.ref (q_h G + 279)), some (.int (t))] [.int (nI (1))] σ_51)
    have hc_49 : σ_51 279 = o11 G (upd F 7 (nI (1))) := hc_49
    have hc_52 : σ_51 280 = q_an G 265 g := (hf_50 _ (by omega)).trans hc_4
    have hc_53 : σ_51 284 = q_an G 2120 a := (hf_50 _ (by omega)).trans hc_5
    have hc_54 : σ_51 285 = q_bn G 1681 f := (hf_50 _ (by omega)).trans hc_6
    have hc_55 : σ_51 286 = q_an G 1681 nv := (hf_50 _ (by omega)).trans hc_7
    have hc_56 : σ_51 287 = q_an G 1681 ns := (hf_50 _ (by omega)).trans hc_8
    have hc_57 : σ_51 288 = q_an G 2000 mk := (hf_50 _ (by omega)).trans hc_9
    have hc_58 : σ_51 289 = q_an G 6724 va := (hf_50 _ (by omega)).trans hc_10
    have hc_59 : σ_51 290 = q_an G 6724 sp := (hf_50 _ (by omega)).trans hc_11
    have hc_60 : σ_51 291 = q_an G 80 lo := (hf_50 _ (by omega)).trans hc_12
    refine A_if_eqN (tgt := 31) hg dX11_follow_26 (by decide) (by decide) (fun c26 => absurd c26 (by decide)) (fun c26 => ?_)
    refine A_iconst (v := (nI (0))) hg dX11_follow_29 (by decide) ?_
    rw [hQ]
    exact A_ireturn hg (by decide) (by decide) rfl dX11_follow_30 ⟨rfl, Or.inl (⟨rfl, (q_range_f (by decide) c14), hc_49, (fun i hi => ((hf_50 i (by omega)).trans (hf_3 i (by omega))))⟩)⟩
set_option maxRecDepth 100000 in
set_option maxHeartbeats 4000000 in
theorem c_X11_turnsIn (G : GL) (ex : Bool) (n : Nat) (σ : Nat → va_E) (F : Nat → Int32) (g : Nat → Nat) (f : Nat → Nat) (nv : Nat → Nat) (ns : Nat → Nat) (mk : Nat → Nat) (va : Nat → Nat) (sp : Nat → Nat) (lo : Nat → Nat) (mc : Nat) (z : Nat) (as : Nat → Nat) (hc0 : σ 279 = o11 G F) (hc1 : σ 280 = q_an G 265 g) (hc2 : σ 282 = q_an G 265 as) (hc3 : σ 285 = q_bn G 1681 f) (hc4 : σ 286 = q_an G 1681 nv) (hc5 : σ 287 = q_an G 1681 ns) (hc6 : σ 288 = q_an G 2000 mk) (hc7 : σ 289 = q_an G 6724 va) (hc8 : σ 290 = q_an G 6724 sp) (hc9 : σ 291 = q_an G 80 lo) (hn : 294 ≤ n) (hg9 : s_gwf g) (hmc : mc + 6724 < 2 ^ 31) (hF12 : F 12 = nI mc) (hF16 : F 16 = nI z) (hmk : ∀ v : Nat, v < 2000 → mk v ≤ mc) (hTI : s_TI z lo va sp) (hlo : ∀ j : Nat, j < 80 → lo j < 2 ^ 31) : Ct G yX11_turnsIn cX11_turnsIn 2 (some .int) ⟨9, 0, 0, 208⟩ [.ref (q_h G + 279)] ex n σ (fun v9 σ2 => ∃ (f' : Nat → Nat), ∃ (nv' : Nat → Nat), ∃ (ns' : Nat → Nat), ∃ (mk' : Nat → Nat), ∃ (va' : Nat → Nat), ∃ (sp' : Nat → Nat), ∃ (lo' : Nat → Nat), ∃ (mc' : Nat), ∃ (z' : Nat), ∃ (as' : Nat → Nat), ∃ (q1 : Int32), ∃ (q2 : Int32), ∃ (q3 : Int32), v9 = some (.int (nI (s_fn g 600))) ∧ (s_TI z' lo' va' sp') ∧ (mc' ≤ mc + 6724) ∧ (∀ v : Nat, v < 2000 → mk' v ≤ mc') ∧ (∀ j : Nat, j < 80 → lo' j < 2 ^ 31) ∧ σ2 279 = o11 G (upd (upd (upd (upd (upd (upd F 7 (nI (0))) 12 (nI (mc'))) 16 (nI (z'))) 17 (q1)) 18 (q2)) 19 (q3)) ∧ σ2 280 = q_an G 265 g ∧ σ2 282 = q_an G 265 as' ∧ σ2 285 = q_bn G 1681 f' ∧ σ2 286 = q_an G 1681 nv' ∧ σ2 287 = q_an G 1681 ns' ∧ σ2 288 = q_an G 2000 mk' ∧ σ2 289 = q_an G 6724 va' ∧ σ2 290 = q_an G 6724 sp' ∧ σ2 291 = q_an G 80 lo' ∧ (∀ i : Nat, i ≠ 279 ∧ i ≠ 280 ∧ i ≠ 282 ∧ (i < 285 ∨ 291 < i) → σ2 i = σ i)) := by
  refine q_enter [some (.ref (q_h G + 279)), none] (by decide) (Nat.le_of_ble_eq_true rfl) rfl ?_
  intro K hg
  obtain ⟨Q, hQ⟩ : ∃ Q, Q = q_Q G K ex n 0 0 (fun v9 n' σ' => n' = n ∧ (fun v9 σ2 => ∃ (f' : Nat → Nat), ∃ (nv' : Nat → Nat), ∃ (ns' : Nat → Nat), ∃ (mk' : Nat → Nat), ∃ (va' : Nat → Nat), ∃ (sp' : Nat → Nat), ∃ (lo' : Nat → Nat), ∃ (mc' : Nat), ∃ (z' : Nat), ∃ (as' : Nat → Nat), ∃ (q1 : Int32), ∃ (q2 : Int32), ∃ (q3 : Int32), v9 = some (.int (nI (s_fn g 600))) ∧ (s_TI z' lo' va' sp') ∧ (mc' ≤ mc + 6724) ∧ (∀ v : Nat, v < 2000 → mk' v ≤ mc') ∧ (∀ j : Nat, j < 80 → lo' j < 2 ^ 31) ∧ σ2 279 = o11 G (upd (upd (upd (upd (upd (upd F 7 (nI (0))) 12 (nI (mc'))) 16 (nI (z'))) 17 (q1)) 18 (q2)) 19 (q3)) ∧ σ2 280 = q_an G 265 g ∧ σ2 282 = q_an G 265 as' ∧ σ2 285 = q_bn G 1681 f' ∧ σ2 286 = q_an G 1681 nv' ∧ σ2 287 = q_an G 1681 ns' ∧ σ2 288 = q_an G 2000 mk' ∧ σ2 289 = q_an G 6724 va' ∧ σ2 290 = q_an G 6724 sp' ∧ σ2 291 = q_an G 80 lo' ∧ (∀ i : Nat, i ≠ 279 ∧ i ≠ 280 ∧ i ≠ 282 ∧ (i < 285 ∨ 291 < i) → σ2 i = σ i)) v9 σ') q_noX := ⟨_, rfl⟩
  refine (?_ : AJ G K (q_Q G K ex n 0 0 _ _) 0 0 ex n 0 _ _ σ)
  rw [← hQ]
  refine A_aload_n hg dX11_turnsIn_0 rfl rfl ?_
  refine A_iconst (v := (nI (0))) hg dX11_turnsIn_1 (by decide) ?_
  refine A_putf hg fl_RX11_67 dX11_turnsIn_2 hc0 (by omega) (Nat.le_of_ble_eq_true rfl) rfl rfl rfl (fun σ_1 hc_2 hf_3 => ?_)
  have hc_2 : σ_1 279 = o11 G (upd F 7 (nI (0))) := hc_2
  have hc_4 : σ_1 280 = q_an G 265 g := (hf_3 _ (by omega)).trans hc1
  have hc_5 : σ_1 282 = q_an G 265 as := (hf_3 _ (by omega)).trans hc2
  have hc_6 : σ_1 285 = q_bn G 1681 f := (hf_3 _ (by omega)).trans hc3
  have hc_7 : σ_1 286 = q_an G 1681 nv := (hf_3 _ (by omega)).trans hc4
  have hc_8 : σ_1 287 = q_an G 1681 ns := (hf_3 _ (by omega)).trans hc5
  have hc_9 : σ_1 288 = q_an G 2000 mk := (hf_3 _ (by omega)).trans hc6
  have hc_10 : σ_1 289 = q_an G 6724 va := (hf_3 _ (by omega)).trans hc7
  have hc_11 : σ_1 290 = q_an G 6724 sp := (hf_3 _ (by omega)).trans hc8
  have hc_12 : σ_1 291 = q_an G 80 lo := (hf_3 _ (by omega)).trans hc9
  refine A_aload_n hg dX11_turnsIn_5 rfl rfl ?_
  refine A_vV (kc2 := 0) (ks2 := 0) (As := []) (rest := []) hg lk_RX11_389 in_X11_laysAll se_X11_laysAll rfl dX11_turnsIn_6 ⟨by decide, by decide⟩ rfl rfl ⟨by decide, by decide⟩ hc_2 (by omega) rfl rfl (Nat.le_of_ble_eq_true rfl) (c_X11_laysAll G ex n σ_1 (upd F 7 (nI (0))) g f nv ns mk va sp lo mc z hc_2 hc_4 hc_6 hc_7 hc_8 hc_9 hc_10 hc_11 hc_12 (by omega) hg9.1 hg9.2.2.2.2.2.1 (by omega) hF12 hF16 hmk hTI hlo) ?_
  rintro σ_22 ⟨f', nv', ns', mk', va', sp', lo', mc', z', hTI2, hCU2, hmc2, hmk2, hlo2, hc_13, hc_14, hc_15, hc_16, hc_17, hc_18, hc_19, hc_20, hf_21⟩
  have hc_13 : σ_22 279 = o11 G (upd (upd (upd F 7 (nI (0))) 12 (nI (mc'))) 16 (nI (z'))) := hc_13
  have hc_23 : σ_22 280 = q_an G 265 g := (hf_21 _ (by omega)).trans hc_4
  have hc_24 : σ_22 282 = q_an G 265 as := (hf_21 _ (by omega)).trans hc_5
  have hCV2 : ∀ r : Nat, r < g 0 → ∀ q : Nat, q < 1681 → va' (1681 * r + q) = s_V (s_rule g r) q := fun r hr q hq => (hCU2 r hr q hq).1
  refine A_aload_n hg dX11_turnsIn_9 rfl rfl ?_
  refine A_getf (v := .ref (q_h G + 280)) hg fl_RX11_7 dX11_turnsIn_10 hc_13 (by omega) rfl ?_
  refine A_iconst (v := (nI (0))) hg dX11_turnsIn_13 (by decide) ?_
  refine A_aload_n hg dX11_turnsIn_14 rfl rfl ?_
  refine A_getf (v := .ref (q_h G + 282)) hg fl_RX11_16 dX11_turnsIn_15 hc_13 (by omega) rfl ?_
  refine A_iconst (v := (nI (0))) hg dX11_turnsIn_18 (by decide) ?_
  refine A_vS (kc2 := 0) (ks2 := 0) (As := [.ref (q_h G + 280), .int (nI (0)), .ref (q_h G + 282), .int (nI (0))]) (rest := []) hg lk_RX11_73 st_X11_copies dX11_turnsIn_19 ⟨by decide, by decide⟩ rfl rfl ⟨by decide, by decide⟩ rfl rfl (Nat.le_of_ble_eq_true rfl) (c_X11_copies G ex n σ_22 280 282 265 265 g as 0 0 hc_23 hc_24 (by omega) (by omega) (by omega) (by omega) (by omega) (by omega) (by omega) (by omega)) ?_
  rintro σ_27 ⟨as', ha1, ha2, hc_25, hf_26⟩
  have hc_28 : σ_27 280 = q_an G 265 g := (hf_26 _ (by omega)).trans hc_23
  have hc_29 : σ_27 279 = o11 G (upd (upd (upd F 7 (nI (0))) 12 (nI (mc'))) 16 (nI (z'))) := (hf_26 _ (by omega)).trans hc_13
  have hc_30 : σ_27 285 = q_bn G 1681 f' := (hf_26 _ (by omega)).trans hc_14
  have hc_31 : σ_27 286 = q_an G 1681 nv' := (hf_26 _ (by omega)).trans hc_15
  have hc_32 : σ_27 287 = q_an G 1681 ns' := (hf_26 _ (by omega)).trans hc_16
  have hc_33 : σ_27 288 = q_an G 2000 mk' := (hf_26 _ (by omega)).trans hc_17
  have hc_34 : σ_27 289 = q_an G 6724 va' := (hf_26 _ (by omega)).trans hc_18
  have hc_35 : σ_27 290 = q_an G 6724 sp' := (hf_26 _ (by omega)).trans hc_19
  have hc_36 : σ_27 291 = q_an G 80 lo' := (hf_26 _ (by omega)).trans hc_20
  refine A_aload_n hg dX11_turnsIn_22 rfl rfl ?_
  refine A_sipush (v := (nI (600))) hg dX11_turnsIn_23 (by decide) ?_
  refine A_hV (kc2 := 0) (ks2 := 0) (As := [.int (nI (600))]) (rest := []) hg lk_RX11_448 in_X11_follows se_X11_follows rfl dX11_turnsIn_26 ⟨by decide, by decide⟩ rfl rfl ⟨by decide, by decide⟩ hc_29 (by omega) rfl rfl (Nat.le_of_ble_eq_true rfl) (c_X11_follows G ex n σ_27 (upd (upd (upd F 7 (nI (0))) 12 (nI (mc'))) 16 (nI (z'))) g va' 600 hc_29 hc_28 hc_34 (by omega) hg9 hCV2 (by omega)) ?_
  rintro _ σ_40 ⟨q1, q2, q3, rfl, hc_37, hc_38, hf_39⟩
  refine (?_ : AJ G K Q 0 0 ex n 29 [some (.ref (q_h G + 279)), none] [.int (nI (s_fn g 600))] σ_40)
  have hc_37 : σ_40 279 = o11 G (upd (upd (upd (upd (upd (upd F 7 (nI (0))) 12 (nI (mc'))) 16 (nI (z'))) 17 (q1)) 18 (q2)) 19 (q3)) := hc_37
  have hc_41 : σ_40 285 = q_bn G 1681 f' := (hf_39 _ (by omega)).trans hc_30
  have hc_42 : σ_40 286 = q_an G 1681 nv' := (hf_39 _ (by omega)).trans hc_31
  have hc_43 : σ_40 287 = q_an G 1681 ns' := (hf_39 _ (by omega)).trans hc_32
  have hc_44 : σ_40 288 = q_an G 2000 mk' := (hf_39 _ (by omega)).trans hc_33
  have hc_45 : σ_40 289 = q_an G 6724 va' := (hf_39 _ (by omega)).trans hc_34
  have hc_46 : σ_40 290 = q_an G 6724 sp' := (hf_39 _ (by omega)).trans hc_35
  have hc_47 : σ_40 291 = q_an G 80 lo' := (hf_39 _ (by omega)).trans hc_36
  have hc_48 : σ_40 282 = q_an G 265 as' := (hf_39 _ (by omega)).trans hc_25
  refine A_istore_n hg dX11_turnsIn_29 rfl (by decide) (q_c1d rfl) ?_
  refine A_eq (ls2 := [some (.ref (q_h G + 279)), some (.int (nI (s_fn g 600)))]) (st2 := []) (pc2 := 0) rfl rfl ?_
  have hgi := (s_gwf_it hg9 (s_fn g 600)).2.2.2.1
  refine A_aload_n hg dX11_turnsIn_30 rfl rfl ?_
  refine A_getf (v := .ref (q_h G + 282)) hg fl_RX11_16 dX11_turnsIn_31 hc_37 (by omega) rfl ?_
  refine A_iconst (v := (nI (0))) hg dX11_turnsIn_34 (by decide) ?_
  refine A_aload_n hg dX11_turnsIn_35 rfl rfl ?_
  refine A_getf (v := .ref (q_h G + 280)) hg fl_RX11_7 dX11_turnsIn_36 hc_37 (by omega) rfl ?_
  refine A_iconst (v := (nI (0))) hg dX11_turnsIn_39 (by decide) ?_
  refine A_vS (kc2 := 0) (ks2 := 0) (As := [.ref (q_h G + 282), .int (nI (0)), .ref (q_h G + 280), .int (nI (0))]) (rest := []) hg lk_RX11_73 st_X11_copies dX11_turnsIn_40 ⟨by decide, by decide⟩ rfl rfl ⟨by decide, by decide⟩ rfl rfl (Nat.le_of_ble_eq_true rfl) (c_X11_copies G ex n σ_40 282 280 265 265 as' (s_it g (s_fn g 600)) 0 0 hc_48 hc_38 (by omega) (by omega) (by omega) (by omega) (by omega) (by omega) (by omega) (by omega)) ?_
  rintro σ_51 ⟨gb, hb1, hb2, hc_49, hf_50⟩
  have hc_52 : σ_51 285 = q_bn G 1681 f' := (hf_50 _ (by omega)).trans hc_41
  have hc_53 : σ_51 286 = q_an G 1681 nv' := (hf_50 _ (by omega)).trans hc_42
  have hc_54 : σ_51 287 = q_an G 1681 ns' := (hf_50 _ (by omega)).trans hc_43
  have hc_55 : σ_51 288 = q_an G 2000 mk' := (hf_50 _ (by omega)).trans hc_44
  have hc_56 : σ_51 289 = q_an G 6724 va' := (hf_50 _ (by omega)).trans hc_45
  have hc_57 : σ_51 290 = q_an G 6724 sp' := (hf_50 _ (by omega)).trans hc_46
  have hc_58 : σ_51 291 = q_an G 80 lo' := (hf_50 _ (by omega)).trans hc_47
  have hc_59 : σ_51 282 = q_an G 265 as' := (hf_50 _ (by omega)).trans hc_48
  have hc_60 : σ_51 279 = o11 G (upd (upd (upd (upd (upd (upd F 7 (nI (0))) 12 (nI (mc'))) 16 (nI (z'))) 17 (q1)) 18 (q2)) 19 (q3)) := (hf_50 _ (by omega)).trans hc_37
  refine A_iload_n hg dX11_turnsIn_43 rfl rfl ?_
  refine A_canon g hc_49 (fun jj hj => by have e1 := hb1 jj hj; have e2 := ha1 jj hj; rw [Nat.zero_add] at e1 e2; rw [e1, e2]) (fun σ_61 hc_62 hf_63 => ?_)
  have hc_64 : σ_61 285 = q_bn G 1681 f' := (hf_63 _ (by omega)).trans hc_52
  have hc_65 : σ_61 286 = q_an G 1681 nv' := (hf_63 _ (by omega)).trans hc_53
  have hc_66 : σ_61 287 = q_an G 1681 ns' := (hf_63 _ (by omega)).trans hc_54
  have hc_67 : σ_61 288 = q_an G 2000 mk' := (hf_63 _ (by omega)).trans hc_55
  have hc_68 : σ_61 289 = q_an G 6724 va' := (hf_63 _ (by omega)).trans hc_56
  have hc_69 : σ_61 290 = q_an G 6724 sp' := (hf_63 _ (by omega)).trans hc_57
  have hc_70 : σ_61 291 = q_an G 80 lo' := (hf_63 _ (by omega)).trans hc_58
  have hc_71 : σ_61 282 = q_an G 265 as' := (hf_63 _ (by omega)).trans hc_59
  have hc_72 : σ_61 279 = o11 G (upd (upd (upd (upd (upd (upd F 7 (nI (0))) 12 (nI (mc'))) 16 (nI (z'))) 17 (q1)) 18 (q2)) 19 (q3)) := (hf_63 _ (by omega)).trans hc_60
  rw [hQ]
  exact A_ireturn hg (by decide) (by decide) rfl dX11_turnsIn_44 ⟨rfl, ⟨f', nv', ns', mk', va', sp', lo', mc', z', as', q1, q2, q3, rfl, hTI2, hmc2, hmk2, hlo2, hc_72, hc_62, hc_71, hc_64, hc_65, hc_66, hc_67, hc_68, hc_69, hc_70, (fun i hi => ((hf_63 i (by omega)).trans ((hf_50 i (by omega)).trans ((hf_39 i (by omega)).trans ((hf_26 i (by omega)).trans ((hf_21 i (by omega)).trans (hf_3 i (by omega))))))))⟩⟩
set_option maxRecDepth 100000 in
set_option maxHeartbeats 4000000 in
theorem c_X11_winner (G : GL) (ex : Bool) (n : Nat) (σ : Nat → va_E) (F : Nat → Int32) (g : Nat → Nat) (f : Nat → Nat) (nv : Nat → Nat) (ns : Nat → Nat) (mk : Nat → Nat) (va : Nat → Nat) (sp : Nat → Nat) (lo : Nat → Nat) (mc : Nat) (z : Nat) (as : Nat → Nat) (hc0 : σ 279 = o11 G F) (hc1 : σ 280 = q_an G 265 g) (hc2 : σ 282 = q_an G 265 as) (hc3 : σ 285 = q_bn G 1681 f) (hc4 : σ 286 = q_an G 1681 nv) (hc5 : σ 287 = q_an G 1681 ns) (hc6 : σ 288 = q_an G 2000 mk) (hc7 : σ 289 = q_an G 6724 va) (hc8 : σ 290 = q_an G 6724 sp) (hc9 : σ 291 = q_an G 80 lo) (hn : 294 ≤ n) (hg9 : s_gwf g) (hmc : mc + 6724 < 2 ^ 31) (hF12 : F 12 = nI mc) (hF16 : F 16 = nI z) (hmk : ∀ v : Nat, v < 2000 → mk v ≤ mc) (hTI : s_TI z lo va sp) (hlo : ∀ j : Nat, j < 80 → lo j < 2 ^ 31) : Ct G yX11_winner cX11_winner 3 (some .int) ⟨9, 0, 0, 208⟩ [.ref (q_h G + 279)] ex n σ (fun v9 σ2 => ∃ (f' : Nat → Nat), ∃ (nv' : Nat → Nat), ∃ (ns' : Nat → Nat), ∃ (mk' : Nat → Nat), ∃ (va' : Nat → Nat), ∃ (sp' : Nat → Nat), ∃ (lo' : Nat → Nat), ∃ (mc' : Nat), ∃ (z' : Nat), ∃ (as' : Nat → Nat), ∃ (q1 : Int32), ∃ (q2 : Int32), ∃ (q3 : Int32), v9 = some (.int (nI (1 - s_it g (s_fn g 600) 3))) ∧ (s_TI z' lo' va' sp') ∧ (mc' ≤ mc + 6724) ∧ (∀ v : Nat, v < 2000 → mk' v ≤ mc') ∧ (∀ j : Nat, j < 80 → lo' j < 2 ^ 31) ∧ σ2 279 = o11 G (upd (upd (upd (upd (upd (upd F 7 (nI (0))) 12 (nI (mc'))) 16 (nI (z'))) 17 (q1)) 18 (q2)) 19 (q3)) ∧ σ2 280 = q_an G 265 g ∧ σ2 282 = q_an G 265 as' ∧ σ2 285 = q_bn G 1681 f' ∧ σ2 286 = q_an G 1681 nv' ∧ σ2 287 = q_an G 1681 ns' ∧ σ2 288 = q_an G 2000 mk' ∧ σ2 289 = q_an G 6724 va' ∧ σ2 290 = q_an G 6724 sp' ∧ σ2 291 = q_an G 80 lo' ∧ (∀ i : Nat, i ≠ 279 ∧ i ≠ 280 ∧ i ≠ 282 ∧ (i < 285 ∨ 291 < i) → σ2 i = σ i)) := by
  refine q_enter [some (.ref (q_h G + 279)), none, none] (by decide) (Nat.le_of_ble_eq_true rfl) rfl ?_
  intro K hg
  obtain ⟨Q, hQ⟩ : ∃ Q, Q = q_Q G K ex n 0 0 (fun v9 n' σ' => n' = n ∧ (fun v9 σ2 => ∃ (f' : Nat → Nat), ∃ (nv' : Nat → Nat), ∃ (ns' : Nat → Nat), ∃ (mk' : Nat → Nat), ∃ (va' : Nat → Nat), ∃ (sp' : Nat → Nat), ∃ (lo' : Nat → Nat), ∃ (mc' : Nat), ∃ (z' : Nat), ∃ (as' : Nat → Nat), ∃ (q1 : Int32), ∃ (q2 : Int32), ∃ (q3 : Int32), v9 = some (.int (nI (1 - s_it g (s_fn g 600) 3))) ∧ (s_TI z' lo' va' sp') ∧ (mc' ≤ mc + 6724) ∧ (∀ v : Nat, v < 2000 → mk' v ≤ mc') ∧ (∀ j : Nat, j < 80 → lo' j < 2 ^ 31) ∧ σ2 279 = o11 G (upd (upd (upd (upd (upd (upd F 7 (nI (0))) 12 (nI (mc'))) 16 (nI (z'))) 17 (q1)) 18 (q2)) 19 (q3)) ∧ σ2 280 = q_an G 265 g ∧ σ2 282 = q_an G 265 as' ∧ σ2 285 = q_bn G 1681 f' ∧ σ2 286 = q_an G 1681 nv' ∧ σ2 287 = q_an G 1681 ns' ∧ σ2 288 = q_an G 2000 mk' ∧ σ2 289 = q_an G 6724 va' ∧ σ2 290 = q_an G 6724 sp' ∧ σ2 291 = q_an G 80 lo' ∧ (∀ i : Nat, i ≠ 279 ∧ i ≠ 280 ∧ i ≠ 282 ∧ (i < 285 ∨ 291 < i) → σ2 i = σ i)) v9 σ') q_noX := ⟨_, rfl⟩
  refine (?_ : AJ G K (q_Q G K ex n 0 0 _ _) 0 0 ex n 0 _ _ σ)
  rw [← hQ]
  refine A_aload_n hg dX11_winner_0 rfl rfl ?_
  refine A_iconst (v := (nI (0))) hg dX11_winner_1 (by decide) ?_
  refine A_putf hg fl_RX11_67 dX11_winner_2 hc0 (by omega) (Nat.le_of_ble_eq_true rfl) rfl rfl rfl (fun σ_1 hc_2 hf_3 => ?_)
  have hc_2 : σ_1 279 = o11 G (upd F 7 (nI (0))) := hc_2
  have hc_4 : σ_1 280 = q_an G 265 g := (hf_3 _ (by omega)).trans hc1
  have hc_5 : σ_1 282 = q_an G 265 as := (hf_3 _ (by omega)).trans hc2
  have hc_6 : σ_1 285 = q_bn G 1681 f := (hf_3 _ (by omega)).trans hc3
  have hc_7 : σ_1 286 = q_an G 1681 nv := (hf_3 _ (by omega)).trans hc4
  have hc_8 : σ_1 287 = q_an G 1681 ns := (hf_3 _ (by omega)).trans hc5
  have hc_9 : σ_1 288 = q_an G 2000 mk := (hf_3 _ (by omega)).trans hc6
  have hc_10 : σ_1 289 = q_an G 6724 va := (hf_3 _ (by omega)).trans hc7
  have hc_11 : σ_1 290 = q_an G 6724 sp := (hf_3 _ (by omega)).trans hc8
  have hc_12 : σ_1 291 = q_an G 80 lo := (hf_3 _ (by omega)).trans hc9
  refine A_aload_n hg dX11_winner_5 rfl rfl ?_
  refine A_vV (kc2 := 0) (ks2 := 0) (As := []) (rest := []) hg lk_RX11_389 in_X11_laysAll se_X11_laysAll rfl dX11_winner_6 ⟨by decide, by decide⟩ rfl rfl ⟨by decide, by decide⟩ hc_2 (by omega) rfl rfl (Nat.le_of_ble_eq_true rfl) (c_X11_laysAll G ex n σ_1 (upd F 7 (nI (0))) g f nv ns mk va sp lo mc z hc_2 hc_4 hc_6 hc_7 hc_8 hc_9 hc_10 hc_11 hc_12 (by omega) hg9.1 hg9.2.2.2.2.2.1 (by omega) hF12 hF16 hmk hTI hlo) ?_
  rintro σ_22 ⟨f', nv', ns', mk', va', sp', lo', mc', z', hTI2, hCU2, hmc2, hmk2, hlo2, hc_13, hc_14, hc_15, hc_16, hc_17, hc_18, hc_19, hc_20, hf_21⟩
  have hc_13 : σ_22 279 = o11 G (upd (upd (upd F 7 (nI (0))) 12 (nI (mc'))) 16 (nI (z'))) := hc_13
  have hc_23 : σ_22 280 = q_an G 265 g := (hf_21 _ (by omega)).trans hc_4
  have hc_24 : σ_22 282 = q_an G 265 as := (hf_21 _ (by omega)).trans hc_5
  have hCV2 : ∀ r : Nat, r < g 0 → ∀ q : Nat, q < 1681 → va' (1681 * r + q) = s_V (s_rule g r) q := fun r hr q hq => (hCU2 r hr q hq).1
  refine A_aload_n hg dX11_winner_9 rfl rfl ?_
  refine A_getf (v := .ref (q_h G + 280)) hg fl_RX11_7 dX11_winner_10 hc_13 (by omega) rfl ?_
  refine A_iconst (v := (nI (0))) hg dX11_winner_13 (by decide) ?_
  refine A_aload_n hg dX11_winner_14 rfl rfl ?_
  refine A_getf (v := .ref (q_h G + 282)) hg fl_RX11_16 dX11_winner_15 hc_13 (by omega) rfl ?_
  refine A_iconst (v := (nI (0))) hg dX11_winner_18 (by decide) ?_
  refine A_vS (kc2 := 0) (ks2 := 0) (As := [.ref (q_h G + 280), .int (nI (0)), .ref (q_h G + 282), .int (nI (0))]) (rest := []) hg lk_RX11_73 st_X11_copies dX11_winner_19 ⟨by decide, by decide⟩ rfl rfl ⟨by decide, by decide⟩ rfl rfl (Nat.le_of_ble_eq_true rfl) (c_X11_copies G ex n σ_22 280 282 265 265 g as 0 0 hc_23 hc_24 (by omega) (by omega) (by omega) (by omega) (by omega) (by omega) (by omega) (by omega)) ?_
  rintro σ_27 ⟨as', ha1, ha2, hc_25, hf_26⟩
  have hc_28 : σ_27 280 = q_an G 265 g := (hf_26 _ (by omega)).trans hc_23
  have hc_29 : σ_27 279 = o11 G (upd (upd (upd F 7 (nI (0))) 12 (nI (mc'))) 16 (nI (z'))) := (hf_26 _ (by omega)).trans hc_13
  have hc_30 : σ_27 285 = q_bn G 1681 f' := (hf_26 _ (by omega)).trans hc_14
  have hc_31 : σ_27 286 = q_an G 1681 nv' := (hf_26 _ (by omega)).trans hc_15
  have hc_32 : σ_27 287 = q_an G 1681 ns' := (hf_26 _ (by omega)).trans hc_16
  have hc_33 : σ_27 288 = q_an G 2000 mk' := (hf_26 _ (by omega)).trans hc_17
  have hc_34 : σ_27 289 = q_an G 6724 va' := (hf_26 _ (by omega)).trans hc_18
  have hc_35 : σ_27 290 = q_an G 6724 sp' := (hf_26 _ (by omega)).trans hc_19
  have hc_36 : σ_27 291 = q_an G 80 lo' := (hf_26 _ (by omega)).trans hc_20
  refine A_aload_n hg dX11_winner_22 rfl rfl ?_
  refine A_sipush (v := (nI (600))) hg dX11_winner_23 (by decide) ?_
  refine A_hV (kc2 := 0) (ks2 := 0) (As := [.int (nI (600))]) (rest := []) hg lk_RX11_448 in_X11_follows se_X11_follows rfl dX11_winner_26 ⟨by decide, by decide⟩ rfl rfl ⟨by decide, by decide⟩ hc_29 (by omega) rfl rfl (Nat.le_of_ble_eq_true rfl) (c_X11_follows G ex n σ_27 (upd (upd (upd F 7 (nI (0))) 12 (nI (mc'))) 16 (nI (z'))) g va' 600 hc_29 hc_28 hc_34 (by omega) hg9 hCV2 (by omega)) ?_
  rintro _ σ_40 ⟨q1, q2, q3, rfl, hc_37, hc_38, hf_39⟩
  refine (?_ : AJ G K Q 0 0 ex n 29 [some (.ref (q_h G + 279)), none, none] [.int (nI (s_fn g 600))] σ_40)
  have hc_37 : σ_40 279 = o11 G (upd (upd (upd (upd (upd (upd F 7 (nI (0))) 12 (nI (mc'))) 16 (nI (z'))) 17 (q1)) 18 (q2)) 19 (q3)) := hc_37
  have hc_41 : σ_40 285 = q_bn G 1681 f' := (hf_39 _ (by omega)).trans hc_30
  have hc_42 : σ_40 286 = q_an G 1681 nv' := (hf_39 _ (by omega)).trans hc_31
  have hc_43 : σ_40 287 = q_an G 1681 ns' := (hf_39 _ (by omega)).trans hc_32
  have hc_44 : σ_40 288 = q_an G 2000 mk' := (hf_39 _ (by omega)).trans hc_33
  have hc_45 : σ_40 289 = q_an G 6724 va' := (hf_39 _ (by omega)).trans hc_34
  have hc_46 : σ_40 290 = q_an G 6724 sp' := (hf_39 _ (by omega)).trans hc_35
  have hc_47 : σ_40 291 = q_an G 80 lo' := (hf_39 _ (by omega)).trans hc_36
  have hc_48 : σ_40 282 = q_an G 265 as' := (hf_39 _ (by omega)).trans hc_25
  refine A_istore_n hg dX11_winner_29 rfl (by decide) (q_c1d rfl) ?_
  refine A_eq (ls2 := [some (.ref (q_h G + 279)), some (.int (nI (s_fn g 600))), none]) (st2 := []) (pc2 := 0) rfl rfl ?_
  have hgi := (s_gwf_it hg9 (s_fn g 600)).2.2.2.1
  refine A_iconst (v := (nI (1))) hg dX11_winner_30 (by decide) ?_
  refine A_aload_n hg dX11_winner_31 rfl rfl ?_
  refine A_getf (v := .ref (q_h G + 280)) hg fl_RX11_7 dX11_winner_32 hc_37 (by omega) rfl ?_
  refine A_iconst (v := (nI (3))) hg dX11_winner_35 (by decide) ?_
  refine A_iald (j := 3) hg dX11_winner_36 hc_38 (by omega) (by omega) (by decide) ?_
  refine A_isubN hg dX11_winner_37 (by omega) ?_
  refine A_istore_n hg dX11_winner_38 rfl (by decide) (q_c1d rfl) ?_
  refine A_eq (ls2 := [some (.ref (q_h G + 279)), some (.int (nI (s_fn g 600))), some (.int (nI (1 - ((s_it g (s_fn g 600)) 3))))]) (st2 := []) (pc2 := 0) rfl rfl ?_
  refine A_aload_n hg dX11_winner_39 rfl rfl ?_
  refine A_getf (v := .ref (q_h G + 282)) hg fl_RX11_16 dX11_winner_40 hc_37 (by omega) rfl ?_
  refine A_iconst (v := (nI (0))) hg dX11_winner_43 (by decide) ?_
  refine A_aload_n hg dX11_winner_44 rfl rfl ?_
  refine A_getf (v := .ref (q_h G + 280)) hg fl_RX11_7 dX11_winner_45 hc_37 (by omega) rfl ?_
  refine A_iconst (v := (nI (0))) hg dX11_winner_48 (by decide) ?_
  refine A_vS (kc2 := 0) (ks2 := 0) (As := [.ref (q_h G + 282), .int (nI (0)), .ref (q_h G + 280), .int (nI (0))]) (rest := []) hg lk_RX11_73 st_X11_copies dX11_winner_49 ⟨by decide, by decide⟩ rfl rfl ⟨by decide, by decide⟩ rfl rfl (Nat.le_of_ble_eq_true rfl) (c_X11_copies G ex n σ_40 282 280 265 265 as' (s_it g (s_fn g 600)) 0 0 hc_48 hc_38 (by omega) (by omega) (by omega) (by omega) (by omega) (by omega) (by omega) (by omega)) ?_
  rintro σ_51 ⟨gb, hb1, hb2, hc_49, hf_50⟩
  have hc_52 : σ_51 285 = q_bn G 1681 f' := (hf_50 _ (by omega)).trans hc_41
  have hc_53 : σ_51 286 = q_an G 1681 nv' := (hf_50 _ (by omega)).trans hc_42
  have hc_54 : σ_51 287 = q_an G 1681 ns' := (hf_50 _ (by omega)).trans hc_43
  have hc_55 : σ_51 288 = q_an G 2000 mk' := (hf_50 _ (by omega)).trans hc_44
  have hc_56 : σ_51 289 = q_an G 6724 va' := (hf_50 _ (by omega)).trans hc_45
  have hc_57 : σ_51 290 = q_an G 6724 sp' := (hf_50 _ (by omega)).trans hc_46
  have hc_58 : σ_51 291 = q_an G 80 lo' := (hf_50 _ (by omega)).trans hc_47
  have hc_59 : σ_51 282 = q_an G 265 as' := (hf_50 _ (by omega)).trans hc_48
  have hc_60 : σ_51 279 = o11 G (upd (upd (upd (upd (upd (upd F 7 (nI (0))) 12 (nI (mc'))) 16 (nI (z'))) 17 (q1)) 18 (q2)) 19 (q3)) := (hf_50 _ (by omega)).trans hc_37
  refine A_iload_n hg dX11_winner_52 rfl rfl ?_
  refine A_canon g hc_49 (fun jj hj => by have e1 := hb1 jj hj; have e2 := ha1 jj hj; rw [Nat.zero_add] at e1 e2; rw [e1, e2]) (fun σ_61 hc_62 hf_63 => ?_)
  have hc_64 : σ_61 285 = q_bn G 1681 f' := (hf_63 _ (by omega)).trans hc_52
  have hc_65 : σ_61 286 = q_an G 1681 nv' := (hf_63 _ (by omega)).trans hc_53
  have hc_66 : σ_61 287 = q_an G 1681 ns' := (hf_63 _ (by omega)).trans hc_54
  have hc_67 : σ_61 288 = q_an G 2000 mk' := (hf_63 _ (by omega)).trans hc_55
  have hc_68 : σ_61 289 = q_an G 6724 va' := (hf_63 _ (by omega)).trans hc_56
  have hc_69 : σ_61 290 = q_an G 6724 sp' := (hf_63 _ (by omega)).trans hc_57
  have hc_70 : σ_61 291 = q_an G 80 lo' := (hf_63 _ (by omega)).trans hc_58
  have hc_71 : σ_61 282 = q_an G 265 as' := (hf_63 _ (by omega)).trans hc_59
  have hc_72 : σ_61 279 = o11 G (upd (upd (upd (upd (upd (upd F 7 (nI (0))) 12 (nI (mc'))) 16 (nI (z'))) 17 (q1)) 18 (q2)) 19 (q3)) := (hf_63 _ (by omega)).trans hc_60
  rw [hQ]
  exact A_ireturn hg (by decide) (by decide) rfl dX11_winner_53 ⟨rfl, ⟨f', nv', ns', mk', va', sp', lo', mc', z', as', q1, q2, q3, rfl, hTI2, hmc2, hmk2, hlo2, hc_72, hc_62, hc_71, hc_64, hc_65, hc_66, hc_67, hc_68, hc_69, hc_70, (fun i hi => ((hf_63 i (by omega)).trans ((hf_50 i (by omega)).trans ((hf_39 i (by omega)).trans ((hf_26 i (by omega)).trans ((hf_21 i (by omega)).trans (hf_3 i (by omega))))))))⟩⟩
end
