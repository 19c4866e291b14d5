section
set_option maxRecDepth 100000 in
set_option maxHeartbeats 4000000 in
theorem c_X11_share (G : GL) (ex : Bool) (n : Nat) (σ : Nat → va_E) (F : Nat → Int32) (g : Nat → Nat) (f : Nat → Nat) (nv : Nat → Nat) (ns : Nat → Nat) (mk : Nat → Nat) (va : Nat → Nat) (sp : Nat → Nat) (lo : Nat → Nat) (mc : Nat) (z : Nat) (r : Int32) (hc0 : σ 279 = o11 G F) (hc1 : σ 280 = q_an G 265 g) (hc2 : σ 285 = q_bn G 1681 f) (hc3 : σ 286 = q_an G 1681 nv) (hc4 : σ 287 = q_an G 1681 ns) (hc5 : σ 288 = q_an G 2000 mk) (hc6 : σ 289 = q_an G 6724 va) (hc7 : σ 290 = q_an G 6724 sp) (hc8 : σ 291 = q_an G 80 lo) (hn : 294 ≤ n) (hg9 : s_gwf g) (hmc : mc + 6724 < 2 ^ 31) (hF12 : F 12 = nI mc) (hF16 : F 16 = nI z) (hmk : ∀ v : Nat, v < 2000 → mk v ≤ mc) (hTI : s_TI z lo va sp) (hlo : ∀ j : Nat, j < 80 → lo j < 2 ^ 31) (hfd : q_fdn) : Ct G yX11_share cX11_share 2 (some .float) ⟨6, 0, 0, 137⟩ [.ref (q_h G + 279), .int (r)] ex n σ (fun v9 σ2 => (v9 = some (.float (0)) ∧ (∀ j : Nat, j < g 0 → r = nI j → False) ∧ σ2 279 = o11 G (upd F 7 (nI (1))) ∧ (∀ i : Nat, i ≠ 279 → σ2 i = σ i)) ∨ (∃ (r1 : Nat), ∃ (f' : Nat → Nat), ∃ (nv' : Nat → Nat), ∃ (ns' : Nat → Nat), ∃ (mk' : Nat → Nat), ∃ (va' : Nat → Nat), ∃ (sp' : Nat → Nat), ∃ (lo' : Nat → Nat), ∃ (mc' : Nat), ∃ (z' : Nat), v9 = some (.float (FP.fdiv (FP.i2f (nI (s_lzc (s_rule g r1) 1681))) 1154621440)) ∧ (r = nI r1) ∧ (r1 < g 0) ∧ (s_TI z' lo' va' sp') ∧ (mc' ≤ mc + 6724) ∧ (∀ v : Nat, v < 2000 → mk' v ≤ mc') ∧ (∀ j : Nat, j < 80 → lo' j < 2 ^ 31) ∧ σ2 279 = o11 G (upd (upd (upd F 7 (nI (0))) 12 (nI (mc'))) 16 (nI (z'))) ∧ σ2 285 = q_bn G 1681 f' ∧ σ2 286 = q_an G 1681 nv' ∧ σ2 287 = q_an G 1681 ns' ∧ σ2 288 = q_an G 2000 mk' ∧ σ2 289 = q_an G 6724 va' ∧ σ2 290 = q_an G 6724 sp' ∧ σ2 291 = q_an G 80 lo' ∧ (∀ i : Nat, i ≠ 279 ∧ (i < 285 ∨ 291 < i) → σ2 i = σ i))) := by
  refine q_enter [some (.ref (q_h G + 279)), some (.int (r))] (by decide) (Nat.le_of_ble_eq_true rfl) rfl ?_
  intro K hg
  obtain ⟨Q, hQ⟩ : ∃ Q, Q = q_Q G K ex n 0 0 (fun v9 n' σ' => n' = n ∧ (fun v9 σ2 => (v9 = some (.float (0)) ∧ (∀ j : Nat, j < g 0 → r = nI j → False) ∧ σ2 279 = o11 G (upd F 7 (nI (1))) ∧ (∀ i : Nat, i ≠ 279 → σ2 i = σ i)) ∨ (∃ (r1 : Nat), ∃ (f' : Nat → Nat), ∃ (nv' : Nat → Nat), ∃ (ns' : Nat → Nat), ∃ (mk' : Nat → Nat), ∃ (va' : Nat → Nat), ∃ (sp' : Nat → Nat), ∃ (lo' : Nat → Nat), ∃ (mc' : Nat), ∃ (z' : Nat), v9 = some (.float (FP.fdiv (FP.i2f (nI (s_lzc (s_rule g r1) 1681))) 1154621440)) ∧ (r = nI r1) ∧ (r1 < g 0) ∧ (s_TI z' lo' va' sp') ∧ (mc' ≤ mc + 6724) ∧ (∀ v : Nat, v < 2000 → mk' v ≤ mc') ∧ (∀ j : Nat, j < 80 → lo' j < 2 ^ 31) ∧ σ2 279 = o11 G (upd (upd (upd F 7 (nI (0))) 12 (nI (mc'))) 16 (nI (z'))) ∧ σ2 285 = q_bn G 1681 f' ∧ σ2 286 = q_an G 1681 nv' ∧ σ2 287 = q_an G 1681 ns' ∧ σ2 288 = q_an G 2000 mk' ∧ σ2 289 = q_an G 6724 va' ∧ σ2 290 = q_an G 6724 sp' ∧ σ2 291 = q_an G 80 lo' ∧ (∀ i : Nat, i ≠ 279 ∧ (i < 285 ∨ 291 < i) → σ2 i = σ i))) v9 σ') q_noX := ⟨_, rfl⟩
  refine (?_ : AJ G K (q_Q G K ex n 0 0 _ _) 0 0 ex n 0 _ _ σ)
  rw [← hQ]
  have hnr : g 0 ≤ 4 := hg9.1
  refine A_aload_n hg dX11_share_0 rfl rfl ?_
  refine A_iconst (v := (nI (0))) hg dX11_share_1 (by decide) ?_
  refine A_putf hg fl_RX11_67 dX11_share_2 hc0 (by omega) (Nat.le_of_ble_eq_true rfl) rfl rfl rfl (fun σ_1 hc_2 hf_3 => ?_)
  have hc_2 : σ_1 279 = o11 G (upd F 7 (nI (0))) := hc_2
  have hc_4 : σ_1 280 = q_an G 265 g := (hf_3 _ (by omega)).trans hc1
  have hc_5 : σ_1 285 = q_bn G 1681 f := (hf_3 _ (by omega)).trans hc2
  have hc_6 : σ_1 286 = q_an G 1681 nv := (hf_3 _ (by omega)).trans hc3
  have hc_7 : σ_1 287 = q_an G 1681 ns := (hf_3 _ (by omega)).trans hc4
  have hc_8 : σ_1 288 = q_an G 2000 mk := (hf_3 _ (by omega)).trans hc5
  have hc_9 : σ_1 289 = q_an G 6724 va := (hf_3 _ (by omega)).trans hc6
  have hc_10 : σ_1 290 = q_an G 6724 sp := (hf_3 _ (by omega)).trans hc7
  have hc_11 : σ_1 291 = q_an G 80 lo := (hf_3 _ (by omega)).trans hc8
  refine A_aload_n hg dX11_share_5 rfl rfl ?_
  refine A_iload_n hg dX11_share_6 rfl rfl ?_
  refine A_hV (kc2 := 0) (ks2 := 0) (As := [.int (r)]) (rest := []) hg lk_RX11_402 in_X11_noRule se_X11_noRule rfl dX11_share_7 ⟨by decide, by decide⟩ rfl rfl ⟨by decide, by decide⟩ hc_2 (by omega) rfl rfl (Nat.le_of_ble_eq_true rfl) (c_X11_noRule G ex n σ_1 (upd F 7 (nI (0))) g r hc_2 hc_4 (by omega) (by omega)) ?_
  rintro _ σ_15 (⟨rfl, hno, hc_12, hf_13⟩ | ⟨r1, rfl, hre, hrl, he_14⟩)
  · skip
    refine (?_ : AJ G K Q 0 0 ex n 10 [some (.ref (q_h G + 279)), some (.int (r))] [.int (nI (1))] σ_15)
    have hc_12 : σ_15 279 = o11 G (upd F 7 (nI (1))) := hc_12
    have hc_16 : σ_15 280 = q_an G 265 g := (hf_13 _ (by omega)).trans hc_4
    have hc_17 : σ_15 285 = q_bn G 1681 f := (hf_13 _ (by omega)).trans hc_5
    have hc_18 : σ_15 286 = q_an G 1681 nv := (hf_13 _ (by omega)).trans hc_6
    have hc_19 : σ_15 287 = q_an G 1681 ns := (hf_13 _ (by omega)).trans hc_7
    have hc_20 : σ_15 288 = q_an G 2000 mk := (hf_13 _ (by omega)).trans hc_8
    have hc_21 : σ_15 289 = q_an G 6724 va := (hf_13 _ (by omega)).trans hc_9
    have hc_22 : σ_15 290 = q_an G 6724 sp := (hf_13 _ (by omega)).trans hc_10
    have hc_23 : σ_15 291 = q_an G 80 lo := (hf_13 _ (by omega)).trans hc_11
    refine A_if_eqN (tgt := 15) hg dX11_share_10 (by decide) (by decide) (fun c10 => absurd c10 (by decide)) (fun c10 => ?_)
    refine A_fconst0 hg dX11_share_13 ?_
    rw [hQ]
    exact A_freturn hg (by decide) (by decide) rfl dX11_share_14 ⟨rfl, Or.inl (⟨rfl, (by first | rfl | assumption | omega), hc_12, (fun i hi => ((hf_13 i (by omega)).trans (hf_3 i (by omega))))⟩)⟩
  · skip
    rw [he_14]
    refine (?_ : AJ G K Q 0 0 ex n 10 [some (.ref (q_h G + 279)), some (.int (r))] [.int (nI (0))] σ_1)
    refine A_if_eqN (tgt := 15) hg dX11_share_10 (by decide) (by decide) (fun c10 => ?_) (fun c10 => absurd (by decide) c10)
    subst hre
    have hw := hg9.2.2.2.2.2.1 r1 hrl
    have hu0 := hw.1
    have hu9 := hw.2.1
    have hu18 := hw.2.2.1
    have hu19 := hw.2.2.2.1
    have hu20 := hw.2.2.2.2.1
    refine A_aload_n hg dX11_share_15 rfl rfl ?_
    refine A_iload_n hg dX11_share_16 rfl rfl ?_
    refine A_vV (kc2 := 0) (ks2 := 0) (As := [.int (nI (r1))]) (rest := []) hg lk_RX11_143 in_X11_lays se_X11_lays rfl dX11_share_17 ⟨by decide, by decide⟩ rfl rfl ⟨by decide, by decide⟩ hc_2 (by omega) rfl rfl (Nat.le_of_ble_eq_true rfl) (c_X11_lays G ex n σ_1 (upd F 7 (nI (0))) g r1 f nv ns mk va sp lo mc z hc_2 hc_4 hc_5 hc_6 hc_7 hc_8 hc_9 hc_10 hc_11 (by omega) (by omega) hw (by omega) hF12 hF16 hmk hTI hlo) ?_
    rintro σ_33 ⟨f', nv', ns', mk', va', sp', lo', mc', z', hTI2, hCU2, hkp2, hmc2, hmk2, hlo2, hc_24, hc_25, hc_26, hc_27, hc_28, hc_29, hc_30, hc_31, hf_32⟩
    have hc_24 : σ_33 279 = o11 G (upd (upd (upd F 7 (nI (0))) 12 (nI (mc'))) 16 (nI (z'))) := hc_24
    have hc_34 : σ_33 280 = q_an G 265 g := (hf_32 _ (by omega)).trans hc_4
    refine A_aload_n hg dX11_share_20 rfl rfl ?_
    refine A_iload_n hg dX11_share_21 rfl rfl ?_
    refine A_eV (kc2 := 0) (ks2 := 0) (As := [.int (nI (r1))]) (rest := []) hg lk_RX11_412 in_X11_losingOf se_X11_losingOf rfl dX11_share_22 ⟨by decide, by decide⟩ rfl rfl ⟨by decide, by decide⟩ hc_24 (by omega) rfl rfl (Nat.le_of_ble_eq_true rfl) (c_X11_losingOf G ex n σ_33 (upd (upd (upd F 7 (nI (0))) 12 (nI (mc'))) 16 (nI (z'))) va' r1 hc_24 hc_29 (by omega) (by omega) (fun q hq => by have h1 := (hCU2 q hq).1; have h2 := s_V_le (s_rule g r1) hq; omega)) ?_
    refine A_i2f hg dX11_share_25 ?_
    refine A_ldcwF (v := 1154621440) hg dX11_share_26 (q_mt 2023 (by decide +kernel)) ?_
    refine A_fdiv hg dX11_share_29 (hfd _) ?_
    rw [hQ]
    exact A_freturn hg (by decide) (by decide) rfl dX11_share_30 ⟨rfl, Or.inr ((⟨r1, f', nv', ns', mk', va', sp', lo', mc', z', (congrArg (fun z => some (Value.float (FP.fdiv (FP.i2f (nI z)) 1154621440))) (show s_cnt (fun q => va' (1681 * r1 + q) == 0) 1681 = s_lzc (s_rule g r1) 1681 from by unfold s_lzc; exact s_cnt_congr (P := fun q => va' (1681 * r1 + q) == 0) (Q := fun p => s_V (s_rule g r1) p == 0) (fun q hq => by show (va' (1681 * r1 + q) == 0) = _; rw [(hCU2 q hq).1]))), (by first | rfl | assumption | omega), (by first | rfl | assumption | omega), hTI2, (by omega), hmk2, hlo2, hc_24, hc_25, hc_26, hc_27, hc_28, hc_29, hc_30, hc_31, (fun i hi => ((hf_32 i (by omega)).trans (hf_3 i (by omega))))⟩))⟩
set_option maxRecDepth 100000 in
set_option maxHeartbeats 4000000 in
theorem c_X11_meanValue (G : GL) (ex : Bool) (n : Nat) (σ : Nat → va_E) (F : Nat → Int32) (g : Nat → Nat) (f : Nat → Nat) (nv : Nat → Nat) (ns : Nat → Nat) (mk : Nat → Nat) (va : Nat → Nat) (sp : Nat → Nat) (lo : Nat → Nat) (mc : Nat) (z : Nat) (r : Int32) (hc0 : σ 279 = o11 G F) (hc1 : σ 280 = q_an G 265 g) (hc2 : σ 285 = q_bn G 1681 f) (hc3 : σ 286 = q_an G 1681 nv) (hc4 : σ 287 = q_an G 1681 ns) (hc5 : σ 288 = q_an G 2000 mk) (hc6 : σ 289 = q_an G 6724 va) (hc7 : σ 290 = q_an G 6724 sp) (hc8 : σ 291 = q_an G 80 lo) (hn : 294 ≤ n) (hg9 : s_gwf g) (hmc : mc + 6724 < 2 ^ 31) (hF12 : F 12 = nI mc) (hF16 : F 16 = nI z) (hmk : ∀ v : Nat, v < 2000 → mk v ≤ mc) (hTI : s_TI z lo va sp) (hlo : ∀ j : Nat, j < 80 → lo j < 2 ^ 31) (hdd : q_ddn) : Ct G yX11_meanValue cX11_meanValue 4 (some .double) ⟨6, 0, 0, 137⟩ [.ref (q_h G + 279), .int (r)] ex n σ (fun v9 σ2 => (v9 = some (.double (0)) ∧ (∀ j : Nat, j < g 0 → r = nI j → False) ∧ σ2 279 = o11 G (upd F 7 (nI (1))) ∧ (∀ i : Nat, i ≠ 279 → σ2 i = σ i)) ∨ (∃ (r1 : Nat), ∃ (f' : Nat → Nat), ∃ (nv' : Nat → Nat), ∃ (ns' : Nat → Nat), ∃ (mk' : Nat → Nat), ∃ (va' : Nat → Nat), ∃ (sp' : Nat → Nat), ∃ (lo' : Nat → Nat), ∃ (mc' : Nat), ∃ (z' : Nat), v9 = some (.double (FP.ddiv (FP.i2d (nI (s_vsum (s_rule g r1) 1681))) 4655107931631517696)) ∧ (r = nI r1) ∧ (r1 < g 0) ∧ (s_TI z' lo' va' sp') ∧ (mc' ≤ mc + 6724) ∧ (∀ v : Nat, v < 2000 → mk' v ≤ mc') ∧ (∀ j : Nat, j < 80 → lo' j < 2 ^ 31) ∧ σ2 279 = o11 G (upd (upd (upd F 7 (nI (0))) 12 (nI (mc'))) 16 (nI (z'))) ∧ σ2 285 = q_bn G 1681 f' ∧ σ2 286 = q_an G 1681 nv' ∧ σ2 287 = q_an G 1681 ns' ∧ σ2 288 = q_an G 2000 mk' ∧ σ2 289 = q_an G 6724 va' ∧ σ2 290 = q_an G 6724 sp' ∧ σ2 291 = q_an G 80 lo' ∧ (∀ i : Nat, i ≠ 279 ∧ (i < 285 ∨ 291 < i) → σ2 i = σ i))) := by
  refine q_enter [some (.ref (q_h G + 279)), some (.int (r)), none, none] (by decide) (Nat.le_of_ble_eq_true rfl) rfl ?_
  intro K hg
  obtain ⟨Q, hQ⟩ : ∃ Q, Q = q_Q G K ex n 0 0 (fun v9 n' σ' => n' = n ∧ (fun v9 σ2 => (v9 = some (.double (0)) ∧ (∀ j : Nat, j < g 0 → r = nI j → False) ∧ σ2 279 = o11 G (upd F 7 (nI (1))) ∧ (∀ i : Nat, i ≠ 279 → σ2 i = σ i)) ∨ (∃ (r1 : Nat), ∃ (f' : Nat → Nat), ∃ (nv' : Nat → Nat), ∃ (ns' : Nat → Nat), ∃ (mk' : Nat → Nat), ∃ (va' : Nat → Nat), ∃ (sp' : Nat → Nat), ∃ (lo' : Nat → Nat), ∃ (mc' : Nat), ∃ (z' : Nat), v9 = some (.double (FP.ddiv (FP.i2d (nI (s_vsum (s_rule g r1) 1681))) 4655107931631517696)) ∧ (r = nI r1) ∧ (r1 < g 0) ∧ (s_TI z' lo' va' sp') ∧ (mc' ≤ mc + 6724) ∧ (∀ v : Nat, v < 2000 → mk' v ≤ mc') ∧ (∀ j : Nat, j < 80 → lo' j < 2 ^ 31) ∧ σ2 279 = o11 G (upd (upd (upd F 7 (nI (0))) 12 (nI (mc'))) 16 (nI (z'))) ∧ σ2 285 = q_bn G 1681 f' ∧ σ2 286 = q_an G 1681 nv' ∧ σ2 287 = q_an G 1681 ns' ∧ σ2 288 = q_an G 2000 mk' ∧ σ2 289 = q_an G 6724 va' ∧ σ2 290 = q_an G 6724 sp' ∧ σ2 291 = q_an G 80 lo' ∧ (∀ i : Nat, i ≠ 279 ∧ (i < 285 ∨ 291 < i) → σ2 i = σ i))) v9 σ') q_noX := ⟨_, rfl⟩
  refine (?_ : AJ G K (q_Q G K ex n 0 0 _ _) 0 0 ex n 0 _ _ σ)
  rw [← hQ]
  have hnr : g 0 ≤ 4 := hg9.1
  refine A_aload_n hg dX11_meanValue_0 rfl rfl ?_
  refine A_iconst (v := (nI (0))) hg dX11_meanValue_1 (by decide) ?_
  refine A_putf hg fl_RX11_67 dX11_meanValue_2 hc0 (by omega) (Nat.le_of_ble_eq_true rfl) rfl rfl rfl (fun σ_1 hc_2 hf_3 => ?_)
  have hc_2 : σ_1 279 = o11 G (upd F 7 (nI (0))) := hc_2
  have hc_4 : σ_1 280 = q_an G 265 g := (hf_3 _ (by omega)).trans hc1
  have hc_5 : σ_1 285 = q_bn G 1681 f := (hf_3 _ (by omega)).trans hc2
  have hc_6 : σ_1 286 = q_an G 1681 nv := (hf_3 _ (by omega)).trans hc3
  have hc_7 : σ_1 287 = q_an G 1681 ns := (hf_3 _ (by omega)).trans hc4
  have hc_8 : σ_1 288 = q_an G 2000 mk := (hf_3 _ (by omega)).trans hc5
  have hc_9 : σ_1 289 = q_an G 6724 va := (hf_3 _ (by omega)).trans hc6
  have hc_10 : σ_1 290 = q_an G 6724 sp := (hf_3 _ (by omega)).trans hc7
  have hc_11 : σ_1 291 = q_an G 80 lo := (hf_3 _ (by omega)).trans hc8
  refine A_aload_n hg dX11_meanValue_5 rfl rfl ?_
  refine A_iload_n hg dX11_meanValue_6 rfl rfl ?_
  refine A_hV (kc2 := 0) (ks2 := 0) (As := [.int (r)]) (rest := []) hg lk_RX11_402 in_X11_noRule se_X11_noRule rfl dX11_meanValue_7 ⟨by decide, by decide⟩ rfl rfl ⟨by decide, by decide⟩ hc_2 (by omega) rfl rfl (Nat.le_of_ble_eq_true rfl) (c_X11_noRule G ex n σ_1 (upd F 7 (nI (0))) g r hc_2 hc_4 (by omega) (by omega)) ?_
  rintro _ σ_15 (⟨rfl, hno, hc_12, hf_13⟩ | ⟨r1, rfl, hre, hrl, he_14⟩)
  · skip
    refine (?_ : AJ G K Q 0 0 ex n 10 [some (.ref (q_h G + 279)), some (.int (r)), none, none] [.int (nI (1))] σ_15)
    have hc_12 : σ_15 279 = o11 G (upd F 7 (nI (1))) := hc_12
    have hc_16 : σ_15 280 = q_an G 265 g := (hf_13 _ (by omega)).trans hc_4
    have hc_17 : σ_15 285 = q_bn G 1681 f := (hf_13 _ (by omega)).trans hc_5
    have hc_18 : σ_15 286 = q_an G 1681 nv := (hf_13 _ (by omega)).trans hc_6
    have hc_19 : σ_15 287 = q_an G 1681 ns := (hf_13 _ (by omega)).trans hc_7
    have hc_20 : σ_15 288 = q_an G 2000 mk := (hf_13 _ (by omega)).trans hc_8
    have hc_21 : σ_15 289 = q_an G 6724 va := (hf_13 _ (by omega)).trans hc_9
    have hc_22 : σ_15 290 = q_an G 6724 sp := (hf_13 _ (by omega)).trans hc_10
    have hc_23 : σ_15 291 = q_an G 80 lo := (hf_13 _ (by omega)).trans hc_11
    refine A_if_eqN (tgt := 15) hg dX11_meanValue_10 (by decide) (by decide) (fun c10 => absurd c10 (by decide)) (fun c10 => ?_)
    refine A_dconst0 hg dX11_meanValue_13 ?_
    rw [hQ]
    exact A_dreturn hg (by decide) (by decide) rfl dX11_meanValue_14 ⟨rfl, Or.inl (⟨rfl, (by first | rfl | assumption | omega), hc_12, (fun i hi => ((hf_13 i (by omega)).trans (hf_3 i (by omega))))⟩)⟩
  · skip
    rw [he_14]
    refine (?_ : AJ G K Q 0 0 ex n 10 [some (.ref (q_h G + 279)), some (.int (r)), none, none] [.int (nI (0))] σ_1)
    refine A_if_eqN (tgt := 15) hg dX11_meanValue_10 (by decide) (by decide) (fun c10 => ?_) (fun c10 => absurd (by decide) c10)
    subst hre
    have hw := hg9.2.2.2.2.2.1 r1 hrl
    have hu0 := hw.1
    have hu9 := hw.2.1
    have hu18 := hw.2.2.1
    have hu19 := hw.2.2.2.1
    have hu20 := hw.2.2.2.2.1
    refine A_aload_n hg dX11_meanValue_15 rfl rfl ?_
    refine A_iload_n hg dX11_meanValue_16 rfl rfl ?_
    refine A_vV (kc2 := 0) (ks2 := 0) (As := [.int (nI (r1))]) (rest := []) hg lk_RX11_143 in_X11_lays se_X11_lays rfl dX11_meanValue_17 ⟨by decide, by decide⟩ rfl rfl ⟨by decide, by decide⟩ hc_2 (by omega) rfl rfl (Nat.le_of_ble_eq_true rfl) (c_X11_lays G ex n σ_1 (upd F 7 (nI (0))) g r1 f nv ns mk va sp lo mc z hc_2 hc_4 hc_5 hc_6 hc_7 hc_8 hc_9 hc_10 hc_11 (by omega) (by omega) hw (by omega) hF12 hF16 hmk hTI hlo) ?_
    rintro σ_33 ⟨f', nv', ns', mk', va', sp', lo', mc', z', hTI2, hCU2, hkp2, hmc2, hmk2, hlo2, hc_24, hc_25, hc_26, hc_27, hc_28, hc_29, hc_30, hc_31, hf_32⟩
    have hc_24 : σ_33 279 = o11 G (upd (upd (upd F 7 (nI (0))) 12 (nI (mc'))) 16 (nI (z'))) := hc_24
    have hc_34 : σ_33 280 = q_an G 265 g := (hf_32 _ (by omega)).trans hc_4
    refine A_iconst (v := (nI (0))) hg dX11_meanValue_20 (by decide) ?_
    refine A_istore_n hg dX11_meanValue_21 rfl (by decide) (q_c1d rfl) ?_
    refine A_eq (ls2 := [some (.ref (q_h G + 279)), some (.int (nI (r1))), some (.int (nI (0))), none]) (st2 := []) (pc2 := 0) rfl rfl ?_
    refine A_iconst (v := (nI (0))) hg dX11_meanValue_22 (by decide) ?_
    refine A_istore_n hg dX11_meanValue_23 rfl (by decide) (q_c1d rfl) ?_
    refine A_eq (ls2 := [some (.ref (q_h G + 279)), some (.int (nI (r1))), some (.int (nI (0))), some (.int (nI (0)))]) (st2 := []) (pc2 := 0) rfl rfl ?_
    have hL24 : ∀ (fu : Nat) (p : Nat) (q1 : Nat), (p ≤ 1681) → (q1 = s_vsum (s_rule g r1) p) → (1681 - p) < fu → AJ G K Q 0 0 ex n 24 [some (.ref (q_h G + 279)), some (.int (nI (r1))), some (.int (nI (q1))), some (.int (nI (p)))] [] σ_33 := by
      intro fu
      induction fu with
      | zero => intro p q1 hp hn hm; exact absurd hm (Nat.not_lt_zero _)
      | succ fu ih24 =>
        intro p q1 hp hn hm24
        refine A_iload_n hg dX11_meanValue_24 rfl rfl ?_
        refine A_sipush (v := (nI (1681))) hg dX11_meanValue_25 (by decide) ?_
        refine A_icmp_geN (tgt := 52) hg dX11_meanValue_28 (by omega) (by decide) (by decide) (fun c28 => ?_) (fun c28 => ?_)
        · skip
          refine A_iload_n hg dX11_meanValue_52 rfl rfl ?_
          refine A_i2d hg dX11_meanValue_53 ?_
          refine A_ldc2d (v := 4655107931631517696) hg dX11_meanValue_54 (q_mt 2028 (by decide +kernel)) ?_
          refine A_ddiv hg dX11_meanValue_57 (hdd _) ?_
          rw [hQ]
          exact A_dreturn hg (by decide) (by decide) rfl dX11_meanValue_58 ⟨rfl, Or.inr ((⟨r1, f', nv', ns', mk', va', sp', lo', mc', z', (congrArg (fun z => some (Value.double (FP.ddiv (FP.i2d (nI z)) 4655107931631517696))) (show q1 = s_vsum (s_rule g r1) 1681 from by rw [hn, show p = 1681 by omega])), (by first | rfl | assumption | omega), (by first | rfl | assumption | omega), hTI2, (by omega), hmk2, hlo2, hc_24, hc_25, hc_26, hc_27, hc_28, hc_29, hc_30, hc_31, (fun i hi => ((hf_32 i (by omega)).trans (hf_3 i (by omega))))⟩))⟩
        · skip
          refine A_iload_n hg dX11_meanValue_31 rfl rfl ?_
          refine A_aload_n hg dX11_meanValue_32 rfl rfl ?_
          refine A_getf (v := .ref (q_h G + 289)) hg fl_RX11_38 dX11_meanValue_33 hc_24 (by omega) rfl ?_
          refine A_sipush (v := (nI (1681))) hg dX11_meanValue_36 (by decide) ?_
          refine A_iload_n hg dX11_meanValue_39 rfl rfl ?_
          refine A_imulN hg dX11_meanValue_40 ?_
          refine A_iload_n hg dX11_meanValue_41 rfl rfl ?_
          refine A_iaddN hg dX11_meanValue_42 ?_
          have hvp := (hCU2 p (by omega)).1
          refine A_iald (j := ((1681 * r1) + p)) hg dX11_meanValue_43 hc_29 (by omega) (by omega) (by decide) ?_
          refine A_iaddN hg dX11_meanValue_44 ?_
          refine A_istore_n hg dX11_meanValue_45 rfl (by decide) (q_c1d rfl) ?_
          refine A_eq (ls2 := [some (.ref (q_h G + 279)), some (.int (nI (r1))), some (.int (nI (q1 + (va' ((1681 * r1) + p))))), some (.int (nI (p)))]) (st2 := []) (pc2 := 0) rfl rfl ?_
          refine A_iincN (k' := 1) hg dX11_meanValue_46 (by decide) rfl (by decide) (q_c1d rfl) ?_
          refine A_eq (ls2 := [some (.ref (q_h G + 279)), some (.int (nI (r1))), some (.int (nI (q1 + (va' ((1681 * r1) + p))))), some (.int (nI (p + 1)))]) (st2 := []) (pc2 := 0) rfl rfl ?_
          refine A_goto (tgt := 24) hg dX11_meanValue_49 (by decide) ?_
          exact ih24 (p + 1) (q1 + (va' ((1681 * r1) + p))) (by omega) (by rw [hn, hvp]; rfl) (by omega)
    exact hL24 _ 0 0 (by omega) rfl (Nat.lt_succ_self _)
end
