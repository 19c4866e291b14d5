section
set_option maxRecDepth 100000 in
set_option maxHeartbeats 4000000 in
theorem c_X11_units (G : GL) (ex : Bool) (n : Nat) (σ : Nat → va_E) (F : Nat → Int32) (g : Nat → Nat) (hc0 : σ 279 = o11 G F) (hc1 : σ 280 = q_an G 265 g) (hn : 294 ≤ n) (hg9 : s_gwf g) : Ct G yX11_units cX11_units 3 (some .int) ⟨2, 0, 0, 43⟩ [.ref (q_h G + 279)] ex n σ (fun v9 σ2 => σ2 = σ ∧ v9 = some (.int (nI (s_un g (s_np g))))) := by
  refine q_enter [some (.ref (q_h G + 279)), none, none] (by decide) (Nat.le_of_ble_eq_true rfl) rfl ?_
  intro K hg
  obtain ⟨Q, hQ⟩ : ∃ Q, Q = q_Q G K ex n 0 0 (fun v9 n' σ' => n' = n ∧ (fun v9 σ2 => σ2 = σ ∧ v9 = some (.int (nI (s_un g (s_np g))))) v9 σ') q_noX := ⟨_, rfl⟩
  refine (?_ : AJ G K (q_Q G K ex n 0 0 _ _) 0 0 ex n 0 _ _ σ)
  rw [← hQ]
  have hnp := s_np_le hg9
  refine A_iconst (v := (nI (0))) hg dX11_units_0 (by decide) ?_
  refine A_istore_n hg dX11_units_1 rfl (by decide) (q_c1d rfl) ?_
  refine A_eq (ls2 := [some (.ref (q_h G + 279)), some (.int (nI (0))), none]) (st2 := []) (pc2 := 0) rfl rfl ?_
  refine A_iconst (v := (nI (0))) hg dX11_units_2 (by decide) ?_
  refine A_istore_n hg dX11_units_3 rfl (by decide) (q_c1d rfl) ?_
  refine A_eq (ls2 := [some (.ref (q_h G + 279)), some (.int (nI (0))), some (.int (nI (0)))]) (st2 := []) (pc2 := 0) rfl rfl ?_
  have hL4 : ∀ (fu : Nat) (p : Nat) (u : Nat), (p ≤ s_np g) → (u = s_un g p) → (s_np g - p) < fu → AJ G K Q 0 0 ex n 4 [some (.ref (q_h G + 279)), some (.int (nI (u))), some (.int (nI (p)))] [] σ := by
    intro fu
    induction fu with
    | zero => intro p u hp hu hm; exact absurd hm (Nat.not_lt_zero _)
    | succ fu ih4 =>
      intro p u hp hu hm4
      refine A_iload_n hg dX11_units_4 rfl rfl ?_
      refine A_aload_n hg dX11_units_5 rfl rfl ?_
      refine A_eV (kc2 := 0) (ks2 := 0) (As := []) (rest := [.int (nI (p))]) hg lk_RX11_179 in_X11_parts se_X11_parts rfl dX11_units_6 ⟨by decide, by decide⟩ rfl rfl ⟨by decide, by decide⟩ hc0 (by omega) rfl rfl (Nat.le_of_ble_eq_true rfl) (c_X11_parts G ex n σ F g hc0 hc1 (by omega)) ?_
      refine A_icmp_geN (tgt := 32) hg dX11_units_9 (by omega) (by omega) (by decide) (fun c9 => ?_) (fun c9 => ?_)
      · skip
        refine A_iload_n hg dX11_units_32 rfl rfl ?_
        rw [hQ]
        exact A_ireturn hg (by decide) (by decide) rfl dX11_units_33 ⟨rfl, ⟨rfl, (by rw [hu, show p = s_np g by omega])⟩⟩
      · skip
        refine A_iload_n hg dX11_units_12 rfl rfl ?_
        refine A_aload_n hg dX11_units_13 rfl rfl ?_
        refine A_iload_n hg dX11_units_14 rfl rfl ?_
        refine A_eV (kc2 := 0) (ks2 := 0) (As := [.int (nI (p))]) (rest := [.int (nI (u))]) hg lk_RX11_200 in_X11_firstHeap se_X11_firstHeap rfl dX11_units_15 ⟨by decide, by decide⟩ rfl rfl ⟨by decide, by decide⟩ hc0 (by omega) rfl rfl (Nat.le_of_ble_eq_true rfl) (c_X11_firstHeap G ex n σ F g p hc0 hc1 (by omega) hg9 (by omega)) ?_
        refine A_aload_n hg dX11_units_18 rfl rfl ?_
        refine A_iload_n hg dX11_units_19 rfl rfl ?_
        refine A_eV (kc2 := 0) (ks2 := 0) (As := [.int (nI (p))]) (rest := [.int (nI (s_x g p)), .int (nI (u))]) hg lk_RX11_203 in_X11_secondHeap se_X11_secondHeap rfl dX11_units_20 ⟨by decide, by decide⟩ rfl rfl ⟨by decide, by decide⟩ hc0 (by omega) rfl rfl (Nat.le_of_ble_eq_true rfl) (c_X11_secondHeap G ex n σ F g p hc0 hc1 (by omega) hg9 (by omega)) ?_
        refine A_iaddN hg dX11_units_23 ?_
        refine A_iaddN hg dX11_units_24 ?_
        refine A_istore_n hg dX11_units_25 rfl (by decide) (q_c1d rfl) ?_
        refine A_eq (ls2 := [some (.ref (q_h G + 279)), some (.int (nI (u + ((s_x g p) + (s_y g p))))), some (.int (nI (p)))]) (st2 := []) (pc2 := 0) rfl rfl ?_
        refine A_iincN (k' := 1) hg dX11_units_26 (by decide) rfl (by decide) (q_c1d rfl) ?_
        refine A_eq (ls2 := [some (.ref (q_h G + 279)), some (.int (nI (u + ((s_x g p) + (s_y g p))))), some (.int (nI (p + 1)))]) (st2 := []) (pc2 := 0) rfl rfl ?_
        refine A_goto (tgt := 4) hg dX11_units_29 (by decide) ?_
        exact ih4 (p + 1) (u + ((s_x g p) + (s_y g p))) (by omega) (by rw [hu]; rfl) (by omega)
  exact hL4 _ 0 0 (by omega) rfl (Nat.lt_succ_self _)
set_option maxRecDepth 100000 in
set_option maxHeartbeats 4000000 in
theorem c_X11_totalBehind (G : GL) (ex : Bool) (n : Nat) (σ : Nat → va_E) (F : Nat → Int32) (g : Nat → Nat) (f : Nat → Nat) (nv : Nat → Nat) (ns : Nat → Nat) (mk : Nat → Nat) (va : Nat → Nat) (sp : Nat → Nat) (lo : Nat → Nat) (mc : Nat) (z : Nat) (p : Int32) (k : Int32) (l : Int32) (hc0 : σ 279 = o11 G F) (hc1 : σ 280 = q_an G 265 g) (hc2 : σ 285 = q_bn G 1681 f) (hc3 : σ 286 = q_an G 1681 nv) (hc4 : σ 287 = q_an G 1681 ns) (hc5 : σ 288 = q_an G 2000 mk) (hc6 : σ 289 = q_an G 6724 va) (hc7 : σ 290 = q_an G 6724 sp) (hc8 : σ 291 = q_an G 80 lo) (hn : 294 ≤ n) (hg9 : s_gwf g) (hmc : mc + 6724 < 2 ^ 31) (hF12 : F 12 = nI mc) (hF16 : F 16 = nI z) (hmk : ∀ v : Nat, v < 2000 → mk v ≤ mc) (hTI : s_TI z lo va sp) (hlo : ∀ j : Nat, j < 80 → lo j < 2 ^ 31) : Ct G yX11_totalBehind cX11_totalBehind 4 (some .int) ⟨7, 0, 0, 158⟩ [.ref (q_h G + 279), .int (p), .int (k), .int (l)] ex n σ (fun v9 σ2 => (v9 = some (.int (nI (0))) ∧ (∀ j : Nat, j < s_np g → p = nI j → False) ∧ σ2 279 = o11 G (upd F 7 (nI (1))) ∧ (∀ i : Nat, i ≠ 279 → σ2 i = σ i)) ∨ (∃ (p1 : Nat), v9 = some (.int (q_d (0))) ∧ (p = nI p1) ∧ (p1 < s_np g) ∧ (¬ s_refI g p1 k l = 0) ∧ σ2 279 = o11 G (upd F 7 (nI (0))) ∧ (∀ i : Nat, i ≠ 279 → σ2 i = σ i)) ∨ (∃ (p1 : Nat), ∃ (a1 : Nat), ∃ (b1 : Nat), ∃ (f' : Nat → Nat), ∃ (nv' : Nat → Nat), ∃ (ns' : Nat → Nat), ∃ (mk' : Nat → Nat), ∃ (va' : Nat → Nat), ∃ (sp' : Nat → Nat), ∃ (lo' : Nat → Nat), ∃ (mc' : Nat), ∃ (z' : Nat), v9 = some (.int (nI (((s_tot g) ^^^ (s_pv g p1 0 0)) ^^^ (s_pv g p1 a1 b1)))) ∧ (p = nI p1) ∧ (p1 < s_np g) ∧ (k = nI a1) ∧ (l = nI b1) ∧ (s_ref g p1 a1 b1 = 0) ∧ (s_TI z' lo' va' sp') ∧ (mc' ≤ mc + 6724) ∧ (∀ v : Nat, v < 2000 → mk' v ≤ mc') ∧ (∀ j : Nat, j < 80 → lo' j < 2 ^ 31) ∧ σ2 279 = o11 G (upd (upd (upd F 7 (nI (0))) 12 (nI (mc'))) 16 (nI (z'))) ∧ σ2 285 = q_bn G 1681 f' ∧ σ2 286 = q_an G 1681 nv' ∧ σ2 287 = q_an G 1681 ns' ∧ σ2 288 = q_an G 2000 mk' ∧ σ2 289 = q_an G 6724 va' ∧ σ2 290 = q_an G 6724 sp' ∧ σ2 291 = q_an G 80 lo' ∧ (∀ i : Nat, i ≠ 279 ∧ (i < 285 ∨ 291 < i) → σ2 i = σ i))) := by
  refine q_enter [some (.ref (q_h G + 279)), some (.int (p)), some (.int (k)), some (.int (l))] (by decide) (Nat.le_of_ble_eq_true rfl) rfl ?_
  intro K hg
  obtain ⟨Q, hQ⟩ : ∃ Q, Q = q_Q G K ex n 0 0 (fun v9 n' σ' => n' = n ∧ (fun v9 σ2 => (v9 = some (.int (nI (0))) ∧ (∀ j : Nat, j < s_np g → p = nI j → False) ∧ σ2 279 = o11 G (upd F 7 (nI (1))) ∧ (∀ i : Nat, i ≠ 279 → σ2 i = σ i)) ∨ (∃ (p1 : Nat), v9 = some (.int (q_d (0))) ∧ (p = nI p1) ∧ (p1 < s_np g) ∧ (¬ s_refI g p1 k l = 0) ∧ σ2 279 = o11 G (upd F 7 (nI (0))) ∧ (∀ i : Nat, i ≠ 279 → σ2 i = σ i)) ∨ (∃ (p1 : Nat), ∃ (a1 : Nat), ∃ (b1 : Nat), ∃ (f' : Nat → Nat), ∃ (nv' : Nat → Nat), ∃ (ns' : Nat → Nat), ∃ (mk' : Nat → Nat), ∃ (va' : Nat → Nat), ∃ (sp' : Nat → Nat), ∃ (lo' : Nat → Nat), ∃ (mc' : Nat), ∃ (z' : Nat), v9 = some (.int (nI (((s_tot g) ^^^ (s_pv g p1 0 0)) ^^^ (s_pv g p1 a1 b1)))) ∧ (p = nI p1) ∧ (p1 < s_np g) ∧ (k = nI a1) ∧ (l = nI b1) ∧ (s_ref g p1 a1 b1 = 0) ∧ (s_TI z' lo' va' sp') ∧ (mc' ≤ mc + 6724) ∧ (∀ v : Nat, v < 2000 → mk' v ≤ mc') ∧ (∀ j : Nat, j < 80 → lo' j < 2 ^ 31) ∧ σ2 279 = o11 G (upd (upd (upd F 7 (nI (0))) 12 (nI (mc'))) 16 (nI (z'))) ∧ σ2 285 = q_bn G 1681 f' ∧ σ2 286 = q_an G 1681 nv' ∧ σ2 287 = q_an G 1681 ns' ∧ σ2 288 = q_an G 2000 mk' ∧ σ2 289 = q_an G 6724 va' ∧ σ2 290 = q_an G 6724 sp' ∧ σ2 291 = q_an G 80 lo' ∧ (∀ i : Nat, i ≠ 279 ∧ (i < 285 ∨ 291 < i) → σ2 i = σ i))) v9 σ') q_noX := ⟨_, rfl⟩
  refine (?_ : AJ G K (q_Q G K ex n 0 0 _ _) 0 0 ex n 0 _ _ σ)
  rw [← hQ]
  refine A_aload_n hg dX11_totalBehind_0 rfl rfl ?_
  refine A_iconst (v := (nI (0))) hg dX11_totalBehind_1 (by decide) ?_
  refine A_putf hg fl_RX11_67 dX11_totalBehind_2 hc0 (by omega) (Nat.le_of_ble_eq_true rfl) rfl rfl rfl (fun σ_1 hc_2 hf_3 => ?_)
  have hc_2 : σ_1 279 = o11 G (upd F 7 (nI (0))) := hc_2
  have hc_4 : σ_1 280 = q_an G 265 g := (hf_3 _ (by omega)).trans hc1
  have hc_5 : σ_1 285 = q_bn G 1681 f := (hf_3 _ (by omega)).trans hc2
  have hc_6 : σ_1 286 = q_an G 1681 nv := (hf_3 _ (by omega)).trans hc3
  have hc_7 : σ_1 287 = q_an G 1681 ns := (hf_3 _ (by omega)).trans hc4
  have hc_8 : σ_1 288 = q_an G 2000 mk := (hf_3 _ (by omega)).trans hc5
  have hc_9 : σ_1 289 = q_an G 6724 va := (hf_3 _ (by omega)).trans hc6
  have hc_10 : σ_1 290 = q_an G 6724 sp := (hf_3 _ (by omega)).trans hc7
  have hc_11 : σ_1 291 = q_an G 80 lo := (hf_3 _ (by omega)).trans hc8
  refine A_aload_n hg dX11_totalBehind_5 rfl rfl ?_
  refine A_iload_n hg dX11_totalBehind_6 rfl rfl ?_
  refine A_hV (kc2 := 0) (ks2 := 0) (As := [.int (p)]) (rest := []) hg lk_RX11_418 in_X11_noPart se_X11_noPart rfl dX11_totalBehind_7 ⟨by decide, by decide⟩ rfl rfl ⟨by decide, by decide⟩ hc_2 (by omega) rfl rfl (Nat.le_of_ble_eq_true rfl) (c_X11_noPart G ex n σ_1 (upd F 7 (nI (0))) g p hc_2 hc_4 (by omega) (s_np_le hg9)) ?_
  rintro _ σ_15 (⟨rfl, hno, hc_12, hf_13⟩ | ⟨p1, rfl, hpe, hpl, he_14⟩)
  · skip
    refine (?_ : AJ G K Q 0 0 ex n 10 [some (.ref (q_h G + 279)), some (.int (p)), some (.int (k)), some (.int (l))] [.int (nI (1))] σ_15)
    have hc_12 : σ_15 279 = o11 G (upd F 7 (nI (1))) := hc_12
    have hc_16 : σ_15 280 = q_an G 265 g := (hf_13 _ (by omega)).trans hc_4
    have hc_17 : σ_15 285 = q_bn G 1681 f := (hf_13 _ (by omega)).trans hc_5
    have hc_18 : σ_15 286 = q_an G 1681 nv := (hf_13 _ (by omega)).trans hc_6
    have hc_19 : σ_15 287 = q_an G 1681 ns := (hf_13 _ (by omega)).trans hc_7
    have hc_20 : σ_15 288 = q_an G 2000 mk := (hf_13 _ (by omega)).trans hc_8
    have hc_21 : σ_15 289 = q_an G 6724 va := (hf_13 _ (by omega)).trans hc_9
    have hc_22 : σ_15 290 = q_an G 6724 sp := (hf_13 _ (by omega)).trans hc_10
    have hc_23 : σ_15 291 = q_an G 80 lo := (hf_13 _ (by omega)).trans hc_11
    refine A_if_eqN (tgt := 15) hg dX11_totalBehind_10 (by decide) (by decide) (fun c10 => absurd c10 (by decide)) (fun c10 => ?_)
    refine A_iconst (v := (nI (0))) hg dX11_totalBehind_13 (by decide) ?_
    rw [hQ]
    exact A_ireturn hg (by decide) (by decide) rfl dX11_totalBehind_14 ⟨rfl, Or.inl (⟨rfl, (by first | rfl | assumption | omega), hc_12, (fun i hi => ((hf_13 i (by omega)).trans (hf_3 i (by omega))))⟩)⟩
  · skip
    rw [he_14]
    refine (?_ : AJ G K Q 0 0 ex n 10 [some (.ref (q_h G + 279)), some (.int (p)), some (.int (k)), some (.int (l))] [.int (nI (0))] σ_1)
    refine A_if_eqN (tgt := 15) hg dX11_totalBehind_10 (by decide) (by decide) (fun c10 => ?_) (fun c10 => absurd (by decide) c10)
    subst hpe
    refine A_aload_n hg dX11_totalBehind_15 rfl rfl ?_
    refine A_iload_n hg dX11_totalBehind_16 rfl rfl ?_
    refine A_iload_n hg dX11_totalBehind_17 rfl rfl ?_
    refine A_iload_n hg dX11_totalBehind_18 rfl rfl ?_
    refine A_eV (kc2 := 0) (ks2 := 0) (As := [.int (nI (p1)), .int (k), .int (l)]) (rest := []) hg lk_RX11_209 in_X11_refusal se_X11_refusal rfl dX11_totalBehind_19 ⟨by decide, by decide⟩ rfl rfl ⟨by decide, by decide⟩ hc_2 (by omega) rfl rfl (Nat.le_of_ble_eq_true rfl) (c_X11_refusalI G ex n σ_1 (upd F 7 (nI (0))) g p1 k l hc_2 hc_4 (by omega) hg9 hpl) ?_
    have hrle : s_refI g p1 k l ≤ 7 := by
      unfold s_refI
      split
      · omega
      · exact s_ref_le _ _ _ _
    refine A_if_eqN (tgt := 27) hg dX11_totalBehind_22 (by omega) (by decide) (fun c22 => ?_) (fun c22 => ?_)
    · skip
      obtain ⟨a1, b1, hke, hle, hka, hkb, hkx, hly, hrf⟩ := s_refI_0 c22
      subst hke
      subst hle
      refine A_aload_n hg dX11_totalBehind_27 rfl rfl ?_
      refine A_vV (kc2 := 0) (ks2 := 0) (As := []) (rest := []) hg lk_RX11_389 in_X11_laysAll se_X11_laysAll rfl dX11_totalBehind_28 ⟨by decide, by decide⟩ rfl rfl ⟨by decide, by decide⟩ hc_2 (by omega) rfl rfl (Nat.le_of_ble_eq_true rfl) (c_X11_laysAll G ex n σ_1 (upd F 7 (nI (0))) g f nv ns mk va sp lo mc z hc_2 hc_4 hc_5 hc_6 hc_7 hc_8 hc_9 hc_10 hc_11 (by omega) hg9.1 hg9.2.2.2.2.2.1 (by omega) hF12 hF16 hmk hTI hlo) ?_
      rintro σ_33 ⟨f', nv', ns', mk', va', sp', lo', mc', z', hTI2, hCU2, hmc2, hmk2, hlo2, hc_24, hc_25, hc_26, hc_27, hc_28, hc_29, hc_30, hc_31, hf_32⟩
      have hc_24 : σ_33 279 = o11 G (upd (upd (upd F 7 (nI (0))) 12 (nI (mc'))) 16 (nI (z'))) := hc_24
      have hc_34 : σ_33 280 = q_an G 265 g := (hf_32 _ (by omega)).trans hc_4
      have hCV2 : ∀ r : Nat, r < g 0 → ∀ q : Nat, q < 1681 → va' (1681 * r + q) = s_V (s_rule g r) q := fun r hr q hq => (hCU2 r hr q hq).1
      refine A_aload_n hg dX11_totalBehind_31 rfl rfl ?_
      refine A_eV (kc2 := 0) (ks2 := 0) (As := []) (rest := []) hg lk_RX11_206 in_X11_total se_X11_total rfl dX11_totalBehind_32 ⟨by decide, by decide⟩ rfl rfl ⟨by decide, by decide⟩ hc_24 (by omega) rfl rfl (Nat.le_of_ble_eq_true rfl) (c_X11_total G ex n σ_33 (upd (upd (upd F 7 (nI (0))) 12 (nI (mc'))) 16 (nI (z'))) g va' hc_24 hc_34 hc_29 (by omega) hg9 hCV2) ?_
      refine A_aload_n hg dX11_totalBehind_35 rfl rfl ?_
      refine A_iload_n hg dX11_totalBehind_36 rfl rfl ?_
      refine A_iconst (v := (nI (0))) hg dX11_totalBehind_37 (by decide) ?_
      refine A_iconst (v := (nI (0))) hg dX11_totalBehind_38 (by decide) ?_
      refine A_eV (kc2 := 0) (ks2 := 0) (As := [.int (nI (p1)), .int (nI (0)), .int (nI (0))]) (rest := [.int (nI (s_tot g))]) hg lk_RX11_197 in_X11_valueLess se_X11_valueLess rfl dX11_totalBehind_39 ⟨by decide, by decide⟩ rfl rfl ⟨by decide, by decide⟩ hc_24 (by omega) rfl rfl (Nat.le_of_ble_eq_true rfl) (c_X11_valueLess G ex n σ_33 (upd (upd (upd F 7 (nI (0))) 12 (nI (mc'))) 16 (nI (z'))) g va' p1 0 0 hc_24 hc_34 hc_29 (by omega) hg9 hpl hCV2 (by omega) (by omega)) ?_
      refine A_ixorN hg dX11_totalBehind_42 ?_
      refine A_aload_n hg dX11_totalBehind_43 rfl rfl ?_
      refine A_iload_n hg dX11_totalBehind_44 rfl rfl ?_
      refine A_iload_n hg dX11_totalBehind_45 rfl rfl ?_
      refine A_iload_n hg dX11_totalBehind_46 rfl rfl ?_
      refine A_eV (kc2 := 0) (ks2 := 0) (As := [.int (nI (p1)), .int (nI (a1)), .int (nI (b1))]) (rest := [.int (nI ((s_tot g) ^^^ (s_pv g p1 0 0)))]) hg lk_RX11_197 in_X11_valueLess se_X11_valueLess rfl dX11_totalBehind_47 ⟨by decide, by decide⟩ rfl rfl ⟨by decide, by decide⟩ hc_24 (by omega) rfl rfl (Nat.le_of_ble_eq_true rfl) (c_X11_valueLess G ex n σ_33 (upd (upd (upd F 7 (nI (0))) 12 (nI (mc'))) 16 (nI (z'))) g va' p1 a1 b1 hc_24 hc_34 hc_29 (by omega) hg9 hpl hCV2 (by omega) (by omega)) ?_
      refine A_ixorN hg dX11_totalBehind_50 ?_
      rw [hQ]
      exact A_ireturn hg (by decide) (by decide) rfl dX11_totalBehind_51 ⟨rfl, Or.inr (Or.inr ((⟨p1, a1, b1, f', nv', ns', mk', va', sp', lo', mc', z', rfl, (by first | rfl | assumption | omega), (by first | rfl | assumption | omega), (by first | rfl | assumption | omega), (by first | rfl | assumption | omega), (by first | rfl | assumption | omega), hTI2, hmc2, hmk2, hlo2, hc_24, hc_25, hc_26, hc_27, hc_28, hc_29, hc_30, hc_31, (fun i hi => ((hf_32 i (by omega)).trans (hf_3 i (by omega))))⟩)))⟩
    · skip
      refine A_iconst (v := (q_d (0))) hg dX11_totalBehind_25 (by decide) ?_
      rw [hQ]
      exact A_ireturn hg (by decide) (by decide) rfl dX11_totalBehind_26 ⟨rfl, Or.inr (Or.inl (⟨p1, rfl, (by first | rfl | assumption | omega), (by first | rfl | assumption | omega), (by first | rfl | assumption | omega), hc_2, (fun i hi => (hf_3 i (by omega)))⟩))⟩
end
