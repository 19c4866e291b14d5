section
set_option maxRecDepth 100000 in
set_option maxHeartbeats 4000000 in
theorem c_X10_outputByte (G : GL) (ex : Bool) (n : Nat) (σ : Nat → va_E) (z1 : Int32) (z2 : Int32) (z3 : Int32) (m : Nat) (o : Nat → Nat) (x : Int32) (hc0 : σ 0 = o10 G (z1) (z2) (z3)) (hc1 : σ 23 = o5 G (23) (nI (m))) (hc2 : σ 24 = q_an G 256 o) (hn9 : 279 ≤ n) (hm : m ≤ 256) : Ct G yX10_outputByte cX10_outputByte 2 (some .int) ⟨1, 0, 0, 21⟩ [.ref (q_h G + 0), .int (x)] ex n σ (fun v9 σ2 => (∃ (x1 : Nat), v9 = some (.int (nI (o x1))) ∧ (x = nI x1) ∧ (x1 < m) ∧ σ2 = σ) ∨ (v9 = some (.int (q_d (0))) ∧ (∀ j : Nat, j < m → x = nI j → False) ∧ σ2 = σ)) := by
  refine q_enter [some (.ref (q_h G + 0)), some (.int (x))] (by decide) (Nat.le_of_ble_eq_true rfl) rfl ?_
  intro K hg
  obtain ⟨Q, hQ⟩ : ∃ Q, Q = q_Q G K ex n 0 0 (fun v9 n' σ' => n' = n ∧ (fun v9 σ2 => (∃ (x1 : Nat), v9 = some (.int (nI (o x1))) ∧ (x = nI x1) ∧ (x1 < m) ∧ σ2 = σ) ∨ (v9 = some (.int (q_d (0))) ∧ (∀ j : Nat, j < m → x = nI j → False) ∧ σ2 = σ)) v9 σ') q_noX := ⟨_, rfl⟩
  refine (?_ : AJ G K (q_Q G K ex n 0 0 _ _) 0 0 ex n 0 _ _ σ)
  rw [← hQ]
  refine A_aload_n hg dX10_outputByte_0 rfl rfl ?_
  refine A_getf (v := .ref (q_h G + 23)) hg fl_RX10_33 dX10_outputByte_1 hc0 (by omega) rfl ?_
  refine A_iload_n hg dX10_outputByte_4 rfl rfl ?_
  refine A_hV (kc2 := 0) (ks2 := 0) (As := [.int (x)]) (rest := []) hg lk_RX10_452 in_X5_byteAt se_X5_byteAt rfl dX10_outputByte_5 ⟨by decide, by decide⟩ rfl rfl ⟨by decide, by decide⟩ hc1 (by omega) rfl rfl (Nat.le_of_ble_eq_true rfl) (c_X5_byteAt G ex n σ m o x hc1 hc2 (by omega) (by omega)) ?_
  rintro _ σ_3 (⟨x1, rfl, hxe, hxl9, he_1⟩ | ⟨rfl, hno9, he_2⟩)
  · skip
    rw [he_1]
    refine (?_ : AJ G K Q 0 0 ex n 8 [some (.ref (q_h G + 0)), some (.int (x))] [.int (nI (o x1))] σ)
    rw [hQ]
    exact A_ireturn hg (by decide) (by decide) rfl dX10_outputByte_8 ⟨rfl, Or.inl (⟨x1, rfl, hxe, hxl9, rfl⟩)⟩
  · skip
    rw [he_2]
    refine (?_ : AJ G K Q 0 0 ex n 8 [some (.ref (q_h G + 0)), some (.int (x))] [.int (q_d (0))] σ)
    rw [hQ]
    exact A_ireturn hg (by decide) (by decide) rfl dX10_outputByte_8 ⟨rfl, Or.inr ((⟨rfl, hno9, rfl⟩))⟩
set_option maxRecDepth 100000 in
set_option maxHeartbeats 4000000 in
theorem c_X10_printOnePart (G : GL) (ex : Bool) (n : Nat) (σ : Nat → va_E) (z1 : Int32) (z2 : Int32) (z3 : Int32) (L : List Nat) (o : Nat → Nat) (g : Nat → Nat) (p : Nat) (hc0 : σ 0 = o10 G (z1) (z2) (z3)) (hc1 : σ 23 = o5 G (23) (nI (L.length))) (hc2 : σ 24 = q_an G 256 o) (hn9 : 279 ≤ n) (hG : x_gm G σ 25 g) (hO : ∀ j : Nat, j < L.length → o j = L.getD j 0) (hpp : p < s_np g) (hl : L.length + 14 ≤ 256) : Ct G yX10_printOnePart cX10_printOnePart 3 none ⟨2, 0, 0, 45⟩ [.ref (q_h G + 0), .int (nI (p))] ex n σ (fun v9 σ2 => v9 = none ∧ ∃ (L' : List Nat), ∃ (o' : Nat → Nat), (L' = L ++ s_prt g p) ∧ (L'.length ≤ L.length + 14) ∧ (∀ j : Nat, j < L'.length → o' j = L'.getD j 0) ∧ σ2 23 = o5 G (23) (nI (L'.length)) ∧ σ2 24 = q_an G 256 o' ∧ (∀ i : Nat, i ≠ 23 ∧ i ≠ 24 → σ2 i = σ i)) := by
  refine q_enter [some (.ref (q_h G + 0)), some (.int (nI (p))), none] (by decide) (Nat.le_of_ble_eq_true rfl) rfl ?_
  intro K hg
  obtain ⟨Q, hQ⟩ : ∃ Q, Q = q_Q G K ex n 0 0 (fun v9 n' σ' => n' = n ∧ (fun v9 σ2 => v9 = none ∧ ∃ (L' : List Nat), ∃ (o' : Nat → Nat), (L' = L ++ s_prt g p) ∧ (L'.length ≤ L.length + 14) ∧ (∀ j : Nat, j < L'.length → o' j = L'.getD j 0) ∧ σ2 23 = o5 G (23) (nI (L'.length)) ∧ σ2 24 = q_an G 256 o' ∧ (∀ i : Nat, i ≠ 23 ∧ i ≠ 24 → σ2 i = σ i)) v9 σ') q_noX := ⟨_, rfl⟩
  refine (?_ : AJ G K (q_Q G K ex n 0 0 _ _) 0 0 ex n 0 _ _ σ)
  rw [← hQ]
  obtain ⟨kd, fi, se, tf, ts, ac, tu, nm, on, sl, mo, nb, bm, ⟨hg_1, hg_2, hg_3, hg_4, hg_5, hg_6, hg_7, hg_8, hg_9, hg_10, hg_11, hg_12⟩, hgr⟩ := hG
  obtain ⟨hgw, hxp, htp, hrl, hac, htu⟩ := hgr
  have hrs := x_rl_rs hrl
  have hg0 := hgw.1
  have hg1 := hgw.2.1
  have hg2 := hgw.2.2.1
  have hg3 := hgw.2.2.2.1
  have hg6 := hgw.2.2.2.2.1
  have hnp : s_np g = g 1 + g 2 := rfl
  have hc_13 : ∀ j9 : Nat, j9 < g 0 → σ (25 + 10 + 2 * j9) = o7 G (25 + 10 + 2 * j9) (lN (nm j9)) (lN (on j9)) (nI (s_rule g j9 18)) (nI (s_rule g j9 19)) (nI (s_rule g j9 20)) := fun j9 hj => (hg_11 j9 (by omega)).trans (by rw [(hrl j9 hj).2.2.2.1, (hrl j9 hj).2.2.2.2.1, (hrl j9 hj).2.2.2.2.2.1])
  have hc_14 : ∀ j9 : Nat, j9 < g 0 → σ (25 + 10 + 2 * j9 + 1) = q_an G 5 (bm j9) := fun j9 hj => hg_12 j9 (by omega)
  have hsx : s_x g p ≤ 60 := by
    unfold s_np at hpp
    unfold s_x; split
    · next h => have := (hgw.2.2.2.2.2.2.1 p h).2.1; omega
    · next h => have := (hgw.2.2.2.2.2.2.2 (p - g 1) (by omega)).1; omega
  have hsy : s_y g p ≤ 60 := by
    unfold s_y; split
    · next h => have := (hgw.2.2.2.2.2.2.1 p h).2.2.1; omega
    · omega
  have hsk : s_kind g p ≤ 9 := by
    unfold s_np at hpp
    unfold s_kind; split
    · next h => have := (hgw.2.2.2.2.2.2.1 p h).1; omega
    · next h => have := (hgw.2.2.2.2.2.2.2 (p - g 1) (by omega)).2.1.2; omega
  refine A_aload_n hg dX10_printOnePart_0 rfl rfl ?_
  refine A_getf (v := .ref (q_h G + 25)) hg fl_RX10_40 dX10_printOnePart_1 hc0 (by omega) rfl ?_
  refine A_getf (v := .ref (q_h G + 27)) hg fl_RX10_118 dX10_printOnePart_4 hg_1 (by omega) rfl ?_
  refine A_astore_n hg dX10_printOnePart_7 rfl (by decide) (q_c1d rfl) ?_
  refine A_eq (ls2 := [some (.ref (q_h G + 0)), some (.int (nI (p))), some (.ref (q_h G + 27))]) (st2 := []) (pc2 := 0) rfl rfl ?_
  refine A_aload_n hg dX10_printOnePart_8 rfl rfl ?_
  refine A_iload_n hg dX10_printOnePart_9 rfl rfl ?_
  refine A_eV (kc2 := 0) (ks2 := 0) (As := [.int (nI (p))]) (rest := []) hg lk_RX10_260 in_X6_isBoard se_X6_isBoard rfl dX10_printOnePart_10 ⟨by decide, by decide⟩ rfl rfl ⟨by decide, by decide⟩ hg_3 (by omega) rfl rfl (Nat.le_of_ble_eq_true rfl) (c_X6_isBoard G ex n σ 27 (g 1) (g 2) p hg_3 (by omega) (by omega) (by omega)) ?_
  refine A_if_eqB (tgt := 83) hg dX10_printOnePart_13 (by decide) (fun c13 => ?_) (fun c13 => ?_)
  · skip
    refine A_aload_n hg dX10_printOnePart_83 rfl rfl ?_
    refine A_getf (v := .ref (q_h G + 23)) hg fl_RX10_33 dX10_printOnePart_84 hc0 (by omega) rfl ?_
    refine A_aload_n hg dX10_printOnePart_87 rfl rfl ?_
    refine A_iload_n hg dX10_printOnePart_88 rfl rfl ?_
    refine A_eV (kc2 := 0) (ks2 := 0) (As := [.int (nI (p))]) (rest := [.ref (q_h G + 23)]) hg lk_RX10_267 in_X6_firstOf se_X6_firstOf rfl dX10_printOnePart_89 ⟨by decide, by decide⟩ rfl rfl ⟨by decide, by decide⟩ hg_3 (by omega) rfl rfl (Nat.le_of_ble_eq_true rfl) (c_X6_firstOf G ex n σ 27 (g 1) (g 2) fi p hg_3 hg_5 (by omega) (by omega) (by omega)) ?_
    refine A_top (w := .int (nI (s_x g p))) (by rw [x_p_x hxp hpp]) ?_
    refine A_vV (kc2 := 0) (ks2 := 0) (As := [.int (nI (s_x g p))]) (rest := []) hg lk_RX10_430 in_X5_putNumber se_X5_putNumber rfl dX10_printOnePart_92 ⟨by decide, by decide⟩ rfl rfl ⟨by decide, by decide⟩ hc1 (by omega) rfl rfl (Nat.le_of_ble_eq_true rfl) (c_X5_putNumber G ex n σ L o (s_x g p) hc1 hc2 (by omega) (by assumption) (by omega) (by omega)) ?_
    rintro σ_18 ⟨L92, o92, hL92, hlen92, hO92, hc_15, hc_16, hf_17⟩
    have hc_19 : σ_18 0 = o10 G (z1) (z2) (z3) := (hf_17 _ (by omega)).trans hc0
    have hc_20 : σ_18 25 = o0 G (25) (nI (g 0)) (nI (g 3)) (nI (g 4)) (nI (g 5)) (nI (g 6)) := (hf_17 _ (by omega)).trans hg_1
    have hc_21 : σ_18 26 = q_rn G 3 4 (fun j => some (25 + 10 + 2 * j)) := (hf_17 _ (by omega)).trans hg_2
    have hc_22 : σ_18 27 = o6 G (27) (nI (g 1)) (nI (g 2)) := (hf_17 _ (by omega)).trans hg_3
    have hc_23 : σ_18 (27 + 1) = q_an G 8 kd := (hf_17 _ (by omega)).trans hg_4
    have hc_24 : σ_18 (27 + 2) = q_an G 8 fi := (hf_17 _ (by omega)).trans hg_5
    have hc_25 : σ_18 (27 + 3) = q_an G 8 se := (hf_17 _ (by omega)).trans hg_6
    have hc_26 : σ_18 (27 + 4) = q_an G 8 tf := (hf_17 _ (by omega)).trans hg_7
    have hc_27 : σ_18 (27 + 5) = q_an G 8 ts := (hf_17 _ (by omega)).trans hg_8
    have hc_28 : σ_18 (25 + 8) = q_an G 10 ac := (hf_17 _ (by omega)).trans hg_9
    have hc_29 : σ_18 (25 + 9) = q_an G 100 tu := (hf_17 _ (by omega)).trans hg_10
    have hc_30 : ∀ j9 : Nat, j9 < g 0 → σ_18 (25 + 10 + 2 * j9) = o7 G (25 + 10 + 2 * j9) (lN (nm j9)) (lN (on j9)) (nI (s_rule g j9 18)) (nI (s_rule g j9 19)) (nI (s_rule g j9 20)) := fun j9 hj0 => (hf_17 _ (by omega)).trans (hc_13 j9 (by omega))
    have hc_31 : ∀ j9 : Nat, j9 < g 0 → σ_18 (25 + 10 + 2 * j9 + 1) = q_an G 5 (bm j9) := fun j9 hj0 => (hf_17 _ (by omega)).trans (hc_14 j9 (by omega))
    refine A_aload_n hg dX10_printOnePart_95 rfl rfl ?_
    refine A_getf (v := .ref (q_h G + 23)) hg fl_RX10_33 dX10_printOnePart_96 hc_19 (by omega) rfl ?_
    refine A_bipush (v := (nI (47))) hg dX10_printOnePart_99 (by decide) ?_
    refine A_vV (kc2 := 0) (ks2 := 0) (As := [.int (nI (47))]) (rest := []) hg lk_RX10_417 in_X5_put se_X5_put rfl dX10_printOnePart_101 ⟨by decide, by decide⟩ rfl rfl ⟨by decide, by decide⟩ hc_15 (by omega) rfl rfl (Nat.le_of_ble_eq_true rfl) (c_X5_put G ex n σ_18 L92 o92 47 hc_15 hc_16 (by omega) (by assumption) (by omega)) ?_
    rintro σ_35 ⟨L101, o101, hL101, hlen101, hO101, hc_32, hc_33, hf_34⟩
    have hc_36 : σ_35 0 = o10 G (z1) (z2) (z3) := (hf_34 _ (by omega)).trans hc_19
    have hc_37 : σ_35 25 = o0 G (25) (nI (g 0)) (nI (g 3)) (nI (g 4)) (nI (g 5)) (nI (g 6)) := (hf_34 _ (by omega)).trans hc_20
    have hc_38 : σ_35 26 = q_rn G 3 4 (fun j => some (25 + 10 + 2 * j)) := (hf_34 _ (by omega)).trans hc_21
    have hc_39 : σ_35 27 = o6 G (27) (nI (g 1)) (nI (g 2)) := (hf_34 _ (by omega)).trans hc_22
    have hc_40 : σ_35 (27 + 1) = q_an G 8 kd := (hf_34 _ (by omega)).trans hc_23
    have hc_41 : σ_35 (27 + 2) = q_an G 8 fi := (hf_34 _ (by omega)).trans hc_24
    have hc_42 : σ_35 (27 + 3) = q_an G 8 se := (hf_34 _ (by omega)).trans hc_25
    have hc_43 : σ_35 (27 + 4) = q_an G 8 tf := (hf_34 _ (by omega)).trans hc_26
    have hc_44 : σ_35 (27 + 5) = q_an G 8 ts := (hf_34 _ (by omega)).trans hc_27
    have hc_45 : σ_35 (25 + 8) = q_an G 10 ac := (hf_34 _ (by omega)).trans hc_28
    have hc_46 : σ_35 (25 + 9) = q_an G 100 tu := (hf_34 _ (by omega)).trans hc_29
    have hc_47 : ∀ j9 : Nat, j9 < g 0 → σ_35 (25 + 10 + 2 * j9) = o7 G (25 + 10 + 2 * j9) (lN (nm j9)) (lN (on j9)) (nI (s_rule g j9 18)) (nI (s_rule g j9 19)) (nI (s_rule g j9 20)) := fun j9 hj0 => (hf_34 _ (by omega)).trans (hc_30 j9 (by omega))
    have hc_48 : ∀ j9 : Nat, j9 < g 0 → σ_35 (25 + 10 + 2 * j9 + 1) = q_an G 5 (bm j9) := fun j9 hj0 => (hf_34 _ (by omega)).trans (hc_31 j9 (by omega))
    refine A_aload_n hg dX10_printOnePart_104 rfl rfl ?_
    refine A_getf (v := .ref (q_h G + 23)) hg fl_RX10_33 dX10_printOnePart_105 hc_36 (by omega) rfl ?_
    refine A_aload_n hg dX10_printOnePart_108 rfl rfl ?_
    refine A_iload_n hg dX10_printOnePart_109 rfl rfl ?_
    refine A_eV (kc2 := 0) (ks2 := 0) (As := [.int (nI (p))]) (rest := [.ref (q_h G + 23)]) hg lk_RX10_264 in_X6_kindOf se_X6_kindOf rfl dX10_printOnePart_110 ⟨by decide, by decide⟩ rfl rfl ⟨by decide, by decide⟩ hc_39 (by omega) rfl rfl (Nat.le_of_ble_eq_true rfl) (c_X6_kindOf G ex n σ_35 27 (g 1) (g 2) kd p hc_39 hc_40 (by omega) (by omega) (by omega)) ?_
    refine A_top (w := .int (nI (s_kind g p))) (by rw [x_p_k hxp hpp]) ?_
    refine A_vV (kc2 := 0) (ks2 := 0) (As := [.int (nI (s_kind g p))]) (rest := []) hg lk_RX10_430 in_X5_putNumber se_X5_putNumber rfl dX10_printOnePart_113 ⟨by decide, by decide⟩ rfl rfl ⟨by decide, by decide⟩ hc_32 (by omega) rfl rfl (Nat.le_of_ble_eq_true rfl) (c_X5_putNumber G ex n σ_35 L101 o101 (s_kind g p) hc_32 hc_33 (by omega) (by assumption) (by omega) (by omega)) ?_
    rintro σ_52 ⟨L113, o113, hL113, hlen113, hO113, hc_49, hc_50, hf_51⟩
    have hc_53 : σ_52 0 = o10 G (z1) (z2) (z3) := (hf_51 _ (by omega)).trans hc_36
    have hc_54 : σ_52 25 = o0 G (25) (nI (g 0)) (nI (g 3)) (nI (g 4)) (nI (g 5)) (nI (g 6)) := (hf_51 _ (by omega)).trans hc_37
    have hc_55 : σ_52 26 = q_rn G 3 4 (fun j => some (25 + 10 + 2 * j)) := (hf_51 _ (by omega)).trans hc_38
    have hc_56 : σ_52 27 = o6 G (27) (nI (g 1)) (nI (g 2)) := (hf_51 _ (by omega)).trans hc_39
    have hc_57 : σ_52 (27 + 1) = q_an G 8 kd := (hf_51 _ (by omega)).trans hc_40
    have hc_58 : σ_52 (27 + 2) = q_an G 8 fi := (hf_51 _ (by omega)).trans hc_41
    have hc_59 : σ_52 (27 + 3) = q_an G 8 se := (hf_51 _ (by omega)).trans hc_42
    have hc_60 : σ_52 (27 + 4) = q_an G 8 tf := (hf_51 _ (by omega)).trans hc_43
    have hc_61 : σ_52 (27 + 5) = q_an G 8 ts := (hf_51 _ (by omega)).trans hc_44
    have hc_62 : σ_52 (25 + 8) = q_an G 10 ac := (hf_51 _ (by omega)).trans hc_45
    have hc_63 : σ_52 (25 + 9) = q_an G 100 tu := (hf_51 _ (by omega)).trans hc_46
    have hc_64 : ∀ j9 : Nat, j9 < g 0 → σ_52 (25 + 10 + 2 * j9) = o7 G (25 + 10 + 2 * j9) (lN (nm j9)) (lN (on j9)) (nI (s_rule g j9 18)) (nI (s_rule g j9 19)) (nI (s_rule g j9 20)) := fun j9 hj0 => (hf_51 _ (by omega)).trans (hc_47 j9 (by omega))
    have hc_65 : ∀ j9 : Nat, j9 < g 0 → σ_52 (25 + 10 + 2 * j9 + 1) = q_an G 5 (bm j9) := fun j9 hj0 => (hf_51 _ (by omega)).trans (hc_48 j9 (by omega))
    rw [hQ]
    exact A_return hg (by decide) (by decide) rfl dX10_printOnePart_116 ⟨rfl, ⟨rfl, L113, o113, (by rw [hL113, hL101, hL92]; unfold s_prt; rw [if_neg (of_decide_eq_false c13)]; unfold s_kind s_x; simp only [if_neg (of_decide_eq_false c13), List.append_assoc]), (by omega), (by assumption), hc_49, hc_50, (fun i hi => ((hf_51 i (by omega)).trans ((hf_34 i (by omega)).trans (hf_17 i (by omega)))))⟩⟩
  · skip
    have hpb1 : p < g 1 := of_decide_eq_true c13
    have hkb : s_kind g p < g 0 := by unfold s_kind; rw [if_pos hpb1]; exact (hgw.2.2.2.2.2.2.1 p hpb1).1
    have hnr := (hrl (s_kind g p) hkb).1
    have hn8 := hnr.1.1
    refine A_aload_n hg dX10_printOnePart_16 rfl rfl ?_
    refine A_getf (v := .ref (q_h G + 23)) hg fl_RX10_33 dX10_printOnePart_17 hc0 (by omega) rfl ?_
    refine A_aload_n hg dX10_printOnePart_20 rfl rfl ?_
    refine A_getf (v := .ref (q_h G + 25)) hg fl_RX10_40 dX10_printOnePart_21 hc0 (by omega) rfl ?_
    refine A_aload_n hg dX10_printOnePart_24 rfl rfl ?_
    refine A_iload_n hg dX10_printOnePart_25 rfl rfl ?_
    refine A_eV (kc2 := 0) (ks2 := 0) (As := [.int (nI (p))]) (rest := [.ref (q_h G + 25), .ref (q_h G + 23)]) hg lk_RX10_264 in_X6_kindOf se_X6_kindOf rfl dX10_printOnePart_26 ⟨by decide, by decide⟩ rfl rfl ⟨by decide, by decide⟩ hg_3 (by omega) rfl rfl (Nat.le_of_ble_eq_true rfl) (c_X6_kindOf G ex n σ 27 (g 1) (g 2) kd p hg_3 hg_4 (by omega) (by omega) (by omega)) ?_
    refine A_top (w := .int (nI (s_kind g p))) (by rw [x_p_k hxp hpp]) ?_
    refine A_eV (kc2 := 0) (ks2 := 0) (As := [.int (nI (s_kind g p))]) (rest := [.ref (q_h G + 23)]) hg lk_RX10_198 in_X0_ruleAt se_X0_ruleAt rfl dX10_printOnePart_29 ⟨by decide, by decide⟩ rfl rfl ⟨by decide, by decide⟩ hg_1 (by omega) rfl rfl (Nat.le_of_ble_eq_true rfl) (c_X0_ruleAt G ex n σ 25 (g 0) (g 3) (g 4) (g 5) (g 6) (s_kind g p) hg_1 hg_2 (by omega) (by omega)) ?_
    refine A_getf (v := .long (lN (nm (s_kind g p)))) hg fl_RX10_250 dX10_printOnePart_32 (hc_13 (s_kind g p) (by omega)) (by omega) rfl ?_
    refine A_vV (kc2 := 0) (ks2 := 0) (As := [.long (lN (nm (s_kind g p)))]) (rest := []) hg lk_RX10_426 in_X5_putName se_X5_putName rfl dX10_printOnePart_35 ⟨by decide, by decide⟩ rfl rfl ⟨by decide, by decide⟩ hc1 (by omega) rfl rfl (Nat.le_of_ble_eq_true rfl) (c_X5_putName G ex n σ L o (s_rule g (s_kind g p)) (nm (s_kind g p)) hc1 hc2 (by omega) (by assumption) hnr (by omega)) ?_
    rintro σ_69 ⟨L35, o35, hL35, hlen35, hO35, hc_66, hc_67, hf_68⟩
    have hc_70 : σ_69 0 = o10 G (z1) (z2) (z3) := (hf_68 _ (by omega)).trans hc0
    have hc_71 : σ_69 25 = o0 G (25) (nI (g 0)) (nI (g 3)) (nI (g 4)) (nI (g 5)) (nI (g 6)) := (hf_68 _ (by omega)).trans hg_1
    have hc_72 : σ_69 26 = q_rn G 3 4 (fun j => some (25 + 10 + 2 * j)) := (hf_68 _ (by omega)).trans hg_2
    have hc_73 : σ_69 27 = o6 G (27) (nI (g 1)) (nI (g 2)) := (hf_68 _ (by omega)).trans hg_3
    have hc_74 : σ_69 (27 + 1) = q_an G 8 kd := (hf_68 _ (by omega)).trans hg_4
    have hc_75 : σ_69 (27 + 2) = q_an G 8 fi := (hf_68 _ (by omega)).trans hg_5
    have hc_76 : σ_69 (27 + 3) = q_an G 8 se := (hf_68 _ (by omega)).trans hg_6
    have hc_77 : σ_69 (27 + 4) = q_an G 8 tf := (hf_68 _ (by omega)).trans hg_7
    have hc_78 : σ_69 (27 + 5) = q_an G 8 ts := (hf_68 _ (by omega)).trans hg_8
    have hc_79 : σ_69 (25 + 8) = q_an G 10 ac := (hf_68 _ (by omega)).trans hg_9
    have hc_80 : σ_69 (25 + 9) = q_an G 100 tu := (hf_68 _ (by omega)).trans hg_10
    have hc_81 : ∀ j9 : Nat, j9 < g 0 → σ_69 (25 + 10 + 2 * j9) = o7 G (25 + 10 + 2 * j9) (lN (nm j9)) (lN (on j9)) (nI (s_rule g j9 18)) (nI (s_rule g j9 19)) (nI (s_rule g j9 20)) := fun j9 hj0 => (hf_68 _ (by omega)).trans (hc_13 j9 (by omega))
    have hc_82 : ∀ j9 : Nat, j9 < g 0 → σ_69 (25 + 10 + 2 * j9 + 1) = q_an G 5 (bm j9) := fun j9 hj0 => (hf_68 _ (by omega)).trans (hc_14 j9 (by omega))
    refine A_aload_n hg dX10_printOnePart_38 rfl rfl ?_
    refine A_getf (v := .ref (q_h G + 23)) hg fl_RX10_33 dX10_printOnePart_39 hc_70 (by omega) rfl ?_
    refine A_bipush (v := (nI (58))) hg dX10_printOnePart_42 (by decide) ?_
    refine A_vV (kc2 := 0) (ks2 := 0) (As := [.int (nI (58))]) (rest := []) hg lk_RX10_417 in_X5_put se_X5_put rfl dX10_printOnePart_44 ⟨by decide, by decide⟩ rfl rfl ⟨by decide, by decide⟩ hc_66 (by omega) rfl rfl (Nat.le_of_ble_eq_true rfl) (c_X5_put G ex n σ_69 L35 o35 58 hc_66 hc_67 (by omega) (by assumption) (by omega)) ?_
    rintro σ_86 ⟨L44, o44, hL44, hlen44, hO44, hc_83, hc_84, hf_85⟩
    have hc_87 : σ_86 0 = o10 G (z1) (z2) (z3) := (hf_85 _ (by omega)).trans hc_70
    have hc_88 : σ_86 25 = o0 G (25) (nI (g 0)) (nI (g 3)) (nI (g 4)) (nI (g 5)) (nI (g 6)) := (hf_85 _ (by omega)).trans hc_71
    have hc_89 : σ_86 26 = q_rn G 3 4 (fun j => some (25 + 10 + 2 * j)) := (hf_85 _ (by omega)).trans hc_72
    have hc_90 : σ_86 27 = o6 G (27) (nI (g 1)) (nI (g 2)) := (hf_85 _ (by omega)).trans hc_73
    have hc_91 : σ_86 (27 + 1) = q_an G 8 kd := (hf_85 _ (by omega)).trans hc_74
    have hc_92 : σ_86 (27 + 2) = q_an G 8 fi := (hf_85 _ (by omega)).trans hc_75
    have hc_93 : σ_86 (27 + 3) = q_an G 8 se := (hf_85 _ (by omega)).trans hc_76
    have hc_94 : σ_86 (27 + 4) = q_an G 8 tf := (hf_85 _ (by omega)).trans hc_77
    have hc_95 : σ_86 (27 + 5) = q_an G 8 ts := (hf_85 _ (by omega)).trans hc_78
    have hc_96 : σ_86 (25 + 8) = q_an G 10 ac := (hf_85 _ (by omega)).trans hc_79
    have hc_97 : σ_86 (25 + 9) = q_an G 100 tu := (hf_85 _ (by omega)).trans hc_80
    have hc_98 : ∀ j9 : Nat, j9 < g 0 → σ_86 (25 + 10 + 2 * j9) = o7 G (25 + 10 + 2 * j9) (lN (nm j9)) (lN (on j9)) (nI (s_rule g j9 18)) (nI (s_rule g j9 19)) (nI (s_rule g j9 20)) := fun j9 hj0 => (hf_85 _ (by omega)).trans (hc_81 j9 (by omega))
    have hc_99 : ∀ j9 : Nat, j9 < g 0 → σ_86 (25 + 10 + 2 * j9 + 1) = q_an G 5 (bm j9) := fun j9 hj0 => (hf_85 _ (by omega)).trans (hc_82 j9 (by omega))
    refine A_aload_n hg dX10_printOnePart_47 rfl rfl ?_
    refine A_getf (v := .ref (q_h G + 23)) hg fl_RX10_33 dX10_printOnePart_48 hc_87 (by omega) rfl ?_
    refine A_aload_n hg dX10_printOnePart_51 rfl rfl ?_
    refine A_iload_n hg dX10_printOnePart_52 rfl rfl ?_
    refine A_eV (kc2 := 0) (ks2 := 0) (As := [.int (nI (p))]) (rest := [.ref (q_h G + 23)]) hg lk_RX10_267 in_X6_firstOf se_X6_firstOf rfl dX10_printOnePart_53 ⟨by decide, by decide⟩ rfl rfl ⟨by decide, by decide⟩ hc_90 (by omega) rfl rfl (Nat.le_of_ble_eq_true rfl) (c_X6_firstOf G ex n σ_86 27 (g 1) (g 2) fi p hc_90 hc_92 (by omega) (by omega) (by omega)) ?_
    refine A_top (w := .int (nI (s_x g p))) (by rw [x_p_x hxp hpp]) ?_
    refine A_vV (kc2 := 0) (ks2 := 0) (As := [.int (nI (s_x g p))]) (rest := []) hg lk_RX10_430 in_X5_putNumber se_X5_putNumber rfl dX10_printOnePart_56 ⟨by decide, by decide⟩ rfl rfl ⟨by decide, by decide⟩ hc_83 (by omega) rfl rfl (Nat.le_of_ble_eq_true rfl) (c_X5_putNumber G ex n σ_86 L44 o44 (s_x g p) hc_83 hc_84 (by omega) (by assumption) (by omega) (by omega)) ?_
    rintro σ_103 ⟨L56, o56, hL56, hlen56, hO56, hc_100, hc_101, hf_102⟩
    have hc_104 : σ_103 0 = o10 G (z1) (z2) (z3) := (hf_102 _ (by omega)).trans hc_87
    have hc_105 : σ_103 25 = o0 G (25) (nI (g 0)) (nI (g 3)) (nI (g 4)) (nI (g 5)) (nI (g 6)) := (hf_102 _ (by omega)).trans hc_88
    have hc_106 : σ_103 26 = q_rn G 3 4 (fun j => some (25 + 10 + 2 * j)) := (hf_102 _ (by omega)).trans hc_89
    have hc_107 : σ_103 27 = o6 G (27) (nI (g 1)) (nI (g 2)) := (hf_102 _ (by omega)).trans hc_90
    have hc_108 : σ_103 (27 + 1) = q_an G 8 kd := (hf_102 _ (by omega)).trans hc_91
    have hc_109 : σ_103 (27 + 2) = q_an G 8 fi := (hf_102 _ (by omega)).trans hc_92
    have hc_110 : σ_103 (27 + 3) = q_an G 8 se := (hf_102 _ (by omega)).trans hc_93
    have hc_111 : σ_103 (27 + 4) = q_an G 8 tf := (hf_102 _ (by omega)).trans hc_94
    have hc_112 : σ_103 (27 + 5) = q_an G 8 ts := (hf_102 _ (by omega)).trans hc_95
    have hc_113 : σ_103 (25 + 8) = q_an G 10 ac := (hf_102 _ (by omega)).trans hc_96
    have hc_114 : σ_103 (25 + 9) = q_an G 100 tu := (hf_102 _ (by omega)).trans hc_97
    have hc_115 : ∀ j9 : Nat, j9 < g 0 → σ_103 (25 + 10 + 2 * j9) = o7 G (25 + 10 + 2 * j9) (lN (nm j9)) (lN (on j9)) (nI (s_rule g j9 18)) (nI (s_rule g j9 19)) (nI (s_rule g j9 20)) := fun j9 hj0 => (hf_102 _ (by omega)).trans (hc_98 j9 (by omega))
    have hc_116 : ∀ j9 : Nat, j9 < g 0 → σ_103 (25 + 10 + 2 * j9 + 1) = q_an G 5 (bm j9) := fun j9 hj0 => (hf_102 _ (by omega)).trans (hc_99 j9 (by omega))
    refine A_aload_n hg dX10_printOnePart_59 rfl rfl ?_
    refine A_getf (v := .ref (q_h G + 23)) hg fl_RX10_33 dX10_printOnePart_60 hc_104 (by omega) rfl ?_
    refine A_bipush (v := (nI (44))) hg dX10_printOnePart_63 (by decide) ?_
    refine A_vV (kc2 := 0) (ks2 := 0) (As := [.int (nI (44))]) (rest := []) hg lk_RX10_417 in_X5_put se_X5_put rfl dX10_printOnePart_65 ⟨by decide, by decide⟩ rfl rfl ⟨by decide, by decide⟩ hc_100 (by omega) rfl rfl (Nat.le_of_ble_eq_true rfl) (c_X5_put G ex n σ_103 L56 o56 44 hc_100 hc_101 (by omega) (by assumption) (by omega)) ?_
    rintro σ_120 ⟨L65, o65, hL65, hlen65, hO65, hc_117, hc_118, hf_119⟩
    have hc_121 : σ_120 0 = o10 G (z1) (z2) (z3) := (hf_119 _ (by omega)).trans hc_104
    have hc_122 : σ_120 25 = o0 G (25) (nI (g 0)) (nI (g 3)) (nI (g 4)) (nI (g 5)) (nI (g 6)) := (hf_119 _ (by omega)).trans hc_105
    have hc_123 : σ_120 26 = q_rn G 3 4 (fun j => some (25 + 10 + 2 * j)) := (hf_119 _ (by omega)).trans hc_106
    have hc_124 : σ_120 27 = o6 G (27) (nI (g 1)) (nI (g 2)) := (hf_119 _ (by omega)).trans hc_107
    have hc_125 : σ_120 (27 + 1) = q_an G 8 kd := (hf_119 _ (by omega)).trans hc_108
    have hc_126 : σ_120 (27 + 2) = q_an G 8 fi := (hf_119 _ (by omega)).trans hc_109
    have hc_127 : σ_120 (27 + 3) = q_an G 8 se := (hf_119 _ (by omega)).trans hc_110
    have hc_128 : σ_120 (27 + 4) = q_an G 8 tf := (hf_119 _ (by omega)).trans hc_111
    have hc_129 : σ_120 (27 + 5) = q_an G 8 ts := (hf_119 _ (by omega)).trans hc_112
    have hc_130 : σ_120 (25 + 8) = q_an G 10 ac := (hf_119 _ (by omega)).trans hc_113
    have hc_131 : σ_120 (25 + 9) = q_an G 100 tu := (hf_119 _ (by omega)).trans hc_114
    have hc_132 : ∀ j9 : Nat, j9 < g 0 → σ_120 (25 + 10 + 2 * j9) = o7 G (25 + 10 + 2 * j9) (lN (nm j9)) (lN (on j9)) (nI (s_rule g j9 18)) (nI (s_rule g j9 19)) (nI (s_rule g j9 20)) := fun j9 hj0 => (hf_119 _ (by omega)).trans (hc_115 j9 (by omega))
    have hc_133 : ∀ j9 : Nat, j9 < g 0 → σ_120 (25 + 10 + 2 * j9 + 1) = q_an G 5 (bm j9) := fun j9 hj0 => (hf_119 _ (by omega)).trans (hc_116 j9 (by omega))
    refine A_aload_n hg dX10_printOnePart_68 rfl rfl ?_
    refine A_getf (v := .ref (q_h G + 23)) hg fl_RX10_33 dX10_printOnePart_69 hc_121 (by omega) rfl ?_
    refine A_aload_n hg dX10_printOnePart_72 rfl rfl ?_
    refine A_iload_n hg dX10_printOnePart_73 rfl rfl ?_
    refine A_eV (kc2 := 0) (ks2 := 0) (As := [.int (nI (p))]) (rest := [.ref (q_h G + 23)]) hg lk_RX10_270 in_X6_secondOf se_X6_secondOf rfl dX10_printOnePart_74 ⟨by decide, by decide⟩ rfl rfl ⟨by decide, by decide⟩ hc_124 (by omega) rfl rfl (Nat.le_of_ble_eq_true rfl) (c_X6_secondOf G ex n σ_120 27 (g 1) (g 2) se p hc_124 hc_127 (by omega) (by omega) (by omega)) ?_
    refine A_top (w := .int (nI (s_y g p))) (by rw [x_p_y hxp hpp]) ?_
    refine A_vV (kc2 := 0) (ks2 := 0) (As := [.int (nI (s_y g p))]) (rest := []) hg lk_RX10_430 in_X5_putNumber se_X5_putNumber rfl dX10_printOnePart_77 ⟨by decide, by decide⟩ rfl rfl ⟨by decide, by decide⟩ hc_117 (by omega) rfl rfl (Nat.le_of_ble_eq_true rfl) (c_X5_putNumber G ex n σ_120 L65 o65 (s_y g p) hc_117 hc_118 (by omega) (by assumption) (by omega) (by omega)) ?_
    rintro σ_137 ⟨L77, o77, hL77, hlen77, hO77, hc_134, hc_135, hf_136⟩
    have hc_138 : σ_137 0 = o10 G (z1) (z2) (z3) := (hf_136 _ (by omega)).trans hc_121
    have hc_139 : σ_137 25 = o0 G (25) (nI (g 0)) (nI (g 3)) (nI (g 4)) (nI (g 5)) (nI (g 6)) := (hf_136 _ (by omega)).trans hc_122
    have hc_140 : σ_137 26 = q_rn G 3 4 (fun j => some (25 + 10 + 2 * j)) := (hf_136 _ (by omega)).trans hc_123
    have hc_141 : σ_137 27 = o6 G (27) (nI (g 1)) (nI (g 2)) := (hf_136 _ (by omega)).trans hc_124
    have hc_142 : σ_137 (27 + 1) = q_an G 8 kd := (hf_136 _ (by omega)).trans hc_125
    have hc_143 : σ_137 (27 + 2) = q_an G 8 fi := (hf_136 _ (by omega)).trans hc_126
    have hc_144 : σ_137 (27 + 3) = q_an G 8 se := (hf_136 _ (by omega)).trans hc_127
    have hc_145 : σ_137 (27 + 4) = q_an G 8 tf := (hf_136 _ (by omega)).trans hc_128
    have hc_146 : σ_137 (27 + 5) = q_an G 8 ts := (hf_136 _ (by omega)).trans hc_129
    have hc_147 : σ_137 (25 + 8) = q_an G 10 ac := (hf_136 _ (by omega)).trans hc_130
    have hc_148 : σ_137 (25 + 9) = q_an G 100 tu := (hf_136 _ (by omega)).trans hc_131
    have hc_149 : ∀ j9 : Nat, j9 < g 0 → σ_137 (25 + 10 + 2 * j9) = o7 G (25 + 10 + 2 * j9) (lN (nm j9)) (lN (on j9)) (nI (s_rule g j9 18)) (nI (s_rule g j9 19)) (nI (s_rule g j9 20)) := fun j9 hj0 => (hf_136 _ (by omega)).trans (hc_132 j9 (by omega))
    have hc_150 : ∀ j9 : Nat, j9 < g 0 → σ_137 (25 + 10 + 2 * j9 + 1) = q_an G 5 (bm j9) := fun j9 hj0 => (hf_136 _ (by omega)).trans (hc_133 j9 (by omega))
    refine A_goto (tgt := 116) hg dX10_printOnePart_80 (by decide) ?_
    rw [hQ]
    exact A_return hg (by decide) (by decide) rfl dX10_printOnePart_116 ⟨rfl, ⟨rfl, L77, o77, (by rw [hL77, hL65, hL56, hL44, hL35]; unfold s_prt; rw [if_pos (of_decide_eq_true c13)]; unfold s_kind s_x s_y; simp only [if_pos (of_decide_eq_true c13), List.append_assoc]), (by omega), (by assumption), hc_134, hc_135, (fun i hi => ((hf_136 i (by omega)).trans ((hf_119 i (by omega)).trans ((hf_102 i (by omega)).trans ((hf_85 i (by omega)).trans (hf_68 i (by omega)))))))⟩⟩
set_option maxRecDepth 100000 in
set_option maxHeartbeats 4000000 in
theorem c_X10_printParts (G : GL) (ex : Bool) (n : Nat) (σ : Nat → va_E) (z1 : Int32) (z2 : Int32) (z3 : Int32) (x : Int32) (o : Nat → Nat) (g : Nat → Nat) (hc0 : σ 0 = o10 G (z1) (z2) (z3)) (hc1 : σ 23 = o5 G (23) (x)) (hc2 : σ 24 = q_an G 256 o) (hn9 : 279 ≤ n) (hG : x_gm G σ 25 g) : Ct G yX10_printParts cX10_printParts 2 (some .int) ⟨3, 0, 0, 67⟩ [.ref (q_h G + 0)] ex n σ (fun v9 σ2 => ∃ (o' : Nat → Nat), v9 = some (.int (nI ((s_prk g (s_np g)).length))) ∧ (∀ j : Nat, j < (s_prk g (s_np g)).length → o' j = (s_prk g (s_np g)).getD j 0) ∧ ((s_prk g (s_np g)).length ≤ 256) ∧ σ2 23 = o5 G (23) (nI ((s_prk g (s_np g)).length)) ∧ σ2 24 = q_an G 256 o' ∧ (∀ i : Nat, i ≠ 23 ∧ i ≠ 24 → σ2 i = σ i)) := by
  refine q_enter [some (.ref (q_h G + 0)), none] (by decide) (Nat.le_of_ble_eq_true rfl) rfl ?_
  intro K hg
  obtain ⟨Q, hQ⟩ : ∃ Q, Q = q_Q G K ex n 0 0 (fun v9 n' σ' => n' = n ∧ (fun v9 σ2 => ∃ (o' : Nat → Nat), v9 = some (.int (nI ((s_prk g (s_np g)).length))) ∧ (∀ j : Nat, j < (s_prk g (s_np g)).length → o' j = (s_prk g (s_np g)).getD j 0) ∧ ((s_prk g (s_np g)).length ≤ 256) ∧ σ2 23 = o5 G (23) (nI ((s_prk g (s_np g)).length)) ∧ σ2 24 = q_an G 256 o' ∧ (∀ i : Nat, i ≠ 23 ∧ i ≠ 24 → σ2 i = σ i)) v9 σ') q_noX := ⟨_, rfl⟩
  refine (?_ : AJ G K (q_Q G K ex n 0 0 _ _) 0 0 ex n 0 _ _ σ)
  rw [← hQ]
  have hG0 := hG
  obtain ⟨kd, fi, se, tf, ts, ac, tu, nm, on, sl, mo, nb, bm, ⟨hg_1, hg_2, hg_3, hg_4, hg_5, hg_6, hg_7, hg_8, hg_9, hg_10, hg_11, hg_12⟩, hgr⟩ := hG
  obtain ⟨hgw, hxp, htp, hrl, hac, htu⟩ := hgr
  have hrs := x_rl_rs hrl
  have hg0 := hgw.1
  have hg1 := hgw.2.1
  have hg2 := hgw.2.2.1
  have hg3 := hgw.2.2.2.1
  have hg6 := hgw.2.2.2.2.1
  have hnp : s_np g = g 1 + g 2 := rfl
  have hc_13 : ∀ j9 : Nat, j9 < g 0 → σ (25 + 10 + 2 * j9) = o7 G (25 + 10 + 2 * j9) (lN (nm j9)) (lN (on j9)) (nI (s_rule g j9 18)) (nI (s_rule g j9 19)) (nI (s_rule g j9 20)) := fun j9 hj => (hg_11 j9 (by omega)).trans (by rw [(hrl j9 hj).2.2.2.1, (hrl j9 hj).2.2.2.2.1, (hrl j9 hj).2.2.2.2.2.1])
  have hc_14 : ∀ j9 : Nat, j9 < g 0 → σ (25 + 10 + 2 * j9 + 1) = q_an G 5 (bm j9) := fun j9 hj => hg_12 j9 (by omega)
  refine A_aload_n hg dX10_printParts_0 rfl rfl ?_
  refine A_getf (v := .ref (q_h G + 23)) hg fl_RX10_33 dX10_printParts_1 hc0 (by omega) rfl ?_
  refine A_vV (kc2 := 0) (ks2 := 0) (As := []) (rest := []) hg lk_RX10_416 in_X5_clear se_X5_clear rfl dX10_printParts_4 ⟨by decide, by decide⟩ rfl rfl ⟨by decide, by decide⟩ hc1 (by omega) rfl rfl (Nat.le_of_ble_eq_true rfl) (c_X5_clear G ex n σ x hc1 (by omega)) ?_
  rintro σ_17 ⟨hc_15, hf_16⟩
  have hc_18 : σ_17 0 = o10 G (z1) (z2) (z3) := (hf_16 _ (by omega)).trans hc0
  have hc_19 : σ_17 24 = q_an G 256 o := (hf_16 _ (by omega)).trans hc2
  have hc_20 : σ_17 25 = o0 G (25) (nI (g 0)) (nI (g 3)) (nI (g 4)) (nI (g 5)) (nI (g 6)) := (hf_16 _ (by omega)).trans hg_1
  have hc_21 : σ_17 26 = q_rn G 3 4 (fun j => some (25 + 10 + 2 * j)) := (hf_16 _ (by omega)).trans hg_2
  have hc_22 : σ_17 27 = o6 G (27) (nI (g 1)) (nI (g 2)) := (hf_16 _ (by omega)).trans hg_3
  have hc_23 : σ_17 (27 + 1) = q_an G 8 kd := (hf_16 _ (by omega)).trans hg_4
  have hc_24 : σ_17 (27 + 2) = q_an G 8 fi := (hf_16 _ (by omega)).trans hg_5
  have hc_25 : σ_17 (27 + 3) = q_an G 8 se := (hf_16 _ (by omega)).trans hg_6
  have hc_26 : σ_17 (27 + 4) = q_an G 8 tf := (hf_16 _ (by omega)).trans hg_7
  have hc_27 : σ_17 (27 + 5) = q_an G 8 ts := (hf_16 _ (by omega)).trans hg_8
  have hc_28 : σ_17 (25 + 8) = q_an G 10 ac := (hf_16 _ (by omega)).trans hg_9
  have hc_29 : σ_17 (25 + 9) = q_an G 100 tu := (hf_16 _ (by omega)).trans hg_10
  have hc_30 : ∀ j9 : Nat, j9 < g 0 → σ_17 (25 + 10 + 2 * j9) = o7 G (25 + 10 + 2 * j9) (lN (nm j9)) (lN (on j9)) (nI (s_rule g j9 18)) (nI (s_rule g j9 19)) (nI (s_rule g j9 20)) := fun j9 hj0 => (hf_16 _ (by omega)).trans (hc_13 j9 (by omega))
  have hc_31 : ∀ j9 : Nat, j9 < g 0 → σ_17 (25 + 10 + 2 * j9 + 1) = q_an G 5 (bm j9) := fun j9 hj0 => (hf_16 _ (by omega)).trans (hc_14 j9 (by omega))
  refine A_iconst (v := (nI (0))) hg dX10_printParts_7 (by decide) ?_
  refine A_istore_n hg dX10_printParts_8 rfl (by decide) (q_c1d rfl) ?_
  refine A_eq (ls2 := [some (.ref (q_h G + 0)), some (.int (nI (0)))]) (st2 := []) (pc2 := 0) rfl rfl ?_
  have hL9 : ∀ (fu : Nat) (p : Nat) (L1 : List Nat) (o1 : Nat → Nat) (σ_32 : Nat → va_E), (σ_32 0 = o10 G (z1) (z2) (z3)) → (σ_32 24 = q_an G 256 o1) → (σ_32 25 = o0 G (25) (nI (g 0)) (nI (g 3)) (nI (g 4)) (nI (g 5)) (nI (g 6))) → (σ_32 26 = q_rn G 3 4 (fun j => some (25 + 10 + 2 * j))) → (σ_32 27 = o6 G (27) (nI (g 1)) (nI (g 2))) → (σ_32 (27 + 1) = q_an G 8 kd) → (σ_32 (27 + 2) = q_an G 8 fi) → (σ_32 (27 + 3) = q_an G 8 se) → (σ_32 (27 + 4) = q_an G 8 tf) → (σ_32 (27 + 5) = q_an G 8 ts) → (σ_32 (25 + 8) = q_an G 10 ac) → (σ_32 (25 + 9) = q_an G 100 tu) → (∀ j9 : Nat, j9 < g 0 → σ_32 (25 + 10 + 2 * j9) = o7 G (25 + 10 + 2 * j9) (lN (nm j9)) (lN (on j9)) (nI (s_rule g j9 18)) (nI (s_rule g j9 19)) (nI (s_rule g j9 20))) → (∀ j9 : Nat, j9 < g 0 → σ_32 (25 + 10 + 2 * j9 + 1) = q_an G 5 (bm j9)) → (σ_32 23 = o5 G (23) (nI (L1.length))) → (∀ i : Nat, i ≠ 23 ∧ i ≠ 24 → σ_32 i = σ i) → (p ≤ s_np g) → (L1 = s_prk g p) → (L1.length ≤ 15 * p) → (∀ j : Nat, j < L1.length → o1 j = L1.getD j 0) → (s_np g - p) < fu → AJ G K Q 0 0 ex n 9 [some (.ref (q_h G + 0)), some (.int (nI (p)))] [] σ_32 := by
    intro fu
    induction fu with
    | zero => intro p L1 o1 σ_32 hc_33 hc_34 hc_35 hc_36 hc_37 hc_38 hc_39 hc_40 hc_41 hc_42 hc_43 hc_44 hc_45 hc_46 hc_47 hf_48 hp hL1 hl1 hO1 hm; exact absurd hm (Nat.not_lt_zero _)
    | succ fu ih9 =>
      intro p L1 o1 σ_32 hc_33 hc_34 hc_35 hc_36 hc_37 hc_38 hc_39 hc_40 hc_41 hc_42 hc_43 hc_44 hc_45 hc_46 hc_47 hf_48 hp hL1 hl1 hO1 hm9
      refine A_iload_n hg dX10_printParts_9 rfl rfl ?_
      refine A_aload_n hg dX10_printParts_10 rfl rfl ?_
      refine A_getf (v := .ref (q_h G + 25)) hg fl_RX10_40 dX10_printParts_11 hc_33 (by omega) rfl ?_
      refine A_getf (v := .ref (q_h G + 27)) hg fl_RX10_118 dX10_printParts_14 hc_35 (by omega) rfl ?_
      refine A_eV (kc2 := 0) (ks2 := 0) (As := []) (rest := [.int (nI (p))]) hg lk_RX10_121 in_X6_many se_X6_many rfl dX10_printParts_17 ⟨by decide, by decide⟩ rfl rfl ⟨by decide, by decide⟩ hc_37 (by omega) rfl rfl (Nat.le_of_ble_eq_true rfl) (c_X6_many G ex n σ_32 27 (g 1) (g 2) hc_37 (by omega)) ?_
      refine A_icmp_geN (tgt := 47) hg dX10_printParts_20 (by omega) (by omega) (by decide) (fun c20 => ?_) (fun c20 => ?_)
      · skip
        refine A_aload_n hg dX10_printParts_47 rfl rfl ?_
        refine A_getf (v := .ref (q_h G + 23)) hg fl_RX10_33 dX10_printParts_48 hc_33 (by omega) rfl ?_
        refine A_getf (v := .int (nI (L1.length))) hg fl_RX10_423 dX10_printParts_51 hc_47 (by omega) rfl ?_
        have hpe : p = s_np g := by omega
        rw [hpe] at hL1
        have hl8 : s_np g ≤ 8 := by omega
        have hc_49 : σ_32 23 = o5 G (23) (nI ((s_prk g (s_np g)).length)) := hc_47.trans (by rw [hL1])
        rw [hQ]
        exact A_ireturn hg (by decide) (by decide) rfl dX10_printParts_54 ⟨rfl, ⟨o1, (by rw [hL1]), (by rw [← hL1]; exact hO1), (by rw [← hL1]; omega), hc_49, hc_34, (fun i hi => (hf_48 i (by omega)))⟩⟩
      · skip
        refine A_iload_n hg dX10_printParts_23 rfl rfl ?_
        refine A_if_leN (tgt := 36) hg dX10_printParts_24 (by omega) (by decide) (fun c24 => ?_) (fun c24 => ?_)
        · skip
          refine A_aload_n hg dX10_printParts_36 rfl rfl ?_
          refine A_iload_n hg dX10_printParts_37 rfl rfl ?_
          refine A_vV (kc2 := 0) (ks2 := 0) (As := [.int (nI (p))]) (rest := []) hg lk_RX10_420 in_X10_printOnePart se_X10_printOnePart rfl dX10_printParts_38 ⟨by decide, by decide⟩ rfl rfl ⟨by decide, by decide⟩ hc_33 (by omega) rfl rfl (Nat.le_of_ble_eq_true rfl) (c_X10_printOnePart G ex n σ_32 z1 z2 z3 L1 o1 g p hc_33 hc_47 hc_34 (by omega) (x_gm_e (fun i _ _ => (hf_48 i (by omega))) hG0) (by assumption) (by omega) (by omega)) ?_
          rintro σ_53 ⟨L38, o38, hL38, hlen38, hO38, hc_50, hc_51, hf_52⟩
          have hc_54 : σ_53 0 = o10 G (z1) (z2) (z3) := (hf_52 _ (by omega)).trans hc_33
          have hc_55 : σ_53 25 = o0 G (25) (nI (g 0)) (nI (g 3)) (nI (g 4)) (nI (g 5)) (nI (g 6)) := (hf_52 _ (by omega)).trans hc_35
          have hc_56 : σ_53 26 = q_rn G 3 4 (fun j => some (25 + 10 + 2 * j)) := (hf_52 _ (by omega)).trans hc_36
          have hc_57 : σ_53 27 = o6 G (27) (nI (g 1)) (nI (g 2)) := (hf_52 _ (by omega)).trans hc_37
          have hc_58 : σ_53 (27 + 1) = q_an G 8 kd := (hf_52 _ (by omega)).trans hc_38
          have hc_59 : σ_53 (27 + 2) = q_an G 8 fi := (hf_52 _ (by omega)).trans hc_39
          have hc_60 : σ_53 (27 + 3) = q_an G 8 se := (hf_52 _ (by omega)).trans hc_40
          have hc_61 : σ_53 (27 + 4) = q_an G 8 tf := (hf_52 _ (by omega)).trans hc_41
          have hc_62 : σ_53 (27 + 5) = q_an G 8 ts := (hf_52 _ (by omega)).trans hc_42
          have hc_63 : σ_53 (25 + 8) = q_an G 10 ac := (hf_52 _ (by omega)).trans hc_43
          have hc_64 : σ_53 (25 + 9) = q_an G 100 tu := (hf_52 _ (by omega)).trans hc_44
          have hc_65 : ∀ j9 : Nat, j9 < g 0 → σ_53 (25 + 10 + 2 * j9) = o7 G (25 + 10 + 2 * j9) (lN (nm j9)) (lN (on j9)) (nI (s_rule g j9 18)) (nI (s_rule g j9 19)) (nI (s_rule g j9 20)) := fun j9 hj0 => (hf_52 _ (by omega)).trans (hc_45 j9 (by omega))
          have hc_66 : ∀ j9 : Nat, j9 < g 0 → σ_53 (25 + 10 + 2 * j9 + 1) = q_an G 5 (bm j9) := fun j9 hj0 => (hf_52 _ (by omega)).trans (hc_46 j9 (by omega))
          refine A_iincN (k' := 1) hg dX10_printParts_41 (by decide) rfl (by decide) (q_c1d rfl) ?_
          refine A_eq (ls2 := [some (.ref (q_h G + 0)), some (.int (nI (p + 1)))]) (st2 := []) (pc2 := 0) rfl rfl ?_
          refine A_goto (tgt := 9) hg dX10_printParts_44 (by decide) ?_
          exact ih9 (p + 1) L38 o38 σ_53 hc_54 hc_51 hc_55 hc_56 hc_57 hc_58 hc_59 hc_60 hc_61 hc_62 hc_63 hc_64 hc_65 hc_66 hc_50 (fun i hi => ((hf_52 i (by omega)).trans (hf_48 i (by omega)))) (by omega) (by rw [hL38, hL1]; show _ = s_prk g p ++ (if 0 < p then [32] else []) ++ s_prt g p; first | rw [if_pos (show 0 < p by omega)] | rw [if_neg (show ¬ 0 < p by omega), List.append_nil]) (by omega) (by assumption) (by omega)
        · skip
          refine A_aload_n hg dX10_printParts_27 rfl rfl ?_
          refine A_getf (v := .ref (q_h G + 23)) hg fl_RX10_33 dX10_printParts_28 hc_33 (by omega) rfl ?_
          refine A_bipush (v := (nI (32))) hg dX10_printParts_31 (by decide) ?_
          refine A_vV (kc2 := 0) (ks2 := 0) (As := [.int (nI (32))]) (rest := []) hg lk_RX10_417 in_X5_put se_X5_put rfl dX10_printParts_33 ⟨by decide, by decide⟩ rfl rfl ⟨by decide, by decide⟩ hc_47 (by omega) rfl rfl (Nat.le_of_ble_eq_true rfl) (c_X5_put G ex n σ_32 L1 o1 32 hc_47 hc_34 (by omega) (by assumption) (by omega)) ?_
          rintro σ_70 ⟨L33, o33, hL33, hlen33, hO33, hc_67, hc_68, hf_69⟩
          have hc_71 : σ_70 0 = o10 G (z1) (z2) (z3) := (hf_69 _ (by omega)).trans hc_33
          have hc_72 : σ_70 25 = o0 G (25) (nI (g 0)) (nI (g 3)) (nI (g 4)) (nI (g 5)) (nI (g 6)) := (hf_69 _ (by omega)).trans hc_35
          have hc_73 : σ_70 26 = q_rn G 3 4 (fun j => some (25 + 10 + 2 * j)) := (hf_69 _ (by omega)).trans hc_36
          have hc_74 : σ_70 27 = o6 G (27) (nI (g 1)) (nI (g 2)) := (hf_69 _ (by omega)).trans hc_37
          have hc_75 : σ_70 (27 + 1) = q_an G 8 kd := (hf_69 _ (by omega)).trans hc_38
          have hc_76 : σ_70 (27 + 2) = q_an G 8 fi := (hf_69 _ (by omega)).trans hc_39
          have hc_77 : σ_70 (27 + 3) = q_an G 8 se := (hf_69 _ (by omega)).trans hc_40
          have hc_78 : σ_70 (27 + 4) = q_an G 8 tf := (hf_69 _ (by omega)).trans hc_41
          have hc_79 : σ_70 (27 + 5) = q_an G 8 ts := (hf_69 _ (by omega)).trans hc_42
          have hc_80 : σ_70 (25 + 8) = q_an G 10 ac := (hf_69 _ (by omega)).trans hc_43
          have hc_81 : σ_70 (25 + 9) = q_an G 100 tu := (hf_69 _ (by omega)).trans hc_44
          have hc_82 : ∀ j9 : Nat, j9 < g 0 → σ_70 (25 + 10 + 2 * j9) = o7 G (25 + 10 + 2 * j9) (lN (nm j9)) (lN (on j9)) (nI (s_rule g j9 18)) (nI (s_rule g j9 19)) (nI (s_rule g j9 20)) := fun j9 hj0 => (hf_69 _ (by omega)).trans (hc_45 j9 (by omega))
          have hc_83 : ∀ j9 : Nat, j9 < g 0 → σ_70 (25 + 10 + 2 * j9 + 1) = q_an G 5 (bm j9) := fun j9 hj0 => (hf_69 _ (by omega)).trans (hc_46 j9 (by omega))
          refine A_aload_n hg dX10_printParts_36 rfl rfl ?_
          refine A_iload_n hg dX10_printParts_37 rfl rfl ?_
          refine A_vV (kc2 := 0) (ks2 := 0) (As := [.int (nI (p))]) (rest := []) hg lk_RX10_420 in_X10_printOnePart se_X10_printOnePart rfl dX10_printParts_38 ⟨by decide, by decide⟩ rfl rfl ⟨by decide, by decide⟩ hc_71 (by omega) rfl rfl (Nat.le_of_ble_eq_true rfl) (c_X10_printOnePart G ex n σ_70 z1 z2 z3 L33 o33 g p hc_71 hc_67 hc_68 (by omega) (x_gm_e (fun i _ _ => ((hf_69 i (by omega)).trans (hf_48 i (by omega)))) hG0) (by assumption) (by omega) (by omega)) ?_
          rintro σ_87 ⟨L38, o38, hL38, hlen38, hO38, hc_84, hc_85, hf_86⟩
          have hc_88 : σ_87 0 = o10 G (z1) (z2) (z3) := (hf_86 _ (by omega)).trans hc_71
          have hc_89 : σ_87 25 = o0 G (25) (nI (g 0)) (nI (g 3)) (nI (g 4)) (nI (g 5)) (nI (g 6)) := (hf_86 _ (by omega)).trans hc_72
          have hc_90 : σ_87 26 = q_rn G 3 4 (fun j => some (25 + 10 + 2 * j)) := (hf_86 _ (by omega)).trans hc_73
          have hc_91 : σ_87 27 = o6 G (27) (nI (g 1)) (nI (g 2)) := (hf_86 _ (by omega)).trans hc_74
          have hc_92 : σ_87 (27 + 1) = q_an G 8 kd := (hf_86 _ (by omega)).trans hc_75
          have hc_93 : σ_87 (27 + 2) = q_an G 8 fi := (hf_86 _ (by omega)).trans hc_76
          have hc_94 : σ_87 (27 + 3) = q_an G 8 se := (hf_86 _ (by omega)).trans hc_77
          have hc_95 : σ_87 (27 + 4) = q_an G 8 tf := (hf_86 _ (by omega)).trans hc_78
          have hc_96 : σ_87 (27 + 5) = q_an G 8 ts := (hf_86 _ (by omega)).trans hc_79
          have hc_97 : σ_87 (25 + 8) = q_an G 10 ac := (hf_86 _ (by omega)).trans hc_80
          have hc_98 : σ_87 (25 + 9) = q_an G 100 tu := (hf_86 _ (by omega)).trans hc_81
          have hc_99 : ∀ j9 : Nat, j9 < g 0 → σ_87 (25 + 10 + 2 * j9) = o7 G (25 + 10 + 2 * j9) (lN (nm j9)) (lN (on j9)) (nI (s_rule g j9 18)) (nI (s_rule g j9 19)) (nI (s_rule g j9 20)) := fun j9 hj0 => (hf_86 _ (by omega)).trans (hc_82 j9 (by omega))
          have hc_100 : ∀ j9 : Nat, j9 < g 0 → σ_87 (25 + 10 + 2 * j9 + 1) = q_an G 5 (bm j9) := fun j9 hj0 => (hf_86 _ (by omega)).trans (hc_83 j9 (by omega))
          refine A_iincN (k' := 1) hg dX10_printParts_41 (by decide) rfl (by decide) (q_c1d rfl) ?_
          refine A_eq (ls2 := [some (.ref (q_h G + 0)), some (.int (nI (p + 1)))]) (st2 := []) (pc2 := 0) rfl rfl ?_
          refine A_goto (tgt := 9) hg dX10_printParts_44 (by decide) ?_
          exact ih9 (p + 1) L38 o38 σ_87 hc_88 hc_85 hc_89 hc_90 hc_91 hc_92 hc_93 hc_94 hc_95 hc_96 hc_97 hc_98 hc_99 hc_100 hc_84 (fun i hi => ((hf_86 i (by omega)).trans ((hf_69 i (by omega)).trans (hf_48 i (by omega))))) (by omega) (by rw [hL38, hL33, hL1]; show _ = s_prk g p ++ (if 0 < p then [32] else []) ++ s_prt g p; first | rw [if_pos (show 0 < p by omega)] | rw [if_neg (show ¬ 0 < p by omega), List.append_nil]) (by omega) (by assumption) (by omega)
  exact hL9 _ 0 ([] : List Nat) o σ_17 hc_18 hc_19 hc_20 hc_21 hc_22 hc_23 hc_24 hc_25 hc_26 hc_27 hc_28 hc_29 hc_30 hc_31 hc_15 (fun i hi => (hf_16 i (by omega))) (Nat.zero_le _) rfl (Nat.zero_le _) (fun j h => absurd h (Nat.not_lt_zero j)) (Nat.lt_succ_self _)
end
