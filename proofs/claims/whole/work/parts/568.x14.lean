section
set_option maxRecDepth 100000 in
set_option maxHeartbeats 4000000 in
theorem c_X10_letterOf (G : GL) (ex : Bool) (n : Nat) (σ : Nat → va_E) (nm : Nat) (k : Nat)  (hnm : nm < 2 ^ 41) (hk8 : k < 8) : Ct G yX10_letterOf cX10_letterOf 3 (some .int) ⟨0, 0, 0, 0⟩ [.long (lN (nm)), .int (nI (k))] ex n σ (fun v9 σ2 => σ2 = σ ∧ v9 = some (.int (nI (x_le nm k)))) := by
  refine q_enter [some (.long (lN (nm))), none, some (.int (nI (k)))] (by decide) (Nat.le_of_ble_eq_true rfl) rfl ?_
  intro K hg
  obtain ⟨Q, hQ⟩ : ∃ Q, Q = q_Q G K ex n 0 0 (fun v9 n' σ' => n' = n ∧ (fun v9 σ2 => σ2 = σ ∧ v9 = some (.int (nI (x_le nm k)))) v9 σ') q_noX := ⟨_, rfl⟩
  refine (?_ : AJ G K (q_Q G K ex n 0 0 _ _) 0 0 ex n 0 _ _ σ)
  rw [← hQ]
  refine A_iload_n hg dX10_letterOf_0 rfl rfl ?_
  refine A_if_ltN (tgt := 10) hg dX10_letterOf_1 (by omega) (by decide) ?_
  refine A_iload_n hg dX10_letterOf_4 rfl rfl ?_
  refine A_bipush (v := (nI (8))) hg dX10_letterOf_5 (by decide) ?_
  refine A_icmp_ltN (tgt := 12) hg dX10_letterOf_7 (by omega) (by decide) (by decide) (fun c7 => ?_) (fun c7 => absurd hk8 (by omega))
  refine A_lload_n hg dX10_letterOf_12 rfl rfl ?_
  refine A_iload_n hg dX10_letterOf_13 rfl rfl ?_
  refine A_iconst (v := (nI (5))) hg dX10_letterOf_14 (by decide) ?_
  refine A_imulN hg dX10_letterOf_15 ?_
  refine A_lushrP hg dX10_letterOf_16 (Nat.lt_of_lt_of_le hnm (by decide)) (by omega) ?_
  refine A_l2iP hg dX10_letterOf_17 ?_
  refine A_bipush (v := (nI (31))) hg dX10_letterOf_18 (by decide) ?_
  refine A_iand hg dX10_letterOf_20 ?_
  refine A_top (w := .int (nI (x_le nm k))) (congrArg Value.int (q_and31 _)) ?_
  rw [hQ]
  exact A_ireturn hg (by decide) (by decide) rfl dX10_letterOf_21 ⟨rfl, ⟨rfl, rfl⟩⟩
set_option maxRecDepth 100000 in
set_option maxHeartbeats 4000000 in
theorem c_X10_letterOfI (G : GL) (ex : Bool) (n : Nat) (σ : Nat → va_E) (nm : Nat) (x : Int32)  (hnm : nm < 2 ^ 41) : Ct G yX10_letterOf cX10_letterOf 3 (some .int) ⟨0, 0, 0, 0⟩ [.long (lN (nm)), .int (x)] ex n σ (fun v9 σ2 => (∃ (k : Nat), v9 = some (.int (nI (x_le nm k))) ∧ (x = nI k) ∧ (k < 8) ∧ σ2 = σ) ∨ (v9 = some (.int (nI (0))) ∧ (∀ k : Nat, k < 8 → x = nI k → False) ∧ σ2 = σ)) := by
  refine q_enter [some (.long (lN (nm))), none, some (.int (x))] (by decide) (Nat.le_of_ble_eq_true rfl) rfl ?_
  intro K hg
  obtain ⟨Q, hQ⟩ : ∃ Q, Q = q_Q G K ex n 0 0 (fun v9 n' σ' => n' = n ∧ (fun v9 σ2 => (∃ (k : Nat), v9 = some (.int (nI (x_le nm k))) ∧ (x = nI k) ∧ (k < 8) ∧ σ2 = σ) ∨ (v9 = some (.int (nI (0))) ∧ (∀ k : Nat, k < 8 → x = nI k → False) ∧ σ2 = σ)) v9 σ') q_noX := ⟨_, rfl⟩
  refine (?_ : AJ G K (q_Q G K ex n 0 0 _ _) 0 0 ex n 0 _ _ σ)
  rw [← hQ]
  refine A_iload_n hg dX10_letterOf_0 rfl rfl ?_
  refine A_if_lt (tgt := 10) hg dX10_letterOf_1 (by decide) (fun c1 => ?_) (fun c1 => ?_)
  · skip
    refine A_iconst (v := (nI (0))) hg dX10_letterOf_10 (by decide) ?_
    rw [hQ]
    exact A_ireturn hg (by decide) (by decide) rfl dX10_letterOf_11 ⟨rfl, Or.inr ((⟨rfl, (fun k h e => nI_pos (show k < 2 ^ 31 by omega) (e ▸ c1)), rfl⟩))⟩
  · skip
    obtain ⟨k, hk31, hxe⟩ := nI_of c1
    subst hxe
    refine A_iload_n hg dX10_letterOf_4 rfl rfl ?_
    refine A_bipush (v := (nI (8))) hg dX10_letterOf_5 (by decide) ?_
    refine A_icmp_ltN (tgt := 12) hg dX10_letterOf_7 (by omega) (by decide) (by decide) (fun c7 => ?_) (fun c7 => ?_)
    · skip
      refine A_lload_n hg dX10_letterOf_12 rfl rfl ?_
      refine A_iload_n hg dX10_letterOf_13 rfl rfl ?_
      refine A_iconst (v := (nI (5))) hg dX10_letterOf_14 (by decide) ?_
      refine A_imulN hg dX10_letterOf_15 ?_
      refine A_lushrP hg dX10_letterOf_16 (Nat.lt_of_lt_of_le hnm (by decide)) (by omega) ?_
      refine A_l2iP hg dX10_letterOf_17 ?_
      refine A_bipush (v := (nI (31))) hg dX10_letterOf_18 (by decide) ?_
      refine A_iand hg dX10_letterOf_20 ?_
      refine A_top (w := .int (nI (x_le nm k))) (congrArg Value.int (q_and31 _)) ?_
      rw [hQ]
      exact A_ireturn hg (by decide) (by decide) rfl dX10_letterOf_21 ⟨rfl, Or.inl (⟨k, rfl, (by first | rfl | assumption | omega), c7, rfl⟩)⟩
    · skip
      refine A_iconst (v := (nI (0))) hg dX10_letterOf_10 (by decide) ?_
      rw [hQ]
      exact A_ireturn hg (by decide) (by decide) rfl dX10_letterOf_11 ⟨rfl, Or.inr ((⟨rfl, (fun i h e => by have := q_nI_inj hk31 (by omega) e; omega), rfl⟩))⟩
set_option maxRecDepth 100000 in
set_option maxHeartbeats 4000000 in
theorem c_X5_clear (G : GL) (ex : Bool) (n : Nat) (σ : Nat → va_E) (x : Int32) (hc0 : σ 23 = o5 G (23) (x)) (hn9 : 24 < n) : Ct G yX5_clear cX5_clear 1 none ⟨0, 0, 0, 0⟩ [.ref (q_h G + 23)] ex n σ (fun v9 σ2 => v9 = none ∧ σ2 23 = o5 G (23) (nI (([] : List Nat).length)) ∧ (∀ i : Nat, i ≠ 23 → σ2 i = σ i)) := by
  refine q_enter [some (.ref (q_h G + 23))] (by decide) (Nat.le_of_ble_eq_true rfl) rfl ?_
  intro K hg
  obtain ⟨Q, hQ⟩ : ∃ Q, Q = q_Q G K ex n 0 0 (fun v9 n' σ' => n' = n ∧ (fun v9 σ2 => v9 = none ∧ σ2 23 = o5 G (23) (nI (([] : List Nat).length)) ∧ (∀ i : Nat, i ≠ 23 → σ2 i = σ i)) v9 σ') q_noX := ⟨_, rfl⟩
  refine (?_ : AJ G K (q_Q G K ex n 0 0 _ _) 0 0 ex n 0 _ _ σ)
  rw [← hQ]
  refine A_aload_n hg dX5_clear_0 rfl rfl ?_
  refine A_iconst (v := (nI (0))) hg dX5_clear_1 (by decide) ?_
  refine A_putf hg fl_RX5_15 dX5_clear_2 hc0 (by omega) (Nat.le_of_ble_eq_true rfl) rfl rfl rfl (fun σ_1 hc_2 hf_3 => ?_)
  have hc_2 : σ_1 23 = o5 G (23) (nI (0)) := hc_2
  rw [hQ]
  exact A_return hg (by decide) (by decide) rfl dX5_clear_5 ⟨rfl, ⟨rfl, hc_2, (fun i hi => (hf_3 i (by omega)))⟩⟩
set_option maxRecDepth 100000 in
set_option maxHeartbeats 4000000 in
theorem c_X5_put (G : GL) (ex : Bool) (n : Nat) (σ : Nat → va_E) (L : List Nat) (o : Nat → Nat) (x : Nat) (hc0 : σ 23 = o5 G (23) (nI (L.length))) (hc1 : σ 24 = q_an G 256 o) (hn9 : 24 < n) (hO : ∀ j : Nat, j < L.length → o j = L.getD j 0) (hl : L.length < 256) : Ct G yX5_put cX5_put 2 none ⟨0, 0, 0, 0⟩ [.ref (q_h G + 23), .int (nI (x))] ex n σ (fun v9 σ2 => v9 = none ∧ ∃ (L' : List Nat), ∃ (o' : Nat → Nat), (L' = L ++ [x]) ∧ (L'.length ≤ L.length + 1) ∧ (∀ j : Nat, j < L'.length → o' j = L'.getD j 0) ∧ σ2 23 = o5 G (23) (nI (L'.length)) ∧ σ2 24 = q_an G 256 o' ∧ (∀ i : Nat, i ≠ 23 ∧ i ≠ 24 → σ2 i = σ i)) := by
  refine q_enter [some (.ref (q_h G + 23)), some (.int (nI (x)))] (by decide) (Nat.le_of_ble_eq_true rfl) rfl ?_
  intro K hg
  obtain ⟨Q, hQ⟩ : ∃ Q, Q = q_Q G K ex n 0 0 (fun v9 n' σ' => n' = n ∧ (fun v9 σ2 => v9 = none ∧ ∃ (L' : List Nat), ∃ (o' : Nat → Nat), (L' = L ++ [x]) ∧ (L'.length ≤ L.length + 1) ∧ (∀ j : Nat, j < L'.length → o' j = L'.getD j 0) ∧ σ2 23 = o5 G (23) (nI (L'.length)) ∧ σ2 24 = q_an G 256 o' ∧ (∀ i : Nat, i ≠ 23 ∧ i ≠ 24 → σ2 i = σ i)) v9 σ') q_noX := ⟨_, rfl⟩
  refine (?_ : AJ G K (q_Q G K ex n 0 0 _ _) 0 0 ex n 0 _ _ σ)
  rw [← hQ]
  refine A_aload_n hg dX5_put_0 rfl rfl ?_
  refine A_getf (v := .int (nI (L.length))) hg fl_RX5_15 dX5_put_1 hc0 (by omega) rfl ?_
  refine A_sipush (v := (nI (256))) hg dX5_put_4 (by decide) ?_
  refine A_icmp_geN (tgt := 30) hg dX5_put_7 (by omega) (by decide) (by decide) (fun c7 => absurd hl (by omega)) (fun c7 => ?_)
  refine A_aload_n hg dX5_put_10 rfl rfl ?_
  refine A_getf (v := .ref (q_h G + 24)) hg fl_RX5_9 dX5_put_11 hc0 (by omega) rfl ?_
  refine A_aload_n hg dX5_put_14 rfl rfl ?_
  refine A_getf (v := .int (nI (L.length))) hg fl_RX5_15 dX5_put_15 hc0 (by omega) rfl ?_
  refine A_iload_n hg dX5_put_18 rfl rfl ?_
  refine A_iast (j := L.length) (x := x) hg dX5_put_19 hc1 (by omega) (by omega) (by decide) (fun σ_1 hc_2 hf_3 => ?_)
  have hc_4 : σ_1 23 = o5 G (23) (nI (L.length)) := (hf_3 _ (by omega)).trans hc0
  refine A_aload_n hg dX5_put_20 rfl rfl ?_
  refine A_dup hg dX5_put_21 rfl ?_
  refine A_getf (v := .int (nI (L.length))) hg fl_RX5_15 dX5_put_22 hc_4 (by omega) rfl ?_
  refine A_iconst (v := (nI (1))) hg dX5_put_25 (by decide) ?_
  refine A_iaddN hg dX5_put_26 ?_
  refine A_putf hg fl_RX5_15 dX5_put_27 hc_4 (by omega) (Nat.le_of_ble_eq_true rfl) rfl rfl rfl (fun σ_5 hc_6 hf_7 => ?_)
  have hc_6 : σ_5 23 = o5 G (23) (nI (L.length + 1)) := hc_6
  have hc_8 : σ_5 24 = q_an G 256 (va_up o L.length x) := (hf_7 _ (by omega)).trans hc_2
  have hz : σ_5 23 = o5 G 23 (nI (L ++ [x]).length) := by rw [List.length_append]; exact hc_6
  rw [hQ]
  exact A_return hg (by decide) (by decide) rfl dX5_put_30 ⟨rfl, ⟨rfl, (L ++ [x]), (va_up o L.length x), rfl, (by rw [List.length_append]; exact Nat.le_refl _), (q_snoc hO), hz, hc_8, (fun i hi => ((hf_7 i (by omega)).trans (hf_3 i (by omega))))⟩⟩
set_option maxRecDepth 100000 in
set_option maxHeartbeats 4000000 in
theorem c_X5_putWord (G : GL) (ex : Bool) (n : Nat) (σ : Nat → va_E) (L : List Nat) (o : Nat → Nat) (a : Nat) (bs : List Nat) (hc0 : σ 23 = o5 G (23) (nI (L.length))) (hc1 : σ 24 = q_an G 256 o) (hn9 : 24 < n) (hO : ∀ j : Nat, j < L.length → o j = L.getD j 0) (hs : q_st G a bs) (hl : L.length + bs.length ≤ 256) : Ct G yX5_putWord cX5_putWord 3 none ⟨4, 0, 0, 85⟩ [.ref (q_h G + 23), .ref (a)] ex n σ (fun v9 σ2 => v9 = none ∧ ∃ (L' : List Nat), ∃ (o' : Nat → Nat), (L' = L ++ bs) ∧ (L'.length ≤ L.length + bs.length) ∧ (∀ j : Nat, j < L'.length → o' j = L'.getD j 0) ∧ σ2 23 = o5 G (23) (nI (L'.length)) ∧ σ2 24 = q_an G 256 o' ∧ (∀ i : Nat, i ≠ 23 ∧ i ≠ 24 → σ2 i = σ i)) := by
  refine q_enter [some (.ref (q_h G + 23)), some (.ref (a)), none] (by decide) (Nat.le_of_ble_eq_true rfl) rfl ?_
  intro K hg
  obtain ⟨Q, hQ⟩ : ∃ Q, Q = q_Q G K ex n 0 0 (fun v9 n' σ' => n' = n ∧ (fun v9 σ2 => v9 = none ∧ ∃ (L' : List Nat), ∃ (o' : Nat → Nat), (L' = L ++ bs) ∧ (L'.length ≤ L.length + bs.length) ∧ (∀ j : Nat, j < L'.length → o' j = L'.getD j 0) ∧ σ2 23 = o5 G (23) (nI (L'.length)) ∧ σ2 24 = q_an G 256 o' ∧ (∀ i : Nat, i ≠ 23 ∧ i ≠ 24 → σ2 i = σ i)) v9 σ') q_noX := ⟨_, rfl⟩
  refine (?_ : AJ G K (q_Q G K ex n 0 0 _ _) 0 0 ex n 0 _ _ σ)
  rw [← hQ]
  have hbs := hs.2.1
  refine A_iconst (v := (nI (0))) hg dX5_putWord_0 (by decide) ?_
  refine A_istore_n hg dX5_putWord_1 rfl (by decide) (q_c1d rfl) ?_
  refine A_eq (ls2 := [some (.ref (q_h G + 23)), some (.ref (a)), some (.int (nI (0)))]) (st2 := []) (pc2 := 0) rfl rfl ?_
  have hL2 : ∀ (fu : Nat) (k : Nat) (L1 : List Nat) (o1 : Nat → Nat) (σ_1 : Nat → va_E), (σ_1 23 = o5 G (23) (nI (L1.length))) → (σ_1 24 = q_an G 256 o1) → (∀ i : Nat, i ≠ 23 ∧ i ≠ 24 → σ_1 i = σ i) → (k ≤ bs.length) → (L1 = L ++ s_wdk bs k) → (∀ j : Nat, j < L1.length → o1 j = L1.getD j 0) → (bs.length - k) < fu → AJ G K Q 0 0 ex n 2 [some (.ref (q_h G + 23)), some (.ref (a)), some (.int (nI (k)))] [] σ_1 := by
    intro fu
    induction fu with
    | zero => intro k L1 o1 σ_1 hc_2 hc_3 hf_4 hk hL1 hO1 hm; exact absurd hm (Nat.not_lt_zero _)
    | succ fu ih2 =>
      intro k L1 o1 σ_1 hc_2 hc_3 hf_4 hk hL1 hO1 hm2
      have hln : L1.length = L.length + k := by rw [hL1, List.length_append, s_wdk_len]
      refine A_iload_n hg dX5_putWord_2 rfl rfl ?_
      refine A_aload_n hg dX5_putWord_3 rfl rfl ?_
      refine A_eVO (kc2 := 0) (ks2 := 0) (As := []) (rest := [.int (nI (k))]) hg lk_RX5_19 in_J0_length_8abf5 se_J0_length_8abf5 dX5_putWord_4 ⟨by decide, by decide⟩ rfl rfl ⟨by decide, by decide⟩ (q_st_O hs) rfl rfl (Nat.le_of_ble_eq_true rfl) (c_J0_length G ex n σ_1 a bs hs) ?_
      refine A_icmp_geN (tgt := 25) hg dX5_putWord_7 (by omega) (by omega) (by decide) (fun c7 => ?_) (fun c7 => ?_)
      · skip
        have hk1 : k = bs.length := by omega
        rw [hQ]
        exact A_return hg (by decide) (by decide) rfl dX5_putWord_25 ⟨rfl, ⟨rfl, L1, o1, (by rw [hL1, hk1, s_wdk_all]), (by omega), hO1, hc_2, hc_3, (fun i hi => (hf_4 i (by omega)))⟩⟩
      · skip
        refine A_aload_n hg dX5_putWord_10 rfl rfl ?_
        refine A_aload_n hg dX5_putWord_11 rfl rfl ?_
        refine A_iload_n hg dX5_putWord_12 rfl rfl ?_
        refine A_eVO (kc2 := 0) (ks2 := 0) (As := [.int (nI (k))]) (rest := [.ref (q_h G + 23)]) hg lk_RX5_24 in_J0_charAt_5068e se_J0_charAt_5068e dX5_putWord_13 ⟨by decide, by decide⟩ rfl rfl ⟨by decide, by decide⟩ (q_st_O hs) rfl rfl (Nat.le_of_ble_eq_true rfl) (c_J0_charAt G ex n σ_1 a bs k hs (by omega)) ?_
        refine A_vV (kc2 := 0) (ks2 := 0) (As := [.int (nI (bs.getD k 0))]) (rest := []) hg lk_RX5_28 in_X5_put se_X5_put rfl dX5_putWord_16 ⟨by decide, by decide⟩ rfl rfl ⟨by decide, by decide⟩ hc_2 (by omega) rfl rfl (Nat.le_of_ble_eq_true rfl) (c_X5_put G ex n σ_1 L1 o1 (bs.getD k 0) hc_2 hc_3 (by omega) (by assumption) (by omega)) ?_
        rintro σ_8 ⟨L16, o16, hL16, hlen16, hO16, hc_5, hc_6, hf_7⟩
        refine A_iincN (k' := 1) hg dX5_putWord_19 (by decide) rfl (by decide) (q_c1d rfl) ?_
        refine A_eq (ls2 := [some (.ref (q_h G + 23)), some (.ref (a)), some (.int (nI (k + 1)))]) (st2 := []) (pc2 := 0) rfl rfl ?_
        refine A_goto (tgt := 2) hg dX5_putWord_22 (by decide) ?_
        exact ih2 (k + 1) L16 o16 σ_8 hc_5 hc_6 (fun i hi => ((hf_7 i (by omega)).trans (hf_4 i (by omega)))) (by omega) (by rw [hL16, hL1, List.append_assoc]; rfl) hO16 (by omega)
  exact hL2 _ 0 L o σ hc0 hc1 (fun _ _ => rfl) (Nat.zero_le _) ((List.append_nil L).symm) hO (Nat.lt_succ_self _)
set_option maxRecDepth 100000 in
set_option maxHeartbeats 4000000 in
theorem c_X5_putName (G : GL) (ex : Bool) (n : Nat) (σ : Nat → va_E) (L : List Nat) (o : Nat → Nat) (u : Nat → Nat) (nm : Nat) (hc0 : σ 23 = o5 G (23) (nI (L.length))) (hc1 : σ 24 = q_an G 256 o) (hn9 : 24 < n) (hO : ∀ j : Nat, j < L.length → o j = L.getD j 0) (hnr : x_nmr u nm) (hl : L.length + 8 ≤ 256) : Ct G yX5_putName cX5_putName 4 none ⟨1, 0, 0, 22⟩ [.ref (q_h G + 23), .long (lN (nm))] ex n σ (fun v9 σ2 => v9 = none ∧ ∃ (L' : List Nat), ∃ (o' : Nat → Nat), (L' = L ++ s_nml u) ∧ (L'.length ≤ L.length + u 0) ∧ (∀ j : Nat, j < L'.length → o' j = L'.getD j 0) ∧ σ2 23 = o5 G (23) (nI (L'.length)) ∧ σ2 24 = q_an G 256 o' ∧ (∀ i : Nat, i ≠ 23 ∧ i ≠ 24 → σ2 i = σ i)) := by
  refine q_enter [some (.ref (q_h G + 23)), some (.long (lN (nm))), none, none] (by decide) (Nat.le_of_ble_eq_true rfl) rfl ?_
  intro K hg
  obtain ⟨Q, hQ⟩ : ∃ Q, Q = q_Q G K ex n 0 0 (fun v9 n' σ' => n' = n ∧ (fun v9 σ2 => v9 = none ∧ ∃ (L' : List Nat), ∃ (o' : Nat → Nat), (L' = L ++ s_nml u) ∧ (L'.length ≤ L.length + u 0) ∧ (∀ j : Nat, j < L'.length → o' j = L'.getD j 0) ∧ σ2 23 = o5 G (23) (nI (L'.length)) ∧ σ2 24 = q_an G 256 o' ∧ (∀ i : Nat, i ≠ 23 ∧ i ≠ 24 → σ2 i = σ i)) v9 σ') q_noX := ⟨_, rfl⟩
  refine (?_ : AJ G K (q_Q G K ex n 0 0 _ _) 0 0 ex n 0 _ _ σ)
  rw [← hQ]
  have hnm := x_nmr_lt hnr
  have h08 := hnr.1.1
  refine A_iconst (v := (nI (0))) hg dX5_putName_0 (by decide) ?_
  refine A_istore_n hg dX5_putName_1 rfl (by decide) (q_c1d rfl) ?_
  refine A_eq (ls2 := [some (.ref (q_h G + 23)), some (.long (lN (nm))), none, some (.int (nI (0)))]) (st2 := []) (pc2 := 0) rfl rfl ?_
  have hL2 : ∀ (fu : Nat) (k : Nat) (L1 : List Nat) (o1 : Nat → Nat) (σ_1 : Nat → va_E), (σ_1 23 = o5 G (23) (nI (L1.length))) → (σ_1 24 = q_an G 256 o1) → (∀ i : Nat, i ≠ 23 ∧ i ≠ 24 → σ_1 i = σ i) → (k ≤ u 0) → (L1 = L ++ s_nmk u k) → (∀ j : Nat, j < L1.length → o1 j = L1.getD j 0) → (u 0 - k) < fu → AJ G K Q 0 0 ex n 2 [some (.ref (q_h G + 23)), some (.long (lN (nm))), none, some (.int (nI (k)))] [] σ_1 := by
    intro fu
    induction fu with
    | zero => intro k L1 o1 σ_1 hc_2 hc_3 hf_4 hk hL1 hO1 hm; exact absurd hm (Nat.not_lt_zero _)
    | succ fu ih2 =>
      intro k L1 o1 σ_1 hc_2 hc_3 hf_4 hk hL1 hO1 hm2
      have hln : L1.length = L.length + k := by rw [hL1, List.length_append, s_nmk_len]
      refine A_iload_n hg dX5_putName_2 rfl rfl ?_
      refine A_bipush (v := (nI (8))) hg dX5_putName_3 (by decide) ?_
      refine A_icmp_geN (tgt := 36) hg dX5_putName_5 (by omega) (by decide) (by decide) (fun c5 => ?_) (fun c5 => ?_)
      · skip
        have hk1 : k = u 0 := by
          by_cases z : k < u 0
          · have hle := x_nmr_le (k := k) hnr
            have hq := hnr.1.2 k z
            rw [if_pos z] at hle
            omega
          · omega
        rw [hQ]
        exact A_return hg (by decide) (by decide) rfl dX5_putName_36 ⟨rfl, ⟨rfl, L1, o1, (by rw [hL1, hk1]; rfl), (by omega), hO1, hc_2, hc_3, (fun i hi => (hf_4 i (by omega)))⟩⟩
      · skip
        have hle := x_nmr_le (k := k) hnr
        refine A_lload_n hg dX5_putName_8 rfl rfl ?_
        refine A_iload_n hg dX5_putName_9 rfl rfl ?_
        refine A_eS (kc2 := 0) (ks2 := 0) (As := [.long (lN (nm)), .int (nI (k))]) (rest := []) hg lk_RX5_32 st_X10_letterOf dX5_putName_10 ⟨by decide, by decide⟩ rfl rfl ⟨by decide, by decide⟩ rfl rfl (Nat.le_of_ble_eq_true rfl) (c_X10_letterOf G ex n σ_1 nm k hnm (by omega)) ?_
        have hl32 : x_le nm k < 2 ^ 31 := Nat.lt_of_lt_of_le (Nat.mod_lt _ (by decide)) (by decide)
        refine A_if_eqN (tgt := 36) hg dX5_putName_13 (by omega) (by decide) (fun c13 => ?_) (fun c13 => ?_)
        · skip
          have hk1 : k = u 0 := by
            by_cases z : k < u 0
            · have hle := x_nmr_le (k := k) hnr
              have hq := hnr.1.2 k z
              rw [if_pos z] at hle
              omega
            · omega
          rw [hQ]
          exact A_return hg (by decide) (by decide) rfl dX5_putName_36 ⟨rfl, ⟨rfl, L1, o1, (by rw [hL1, hk1]; rfl), (by omega), hO1, hc_2, hc_3, (fun i hi => (hf_4 i (by omega)))⟩⟩
        · skip
          have hku : k < u 0 := by
            by_cases z : k < u 0
            · exact z
            · rw [if_neg z] at hle; exact absurd hle c13
          refine A_aload_n hg dX5_putName_16 rfl rfl ?_
          refine A_bipush (v := (nI (97))) hg dX5_putName_17 (by decide) ?_
          refine A_lload_n hg dX5_putName_19 rfl rfl ?_
          refine A_iload_n hg dX5_putName_20 rfl rfl ?_
          refine A_eS (kc2 := 0) (ks2 := 0) (As := [.long (lN (nm)), .int (nI (k))]) (rest := [.int (nI (97)), .ref (q_h G + 23)]) hg lk_RX5_32 st_X10_letterOf dX5_putName_21 ⟨by decide, by decide⟩ rfl rfl ⟨by decide, by decide⟩ rfl rfl (Nat.le_of_ble_eq_true rfl) (c_X10_letterOf G ex n σ_1 nm k hnm (by omega)) ?_
          refine A_iaddN hg dX5_putName_24 ?_
          refine A_iconst (v := (nI (1))) hg dX5_putName_25 (by decide) ?_
          refine A_isubN hg dX5_putName_26 (by omega) ?_
          refine A_vV (kc2 := 0) (ks2 := 0) (As := [.int (nI ((97 + (x_le nm k)) - 1))]) (rest := []) hg lk_RX5_28 in_X5_put se_X5_put rfl dX5_putName_27 ⟨by decide, by decide⟩ rfl rfl ⟨by decide, by decide⟩ hc_2 (by omega) rfl rfl (Nat.le_of_ble_eq_true rfl) (c_X5_put G ex n σ_1 L1 o1 ((97 + (x_le nm k)) - 1) hc_2 hc_3 (by omega) (by assumption) (by omega)) ?_
          rintro σ_8 ⟨L27, o27, hL27, hlen27, hO27, hc_5, hc_6, hf_7⟩
          refine A_iincN (k' := 1) hg dX5_putName_30 (by decide) rfl (by decide) (q_c1d rfl) ?_
          refine A_eq (ls2 := [some (.ref (q_h G + 23)), some (.long (lN (nm))), none, some (.int (nI (k + 1)))]) (st2 := []) (pc2 := 0) rfl rfl ?_
          refine A_goto (tgt := 2) hg dX5_putName_33 (by decide) ?_
          exact ih2 (k + 1) L27 o27 σ_8 hc_5 hc_6 (fun i hi => ((hf_7 i (by omega)).trans (hf_4 i (by omega)))) (by omega) (by rw [hL27, hL1, List.append_assoc, hle, if_pos hku]; rfl) hO27 (by omega)
  exact hL2 _ 0 L o σ hc0 hc1 (fun _ _ => rfl) (Nat.zero_le _) ((List.append_nil L).symm) hO (Nat.lt_succ_self _)
set_option maxRecDepth 100000 in
set_option maxHeartbeats 4000000 in
theorem c_X5_putNumber (G : GL) (ex : Bool) (n : Nat) (σ : Nat → va_E) (L : List Nat) (o : Nat → Nat) (x : Nat) (hc0 : σ 23 = o5 G (23) (nI (L.length))) (hc1 : σ 24 = q_an G 256 o) (hn9 : 24 < n) (hO : ∀ j : Nat, j < L.length → o j = L.getD j 0) (hx : x < 100) (hl : L.length + 2 ≤ 256) : Ct G yX5_putNumber cX5_putNumber 2 none ⟨1, 0, 0, 21⟩ [.ref (q_h G + 23), .int (nI (x))] ex n σ (fun v9 σ2 => v9 = none ∧ ∃ (L' : List Nat), ∃ (o' : Nat → Nat), (L' = L ++ s_dg x) ∧ (L'.length ≤ L.length + 2) ∧ (∀ j : Nat, j < L'.length → o' j = L'.getD j 0) ∧ σ2 23 = o5 G (23) (nI (L'.length)) ∧ σ2 24 = q_an G 256 o' ∧ (∀ i : Nat, i ≠ 23 ∧ i ≠ 24 → σ2 i = σ i)) := by
  refine q_enter [some (.ref (q_h G + 23)), some (.int (nI (x)))] (by decide) (Nat.le_of_ble_eq_true rfl) rfl ?_
  intro K hg
  obtain ⟨Q, hQ⟩ : ∃ Q, Q = q_Q G K ex n 0 0 (fun v9 n' σ' => n' = n ∧ (fun v9 σ2 => v9 = none ∧ ∃ (L' : List Nat), ∃ (o' : Nat → Nat), (L' = L ++ s_dg x) ∧ (L'.length ≤ L.length + 2) ∧ (∀ j : Nat, j < L'.length → o' j = L'.getD j 0) ∧ σ2 23 = o5 G (23) (nI (L'.length)) ∧ σ2 24 = q_an G 256 o' ∧ (∀ i : Nat, i ≠ 23 ∧ i ≠ 24 → σ2 i = σ i)) v9 σ') q_noX := ⟨_, rfl⟩
  refine (?_ : AJ G K (q_Q G K ex n 0 0 _ _) 0 0 ex n 0 _ _ σ)
  rw [← hQ]
  refine A_iload_n hg dX5_putNumber_0 rfl rfl ?_
  refine A_bipush (v := (nI (10))) hg dX5_putNumber_1 (by decide) ?_
  refine A_icmp_ltN (tgt := 17) hg dX5_putNumber_3 (by omega) (by decide) (by decide) (fun c3 => ?_) (fun c3 => ?_)
  · skip
    refine A_aload_n hg dX5_putNumber_17 rfl rfl ?_
    refine A_bipush (v := (nI (48))) hg dX5_putNumber_18 (by decide) ?_
    refine A_iload_n hg dX5_putNumber_20 rfl rfl ?_
    refine A_bipush (v := (nI (10))) hg dX5_putNumber_21 (by decide) ?_
    refine A_iremN hg dX5_putNumber_23 (by omega) (by decide) (by decide) ?_
    refine A_iaddN hg dX5_putNumber_24 ?_
    refine A_vV (kc2 := 0) (ks2 := 0) (As := [.int (nI (48 + (x % 10)))]) (rest := []) hg lk_RX5_28 in_X5_put se_X5_put rfl dX5_putNumber_25 ⟨by decide, by decide⟩ rfl rfl ⟨by decide, by decide⟩ hc0 (by omega) rfl rfl (Nat.le_of_ble_eq_true rfl) (c_X5_put G ex n σ L o (48 + (x % 10)) hc0 hc1 (by omega) (by assumption) (by omega)) ?_
    rintro σ_4 ⟨L25, o25, hL25, hlen25, hO25, hc_1, hc_2, hf_3⟩
    rw [hQ]
    exact A_return hg (by decide) (by decide) rfl dX5_putNumber_28 ⟨rfl, ⟨rfl, L25, o25, (by rw [hL25]; unfold s_dg; first | (rw [if_pos (by omega), List.append_assoc]; rfl) | rw [if_neg (by omega)]), (by omega), (by assumption), hc_1, hc_2, (fun i hi => (hf_3 i (by omega)))⟩⟩
  · skip
    refine A_aload_n hg dX5_putNumber_6 rfl rfl ?_
    refine A_bipush (v := (nI (48))) hg dX5_putNumber_7 (by decide) ?_
    refine A_iload_n hg dX5_putNumber_9 rfl rfl ?_
    refine A_bipush (v := (nI (10))) hg dX5_putNumber_10 (by decide) ?_
    refine A_idivN hg dX5_putNumber_12 (by omega) (by decide) (by decide) ?_
    refine A_iaddN hg dX5_putNumber_13 ?_
    refine A_vV (kc2 := 0) (ks2 := 0) (As := [.int (nI (48 + (x / 10)))]) (rest := []) hg lk_RX5_28 in_X5_put se_X5_put rfl dX5_putNumber_14 ⟨by decide, by decide⟩ rfl rfl ⟨by decide, by decide⟩ hc0 (by omega) rfl rfl (Nat.le_of_ble_eq_true rfl) (c_X5_put G ex n σ L o (48 + (x / 10)) hc0 hc1 (by omega) (by assumption) (by omega)) ?_
    rintro σ_8 ⟨L14, o14, hL14, hlen14, hO14, hc_5, hc_6, hf_7⟩
    refine A_aload_n hg dX5_putNumber_17 rfl rfl ?_
    refine A_bipush (v := (nI (48))) hg dX5_putNumber_18 (by decide) ?_
    refine A_iload_n hg dX5_putNumber_20 rfl rfl ?_
    refine A_bipush (v := (nI (10))) hg dX5_putNumber_21 (by decide) ?_
    refine A_iremN hg dX5_putNumber_23 (by omega) (by decide) (by decide) ?_
    refine A_iaddN hg dX5_putNumber_24 ?_
    refine A_vV (kc2 := 0) (ks2 := 0) (As := [.int (nI (48 + (x % 10)))]) (rest := []) hg lk_RX5_28 in_X5_put se_X5_put rfl dX5_putNumber_25 ⟨by decide, by decide⟩ rfl rfl ⟨by decide, by decide⟩ hc_5 (by omega) rfl rfl (Nat.le_of_ble_eq_true rfl) (c_X5_put G ex n σ_8 L14 o14 (48 + (x % 10)) hc_5 hc_6 (by omega) (by assumption) (by omega)) ?_
    rintro σ_12 ⟨L25, o25, hL25, hlen25, hO25, hc_9, hc_10, hf_11⟩
    rw [hQ]
    exact A_return hg (by decide) (by decide) rfl dX5_putNumber_28 ⟨rfl, ⟨rfl, L25, o25, (by rw [hL25, hL14]; unfold s_dg; first | (rw [if_pos (by omega), List.append_assoc]; rfl) | rw [if_neg (by omega)]), (by omega), (by assumption), hc_9, hc_10, (fun i hi => ((hf_11 i (by omega)).trans (hf_7 i (by omega))))⟩⟩
set_option maxRecDepth 100000 in
set_option maxHeartbeats 4000000 in
theorem c_X5_putSpaced (G : GL) (ex : Bool) (n : Nat) (σ : Nat → va_E) (L : List Nat) (o : Nat → Nat) (x : Nat) (hc0 : σ 23 = o5 G (23) (nI (L.length))) (hc1 : σ 24 = q_an G 256 o) (hn9 : 24 < n) (hO : ∀ j : Nat, j < L.length → o j = L.getD j 0) (hx : x < 100) (hl : L.length + 3 ≤ 256) : Ct G yX5_putSpaced cX5_putSpaced 2 none ⟨2, 0, 0, 42⟩ [.ref (q_h G + 23), .int (nI (x))] ex n σ (fun v9 σ2 => v9 = none ∧ ∃ (L' : List Nat), ∃ (o' : Nat → Nat), (L' = L ++ ([32] ++ s_dg x)) ∧ (L'.length ≤ L.length + 3) ∧ (∀ j : Nat, j < L'.length → o' j = L'.getD j 0) ∧ σ2 23 = o5 G (23) (nI (L'.length)) ∧ σ2 24 = q_an G 256 o' ∧ (∀ i : Nat, i ≠ 23 ∧ i ≠ 24 → σ2 i = σ i)) := by
  refine q_enter [some (.ref (q_h G + 23)), some (.int (nI (x)))] (by decide) (Nat.le_of_ble_eq_true rfl) rfl ?_
  intro K hg
  obtain ⟨Q, hQ⟩ : ∃ Q, Q = q_Q G K ex n 0 0 (fun v9 n' σ' => n' = n ∧ (fun v9 σ2 => v9 = none ∧ ∃ (L' : List Nat), ∃ (o' : Nat → Nat), (L' = L ++ ([32] ++ s_dg x)) ∧ (L'.length ≤ L.length + 3) ∧ (∀ j : Nat, j < L'.length → o' j = L'.getD j 0) ∧ σ2 23 = o5 G (23) (nI (L'.length)) ∧ σ2 24 = q_an G 256 o' ∧ (∀ i : Nat, i ≠ 23 ∧ i ≠ 24 → σ2 i = σ i)) v9 σ') q_noX := ⟨_, rfl⟩
  refine (?_ : AJ G K (q_Q G K ex n 0 0 _ _) 0 0 ex n 0 _ _ σ)
  rw [← hQ]
  refine A_aload_n hg dX5_putSpaced_0 rfl rfl ?_
  refine A_bipush (v := (nI (32))) hg dX5_putSpaced_1 (by decide) ?_
  refine A_vV (kc2 := 0) (ks2 := 0) (As := [.int (nI (32))]) (rest := []) hg lk_RX5_28 in_X5_put se_X5_put rfl dX5_putSpaced_3 ⟨by decide, by decide⟩ rfl rfl ⟨by decide, by decide⟩ hc0 (by omega) rfl rfl (Nat.le_of_ble_eq_true rfl) (c_X5_put G ex n σ L o 32 hc0 hc1 (by omega) (by assumption) (by omega)) ?_
  rintro σ_4 ⟨L3, o3, hL3, hlen3, hO3, hc_1, hc_2, hf_3⟩
  refine A_aload_n hg dX5_putSpaced_6 rfl rfl ?_
  refine A_iload_n hg dX5_putSpaced_7 rfl rfl ?_
  refine A_vV (kc2 := 0) (ks2 := 0) (As := [.int (nI (x))]) (rest := []) hg lk_RX5_36 in_X5_putNumber se_X5_putNumber rfl dX5_putSpaced_8 ⟨by decide, by decide⟩ rfl rfl ⟨by decide, by decide⟩ hc_1 (by omega) rfl rfl (Nat.le_of_ble_eq_true rfl) (c_X5_putNumber G ex n σ_4 L3 o3 x hc_1 hc_2 (by omega) (by assumption) (by omega) (by omega)) ?_
  rintro σ_8 ⟨L8, o8, hL8, hlen8, hO8, hc_5, hc_6, hf_7⟩
  rw [hQ]
  exact A_return hg (by decide) (by decide) rfl dX5_putSpaced_11 ⟨rfl, ⟨rfl, L8, o8, (by rw [hL8, hL3]; exact List.append_assoc _ _ _), (by omega), (by assumption), hc_5, hc_6, (fun i hi => ((hf_7 i (by omega)).trans (hf_3 i (by omega))))⟩⟩
set_option maxRecDepth 100000 in
set_option maxHeartbeats 4000000 in
theorem c_X5_byteAt (G : GL) (ex : Bool) (n : Nat) (σ : Nat → va_E) (m : Nat) (o : Nat → Nat) (x : Int32) (hc0 : σ 23 = o5 G (23) (nI (m))) (hc1 : σ 24 = q_an G 256 o) (hn9 : 24 < n) (hm : m ≤ 256) : Ct G yX5_byteAt cX5_byteAt 2 (some .int) ⟨0, 0, 0, 0⟩ [.ref (q_h G + 23), .int (x)] ex n σ (fun v9 σ2 => (∃ (j : Nat), v9 = some (.int (nI (o j))) ∧ (x = nI j) ∧ (j < m) ∧ σ2 = σ) ∨ (v9 = some (.int (q_d (0))) ∧ (∀ j : Nat, j < m → x = nI j → False) ∧ σ2 = σ)) := by
  refine q_enter [some (.ref (q_h G + 23)), some (.int (x))] (by decide) (Nat.le_of_ble_eq_true rfl) rfl ?_
  intro K hg
  obtain ⟨Q, hQ⟩ : ∃ Q, Q = q_Q G K ex n 0 0 (fun v9 n' σ' => n' = n ∧ (fun v9 σ2 => (∃ (j : Nat), v9 = some (.int (nI (o j))) ∧ (x = nI j) ∧ (j < m) ∧ σ2 = σ) ∨ (v9 = some (.int (q_d (0))) ∧ (∀ j : Nat, j < m → x = nI j → False) ∧ σ2 = σ)) v9 σ') q_noX := ⟨_, rfl⟩
  refine (?_ : AJ G K (q_Q G K ex n 0 0 _ _) 0 0 ex n 0 _ _ σ)
  rw [← hQ]
  refine A_iload_n hg dX5_byteAt_0 rfl rfl ?_
  refine A_if_lt (tgt := 28) hg dX5_byteAt_1 (by decide) (fun c1 => ?_) (fun c1 => ?_)
  · skip
    refine A_iconst (v := (q_d (0))) hg dX5_byteAt_28 (by decide) ?_
    rw [hQ]
    exact A_ireturn hg (by decide) (by decide) rfl dX5_byteAt_29 ⟨rfl, Or.inr ((⟨rfl, (fun i hi e => nI_pos (show i < 2 ^ 31 by omega) (e ▸ c1)), rfl⟩))⟩
  · skip
    obtain ⟨j, hj31, hxe⟩ := nI_of c1
    subst hxe
    refine A_iload_n hg dX5_byteAt_4 rfl rfl ?_
    refine A_aload_n hg dX5_byteAt_5 rfl rfl ?_
    refine A_getf (v := .int (nI (m))) hg fl_RX5_15 dX5_byteAt_6 hc0 (by omega) rfl ?_
    refine A_icmp_geN (tgt := 28) hg dX5_byteAt_9 (by omega) (by omega) (by decide) (fun c9 => ?_) (fun c9 => ?_)
    · skip
      refine A_iconst (v := (q_d (0))) hg dX5_byteAt_28 (by decide) ?_
      rw [hQ]
      exact A_ireturn hg (by decide) (by decide) rfl dX5_byteAt_29 ⟨rfl, Or.inr ((⟨rfl, (fun i hi e => by have := q_nI_inj hj31 (by omega) e; omega), rfl⟩))⟩
    · skip
      refine A_iload_n hg dX5_byteAt_12 rfl rfl ?_
      refine A_sipush (v := (nI (256))) hg dX5_byteAt_13 (by decide) ?_
      refine A_icmp_geN (tgt := 28) hg dX5_byteAt_16 (by omega) (by decide) (by decide) (fun c16 => absurd c16 (by omega)) (fun c16 => ?_)
      refine A_aload_n hg dX5_byteAt_19 rfl rfl ?_
      refine A_getf (v := .ref (q_h G + 24)) hg fl_RX5_9 dX5_byteAt_20 hc0 (by omega) rfl ?_
      refine A_iload_n hg dX5_byteAt_23 rfl rfl ?_
      refine A_iald (j := j) hg dX5_byteAt_24 hc1 (by omega) (by omega) (by decide) ?_
      refine A_goto (tgt := 29) hg dX5_byteAt_25 (by decide) ?_
      rw [hQ]
      exact A_ireturn hg (by decide) (by decide) rfl dX5_byteAt_29 ⟨rfl, Or.inl (⟨j, rfl, (by first | rfl | assumption | omega), (by omega), rfl⟩)⟩
end
