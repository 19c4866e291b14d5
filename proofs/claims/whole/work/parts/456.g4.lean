section
set_option maxRecDepth 100000 in
set_option maxHeartbeats 4000000 in
theorem c_X11_greatestOf (G : GL) (ex : Bool) (n : Nat) (σ : Nat → va_E) (v : Nat)  (hv1 : 1 ≤ v) (hv9 : v ≤ 500000000) : Ct G yX11_greatestOf cX11_greatestOf 4 (some .int) ⟨0, 0, 0, 0⟩ [.int (nI (v))] ex n σ (fun v9 σ2 => σ2 = σ ∧ v9 = some (.int (nI (s_gf v)))) := by
  refine q_enter [some (.int (nI (v))), none, none, none] (by decide) (Nat.le_of_ble_eq_true rfl) rfl ?_
  intro K hg
  obtain ⟨Q, hQ⟩ : ∃ Q, Q = q_Q G K ex n 0 0 (fun v9 n' σ' => n' = n ∧ (fun v9 σ2 => σ2 = σ ∧ v9 = some (.int (nI (s_gf v)))) v9 σ') q_noX := ⟨_, rfl⟩
  refine (?_ : AJ G K (q_Q G K ex n 0 0 _ _) 0 0 ex n 0 _ _ σ)
  rw [← hQ]
  refine A_iconst (v := (nI (1))) hg dX11_greatestOf_0 (by decide) ?_
  refine A_istore_n hg dX11_greatestOf_1 rfl (by decide) (q_c1d rfl) ?_
  refine A_eq (ls2 := [some (.int (nI (v))), some (.int (nI (1))), none, none]) (st2 := []) (pc2 := 0) rfl rfl ?_
  refine A_iconst (v := (nI (2))) hg dX11_greatestOf_2 (by decide) ?_
  refine A_istore_n hg dX11_greatestOf_3 rfl (by decide) (q_c1d rfl) ?_
  refine A_eq (ls2 := [some (.int (nI (v))), some (.int (nI (1))), some (.int (nI (2))), none]) (st2 := []) (pc2 := 0) rfl rfl ?_
  have hL4 : ∀ (fu : Nat) (k : Nat) (a : Nat) (c : Nat), (a = s_fb k) → (c = s_fb (k + 1)) → (a ≤ v) → (v + 1 - a) < fu → AJ G K Q 0 0 ex n 4 [some (.int (nI (v))), some (.int (nI (a))), some (.int (nI (c))), none] [] σ := by
    intro fu
    induction fu with
    | zero => intro k a c ha hc hav hm; exact absurd hm (Nat.not_lt_zero _)
    | succ fu ih4 =>
      intro k a c ha hc hav hm4
      have hdb := s_fb_dbl k
      have hup := s_fb_up k
      refine A_iload_n hg dX11_greatestOf_4 rfl rfl ?_
      refine A_iload_n hg dX11_greatestOf_5 rfl rfl ?_
      refine A_icmp_gtN (tgt := 20) hg dX11_greatestOf_6 (by omega) (by omega) (by decide) (fun c6 => ?_) (fun c6 => ?_)
      · skip
        refine A_iload_n hg dX11_greatestOf_20 rfl rfl ?_
        rw [hQ]
        exact A_ireturn hg (by decide) (by decide) rfl dX11_greatestOf_21 ⟨rfl, ⟨rfl, (congrArg (fun z => some (Value.int (nI z))) (show a = s_gf v from by unfold s_gf; rw [s_gi_eq (k := k) (by omega) (by omega)]; exact ha))⟩⟩
      · skip
        refine A_iload_n hg dX11_greatestOf_9 rfl rfl ?_
        refine A_iload_n hg dX11_greatestOf_10 rfl rfl ?_
        refine A_iaddN hg dX11_greatestOf_11 ?_
        refine A_istore_n hg dX11_greatestOf_12 rfl (by decide) (q_c1d rfl) ?_
        refine A_eq (ls2 := [some (.int (nI (v))), some (.int (nI (a))), some (.int (nI (c))), some (.int (nI (a + c)))]) (st2 := []) (pc2 := 0) rfl rfl ?_
        refine A_iload_n hg dX11_greatestOf_13 rfl rfl ?_
        refine A_istore_n hg dX11_greatestOf_14 rfl (by decide) (q_c1d rfl) ?_
        refine A_eq (ls2 := [some (.int (nI (v))), some (.int (nI (c))), some (.int (nI (c))), some (.int (nI (a + c)))]) (st2 := []) (pc2 := 0) rfl rfl ?_
        refine A_iload_n hg dX11_greatestOf_15 rfl rfl ?_
        refine A_istore_n hg dX11_greatestOf_16 rfl (by decide) (q_c1d rfl) ?_
        refine A_eq (ls2 := [some (.int (nI (v))), some (.int (nI (c))), some (.int (nI (a + c))), some (.int (nI (a + c)))]) (st2 := []) (pc2 := 0) rfl rfl ?_
        refine A_goto (tgt := 4) hg dX11_greatestOf_17 (by decide) ?_
        refine A_drop 3 ?_
        exact ih4 (k + 1) c (a + c) hc (by rw [ha, hc]; rfl) (by omega) (by omega)
  exact hL4 _ 0 1 2 rfl rfl hv1 (Nat.lt_succ_self _)
set_option maxRecDepth 100000 in
set_option maxHeartbeats 4000000 in
theorem c_X11_placeOf (G : GL) (ex : Bool) (n : Nat) (σ : Nat → va_E) (x : Nat) (k : Nat)  (hxk : x = s_fb k) (hx9 : x ≤ 500000000) : Ct G yX11_placeOf cX11_placeOf 5 (some .int) ⟨0, 0, 0, 0⟩ [.int (nI (x))] ex n σ (fun v9 σ2 => σ2 = σ ∧ v9 = some (.int (nI (k)))) := by
  refine q_enter [some (.int (nI (x))), none, none, none, none] (by decide) (Nat.le_of_ble_eq_true rfl) rfl ?_
  intro K hg
  obtain ⟨Q, hQ⟩ : ∃ Q, Q = q_Q G K ex n 0 0 (fun v9 n' σ' => n' = n ∧ (fun v9 σ2 => σ2 = σ ∧ v9 = some (.int (nI (k)))) v9 σ') q_noX := ⟨_, rfl⟩
  refine (?_ : AJ G K (q_Q G K ex n 0 0 _ _) 0 0 ex n 0 _ _ σ)
  rw [← hQ]
  refine A_iconst (v := (nI (1))) hg dX11_placeOf_0 (by decide) ?_
  refine A_istore_n hg dX11_placeOf_1 rfl (by decide) (q_c1d rfl) ?_
  refine A_eq (ls2 := [some (.int (nI (x))), some (.int (nI (1))), none, none, none]) (st2 := []) (pc2 := 0) rfl rfl ?_
  refine A_iconst (v := (nI (2))) hg dX11_placeOf_2 (by decide) ?_
  refine A_istore_n hg dX11_placeOf_3 rfl (by decide) (q_c1d rfl) ?_
  refine A_eq (ls2 := [some (.int (nI (x))), some (.int (nI (1))), some (.int (nI (2))), none, none]) (st2 := []) (pc2 := 0) rfl rfl ?_
  refine A_iconst (v := (nI (0))) hg dX11_placeOf_4 (by decide) ?_
  refine A_istore_n hg dX11_placeOf_5 rfl (by decide) (q_c1d rfl) ?_
  refine A_eq (ls2 := [some (.int (nI (x))), some (.int (nI (1))), some (.int (nI (2))), some (.int (nI (0))), none]) (st2 := []) (pc2 := 0) rfl rfl ?_
  have hL6 : ∀ (fu : Nat) (j : Nat) (a : Nat) (c : Nat), (a = s_fb j) → (c = s_fb (j + 1)) → (j ≤ k) → (k - j) < fu → AJ G K Q 0 0 ex n 6 [some (.int (nI (x))), some (.int (nI (a))), some (.int (nI (c))), some (.int (nI (j))), none] [] σ := by
    intro fu
    induction fu with
    | zero => intro j a c ha hc hjk hm; exact absurd hm (Nat.not_lt_zero _)
    | succ fu ih6 =>
      intro j a c ha hc hjk hm6
      have hdb := s_fb_dbl j
      have hup := s_fb_up j
      have hax : a ≤ x := by
        rcases Nat.lt_or_ge j k with e | e
        · have := s_fb_mono e; omega
        · rw [ha, hxk, show j = k by omega]; exact Nat.le_refl _
      refine A_iload_n hg dX11_placeOf_6 rfl rfl ?_
      refine A_iload_n hg dX11_placeOf_7 rfl rfl ?_
      refine A_icmp_geN (tgt := 27) hg dX11_placeOf_8 (by omega) (by omega) (by decide) (fun c8 => ?_) (fun c8 => ?_)
      · skip
        refine A_iload_n hg dX11_placeOf_27 rfl rfl ?_
        rw [hQ]
        exact A_ireturn hg (by decide) (by decide) rfl dX11_placeOf_28 ⟨rfl, ⟨rfl, (congrArg (fun z => some (Value.int (nI z))) (show j = k from by rcases Nat.lt_or_ge j k with e | e; (have := s_fb_mono e; omega); omega))⟩⟩
      · skip
        refine A_iload_n hg dX11_placeOf_11 rfl rfl ?_
        refine A_iload_n hg dX11_placeOf_12 rfl rfl ?_
        refine A_iaddN hg dX11_placeOf_13 ?_
        refine A_istore hg dX11_placeOf_14 (by decide) (q_c1d rfl) ?_
        refine A_eq (ls2 := [some (.int (nI (x))), some (.int (nI (a))), some (.int (nI (c))), some (.int (nI (j))), some (.int (nI (a + c)))]) (st2 := []) (pc2 := 0) rfl rfl ?_
        refine A_iload_n hg dX11_placeOf_16 rfl rfl ?_
        refine A_istore_n hg dX11_placeOf_17 rfl (by decide) (q_c1d rfl) ?_
        refine A_eq (ls2 := [some (.int (nI (x))), some (.int (nI (c))), some (.int (nI (c))), some (.int (nI (j))), some (.int (nI (a + c)))]) (st2 := []) (pc2 := 0) rfl rfl ?_
        refine A_iload hg dX11_placeOf_18 rfl ?_
        refine A_istore_n hg dX11_placeOf_20 rfl (by decide) (q_c1d rfl) ?_
        refine A_eq (ls2 := [some (.int (nI (x))), some (.int (nI (c))), some (.int (nI (a + c))), some (.int (nI (j))), some (.int (nI (a + c)))]) (st2 := []) (pc2 := 0) rfl rfl ?_
        refine A_iincN (k' := 1) hg dX11_placeOf_21 (by decide) rfl (by decide) (q_c1d rfl) ?_
        refine A_eq (ls2 := [some (.int (nI (x))), some (.int (nI (c))), some (.int (nI (a + c))), some (.int (nI (j + 1))), some (.int (nI (a + c)))]) (st2 := []) (pc2 := 0) rfl rfl ?_
        refine A_goto (tgt := 6) hg dX11_placeOf_24 (by decide) ?_
        refine A_drop 4 ?_
        exact ih6 (j + 1) c (a + c) hc (by rw [ha, hc]; rfl) (by rcases Nat.lt_or_ge j k with e | e; exact e; exfalso; rw [ha, hxk, show j = k by omega] at c8; exact c8 (Nat.le_refl _)) (by rcases Nat.lt_or_ge j k with e | e; omega; exfalso; rw [ha, hxk, show j = k by omega] at c8; exact c8 (Nat.le_refl _))
  exact hL6 _ 0 1 2 rfl rfl (Nat.zero_le _) (Nat.lt_succ_self _)
set_option maxRecDepth 100000 in
set_option maxHeartbeats 4000000 in
theorem c_X11_summandOf (G : GL) (ex : Bool) (n : Nat) (σ : Nat → va_E) (F : Nat → Int32) (v : Nat) (q : Nat) (hc0 : σ 279 = o11 G F) (hn : 294 ≤ n) (hv1 : 1 ≤ v) (hv9 : v ≤ 500000000) (hq : q < 2 ^ 31) : Ct G yX11_summandOf cX11_summandOf 6 (some .int) ⟨1, 0, 0, 23⟩ [.ref (q_h G + 279), .int (nI (v)), .int (nI (q))] ex n σ (fun v9 σ2 => (v9 = some (.int (nI (s_gf (s_rs v q)))) ∧ (q < s_sn v) ∧ σ2 = σ) ∨ (v9 = some (.int (q_d (0))) ∧ (s_sn v ≤ q) ∧ σ2 = σ)) := by
  refine q_enter [some (.ref (q_h G + 279)), some (.int (nI (v))), some (.int (nI (q))), none, none, none] (by decide) (Nat.le_of_ble_eq_true rfl) rfl ?_
  intro K hg
  obtain ⟨Q, hQ⟩ : ∃ Q, Q = q_Q G K ex n 0 0 (fun v9 n' σ' => n' = n ∧ (fun v9 σ2 => (v9 = some (.int (nI (s_gf (s_rs v q)))) ∧ (q < s_sn v) ∧ σ2 = σ) ∨ (v9 = some (.int (q_d (0))) ∧ (s_sn v ≤ q) ∧ σ2 = σ)) v9 σ') q_noX := ⟨_, rfl⟩
  refine (?_ : AJ G K (q_Q G K ex n 0 0 _ _) 0 0 ex n 0 _ _ σ)
  rw [← hQ]
  refine A_iload_n hg dX11_summandOf_0 rfl rfl ?_
  refine A_istore_n hg dX11_summandOf_1 rfl (by decide) (q_c1d rfl) ?_
  refine A_eq (ls2 := [some (.ref (q_h G + 279)), some (.int (nI (v))), some (.int (nI (q))), some (.int (nI (v))), none, none]) (st2 := []) (pc2 := 0) rfl rfl ?_
  refine A_iconst (v := (q_d (0))) hg dX11_summandOf_2 (by decide) ?_
  refine A_istore hg dX11_summandOf_3 (by decide) (q_c1d rfl) ?_
  refine A_eq (ls2 := [some (.ref (q_h G + 279)), some (.int (nI (v))), some (.int (nI (q))), some (.int (nI (v))), some (.int (q_d (0))), none]) (st2 := []) (pc2 := 0) rfl rfl ?_
  refine A_iconst (v := (nI (0))) hg dX11_summandOf_5 (by decide) ?_
  refine A_istore hg dX11_summandOf_6 (by decide) (q_c1d rfl) ?_
  refine A_eq (ls2 := [some (.ref (q_h G + 279)), some (.int (nI (v))), some (.int (nI (q))), some (.int (nI (v))), some (.int (q_d (0))), some (.int (nI (0)))]) (st2 := []) (pc2 := 0) rfl rfl ?_
  have hL8 : ∀ (fu : Nat) (i : Nat) (it : Int32), (it = if i = 0 then q_d 0 else nI (s_gf (s_rs v (i - 1)))) → (∀ j : Nat, j < i → ¬ s_rs v j = 0) → (i ≤ q + 1) → (q + 1 - i) < fu → AJ G K Q 0 0 ex n 8 [some (.ref (q_h G + 279)), some (.int (nI (v))), some (.int (nI (q))), some (.int (nI (s_rs v i))), some (.int (it)), some (.int (nI (i)))] [] σ := by
    intro fu
    induction fu with
    | zero => intro i it hit hno hiq hm; exact absurd hm (Nat.not_lt_zero _)
    | succ fu ih8 =>
      intro i it hit hno hiq hm8
      have hrl := s_rs_le v i
      have hiv : i ≤ v := by
        rcases Nat.lt_or_ge v i with e | e
        · exact absurd (s_rs_z v) (hno v e)
        · exact e
      refine A_iload hg dX11_summandOf_8 rfl ?_
      refine A_iload_n hg dX11_summandOf_10 rfl rfl ?_
      refine A_icmp_gtN (tgt := 37) hg dX11_summandOf_11 (by omega) (by omega) (by decide) (fun c11 => ?_) (fun c11 => ?_)
      · skip
        refine A_iload hg dX11_summandOf_37 rfl ?_
        rw [hQ]
        exact A_ireturn hg (by decide) (by decide) rfl dX11_summandOf_39 ⟨rfl, Or.inl (⟨(by rw [hit, if_neg (by omega), show i - 1 = q by omega]), (Nat.lt_of_lt_of_le (Nat.lt_succ_self q) (s_sn_gt (fun j hj => hno j (by omega)))), rfl⟩)⟩
      · skip
        refine A_iload_n hg dX11_summandOf_14 rfl rfl ?_
        refine A_if_neN (tgt := 20) hg dX11_summandOf_15 (by omega) (by decide) (fun c15 => ?_) (fun c15 => ?_)
        · skip
          refine A_iload_n hg dX11_summandOf_20 rfl rfl ?_
          refine A_eS (kc2 := 0) (ks2 := 0) (As := [.int (nI (s_rs v i))]) (rest := []) hg lk_RX11_170 st_X11_greatestOf dX11_summandOf_21 ⟨by decide, by decide⟩ rfl rfl ⟨by decide, by decide⟩ rfl rfl (Nat.le_of_ble_eq_true rfl) (c_X11_greatestOf G ex n σ (s_rs v i) (by omega) (by omega)) ?_
          refine A_istore hg dX11_summandOf_24 (by decide) (q_c1d rfl) ?_
          refine A_eq (ls2 := [some (.ref (q_h G + 279)), some (.int (nI (v))), some (.int (nI (q))), some (.int (nI (s_rs v i))), some (.int (nI (s_gf (s_rs v i)))), some (.int (nI (i)))]) (st2 := []) (pc2 := 0) rfl rfl ?_
          have hgl := s_gf_le c15
          refine A_iload_n hg dX11_summandOf_26 rfl rfl ?_
          refine A_iload hg dX11_summandOf_27 rfl ?_
          refine A_isubN hg dX11_summandOf_29 (by omega) ?_
          refine A_istore_n hg dX11_summandOf_30 rfl (by decide) (q_c1d rfl) ?_
          refine A_eq (ls2 := [some (.ref (q_h G + 279)), some (.int (nI (v))), some (.int (nI (q))), some (.int (nI ((s_rs v i) - (s_gf (s_rs v i))))), some (.int (nI (s_gf (s_rs v i)))), some (.int (nI (i)))]) (st2 := []) (pc2 := 0) rfl rfl ?_
          refine A_iincN (k' := 1) hg dX11_summandOf_31 (by decide) rfl (by decide) (q_c1d rfl) ?_
          refine A_eq (ls2 := [some (.ref (q_h G + 279)), some (.int (nI (v))), some (.int (nI (q))), some (.int (nI ((s_rs v i) - (s_gf (s_rs v i))))), some (.int (nI (s_gf (s_rs v i)))), some (.int (nI (i + 1)))]) (st2 := []) (pc2 := 0) rfl rfl ?_
          refine A_goto (tgt := 8) hg dX11_summandOf_34 (by decide) ?_
          exact ih8 (i + 1) (nI (s_gf (s_rs v i))) (by rw [if_neg (by omega), Nat.add_sub_cancel]) (lt_s hno c15) (by omega) (by omega)
        · skip
          refine A_iconst (v := (q_d (0))) hg dX11_summandOf_18 (by decide) ?_
          have hse := s_sn_eq c15 hno
          rw [hQ]
          exact A_ireturn hg (by decide) (by decide) rfl dX11_summandOf_19 ⟨rfl, Or.inr ((⟨rfl, (by omega), rfl⟩))⟩
  exact hL8 _ 0 (q_d 0) rfl (fun j h => absurd h (Nat.not_lt_zero j)) (Nat.zero_le _) (Nat.lt_succ_self _)
set_option maxRecDepth 100000 in
set_option maxHeartbeats 4000000 in
theorem c_X11_summand (G : GL) (ex : Bool) (n : Nat) (σ : Nat → va_E) (F : Nat → Int32) (v : Int32) (x : Int32) (hc0 : σ 279 = o11 G F) (hn : 294 ≤ n) : Ct G yX11_summand cX11_summand 3 (some .int) ⟨2, 0, 0, 48⟩ [.ref (q_h G + 279), .int (v), .int (x)] ex n σ (fun v9 σ2 => (v9 = some (.int (nI (0))) ∧ (∀ j : Nat, 1 ≤ j → j ≤ 500000000 → v = nI j → False) ∧ σ2 279 = o11 G (upd F 7 (nI (1))) ∧ (∀ i : Nat, i ≠ 279 → σ2 i = σ i)) ∨ (∃ (v1 : Nat), ∃ (x1 : Nat), v9 = some (.int (nI (s_gf (s_rs v1 x1)))) ∧ (v = nI v1) ∧ (1 ≤ v1) ∧ (v1 ≤ 500000000) ∧ (x = nI x1) ∧ (x1 < s_sn v1) ∧ σ2 279 = o11 G (upd F 7 (nI (0))) ∧ (∀ i : Nat, i ≠ 279 → σ2 i = σ i)) ∨ (∃ (v1 : Nat), v9 = some (.int (q_d (0))) ∧ (v = nI v1) ∧ (1 ≤ v1) ∧ (v1 ≤ 500000000) ∧ (∀ j : Nat, j < s_sn v1 → x = nI j → False) ∧ σ2 279 = o11 G (upd F 7 (nI (0))) ∧ (∀ i : Nat, i ≠ 279 → σ2 i = σ i))) := by
  refine q_enter [some (.ref (q_h G + 279)), some (.int (v)), some (.int (x))] (by decide) (Nat.le_of_ble_eq_true rfl) rfl ?_
  intro K hg
  obtain ⟨Q, hQ⟩ : ∃ Q, Q = q_Q G K ex n 0 0 (fun v9 n' σ' => n' = n ∧ (fun v9 σ2 => (v9 = some (.int (nI (0))) ∧ (∀ j : Nat, 1 ≤ j → j ≤ 500000000 → v = nI j → False) ∧ σ2 279 = o11 G (upd F 7 (nI (1))) ∧ (∀ i : Nat, i ≠ 279 → σ2 i = σ i)) ∨ (∃ (v1 : Nat), ∃ (x1 : Nat), v9 = some (.int (nI (s_gf (s_rs v1 x1)))) ∧ (v = nI v1) ∧ (1 ≤ v1) ∧ (v1 ≤ 500000000) ∧ (x = nI x1) ∧ (x1 < s_sn v1) ∧ σ2 279 = o11 G (upd F 7 (nI (0))) ∧ (∀ i : Nat, i ≠ 279 → σ2 i = σ i)) ∨ (∃ (v1 : Nat), v9 = some (.int (q_d (0))) ∧ (v = nI v1) ∧ (1 ≤ v1) ∧ (v1 ≤ 500000000) ∧ (∀ j : Nat, j < s_sn v1 → x = nI j → False) ∧ σ2 279 = o11 G (upd F 7 (nI (0))) ∧ (∀ i : Nat, i ≠ 279 → σ2 i = σ i))) v9 σ') q_noX := ⟨_, rfl⟩
  refine (?_ : AJ G K (q_Q G K ex n 0 0 _ _) 0 0 ex n 0 _ _ σ)
  rw [← hQ]
  refine A_aload_n hg dX11_summand_0 rfl rfl ?_
  refine A_iconst (v := (nI (0))) hg dX11_summand_1 (by decide) ?_
  refine A_putf hg fl_RX11_67 dX11_summand_2 hc0 (by omega) (Nat.le_of_ble_eq_true rfl) rfl rfl rfl (fun σ_1 hc_2 hf_3 => ?_)
  have hc_2 : σ_1 279 = o11 G (upd F 7 (nI (0))) := hc_2
  refine A_aload_n hg dX11_summand_5 rfl rfl ?_
  refine A_iload_n hg dX11_summand_6 rfl rfl ?_
  refine A_iconst (v := (nI (1))) hg dX11_summand_7 (by decide) ?_
  refine A_ldcw (v := nI 500000000) hg dX11_summand_8 (q_mt 1917 (by decide +kernel)) ?_
  refine A_hV (kc2 := 0) (ks2 := 0) (As := [.int (v), .int (nI (1)), .int (nI (500000000))]) (rest := []) hg lk_RX11_431 in_X11_noNumber se_X11_noNumber rfl dX11_summand_11 ⟨by decide, by decide⟩ rfl rfl ⟨by decide, by decide⟩ hc_2 (by omega) rfl rfl (Nat.le_of_ble_eq_true rfl) (c_X11_noNumber G ex n σ_1 (upd F 7 (nI (0))) v 1 500000000 hc_2 (by omega) (by omega) (by omega)) ?_
  rintro _ σ_7 (⟨rfl, hno, hc_4, hf_5⟩ | ⟨v1, rfl, hve, hva, hvl, he_6⟩)
  · skip
    refine (?_ : AJ G K Q 0 0 ex n 14 [some (.ref (q_h G + 279)), some (.int (v)), some (.int (x))] [.int (nI (1))] σ_7)
    have hc_4 : σ_7 279 = o11 G (upd F 7 (nI (1))) := hc_4
    refine A_if_eqN (tgt := 19) hg dX11_summand_14 (by decide) (by decide) (fun c14 => absurd c14 (by decide)) (fun c14 => ?_)
    refine A_iconst (v := (nI (0))) hg dX11_summand_17 (by decide) ?_
    rw [hQ]
    exact A_ireturn hg (by decide) (by decide) rfl dX11_summand_18 ⟨rfl, Or.inl (⟨rfl, (by first | rfl | assumption | omega), hc_4, (fun i hi => ((hf_5 i (by omega)).trans (hf_3 i (by omega))))⟩)⟩
  · skip
    rw [he_6]
    refine (?_ : AJ G K Q 0 0 ex n 14 [some (.ref (q_h G + 279)), some (.int (v)), some (.int (x))] [.int (nI (0))] σ_1)
    refine A_if_eqN (tgt := 19) hg dX11_summand_14 (by decide) (by decide) (fun c14 => ?_) (fun c14 => absurd (by decide) c14)
    subst hve
    refine A_iload_n hg dX11_summand_19 rfl rfl ?_
    refine A_if_ge (tgt := 27) hg dX11_summand_20 (by decide) (fun c20 => ?_) (fun c20 => ?_)
    · skip
      obtain ⟨x1, hx1, hxe⟩ := nI_of (show ¬ x < 0 from Int32.not_lt.mpr c20)
      have hsl9 := s_first_le (fun i => s_rs v1 i == 0) v1
      have hsl8 : s_sn v1 ≤ v1 := hsl9
      subst hxe
      refine A_aload_n hg dX11_summand_27 rfl rfl ?_
      refine A_iload_n hg dX11_summand_28 rfl rfl ?_
      refine A_iload_n hg dX11_summand_29 rfl rfl ?_
      refine A_hV (kc2 := 0) (ks2 := 0) (As := [.int (nI (v1)), .int (nI (x1))]) (rest := []) hg lk_RX11_439 in_X11_summandOf se_X11_summandOf rfl dX11_summand_30 ⟨by decide, by decide⟩ rfl rfl ⟨by decide, by decide⟩ hc_2 (by omega) rfl rfl (Nat.le_of_ble_eq_true rfl) (c_X11_summandOf G ex n σ_1 (upd F 7 (nI (0))) v1 x1 hc_2 (by omega) (by omega) (by omega) (by omega)) ?_
      rintro _ σ_10 (⟨rfl, hh, he_8⟩ | ⟨rfl, hh, he_9⟩)
      · skip
        rw [he_8]
        refine (?_ : AJ G K Q 0 0 ex n 33 [some (.ref (q_h G + 279)), some (.int (nI (v1))), some (.int (nI (x1)))] [.int (nI (s_gf (s_rs v1 x1)))] σ_1)
        rw [hQ]
        exact A_ireturn hg (by decide) (by decide) rfl dX11_summand_33 ⟨rfl, Or.inr (Or.inl (⟨v1, x1, rfl, (by first | rfl | assumption | omega), (by first | rfl | assumption | omega), (by first | rfl | assumption | omega), (by first | rfl | assumption | omega), hh, hc_2, (fun i hi => (hf_3 i (by omega)))⟩))⟩
      · skip
        rw [he_9]
        refine (?_ : AJ G K Q 0 0 ex n 33 [some (.ref (q_h G + 279)), some (.int (nI (v1))), some (.int (nI (x1)))] [.int (q_d (0))] σ_1)
        rw [hQ]
        exact A_ireturn hg (by decide) (by decide) rfl dX11_summand_33 ⟨rfl, Or.inr (Or.inr ((⟨v1, rfl, (by first | rfl | assumption | omega), (by first | rfl | assumption | omega), (by first | rfl | assumption | omega), (fun j hj e => by have := q_nI_inj hx1 (by omega) e; omega), hc_2, (fun i hi => (hf_3 i (by omega)))⟩)))⟩
    · skip
      have hsl9 := s_first_le (fun i => s_rs v1 i == 0) v1
      have hsl8 : s_sn v1 ≤ v1 := hsl9
      refine A_iconst (v := (q_d (0))) hg dX11_summand_23 (by decide) ?_
      refine A_goto (tgt := 33) hg dX11_summand_24 (by decide) ?_
      rw [hQ]
      exact A_ireturn hg (by decide) (by decide) rfl dX11_summand_33 ⟨rfl, Or.inr (Or.inr ((⟨v1, rfl, (by first | rfl | assumption | omega), (by first | rfl | assumption | omega), (by first | rfl | assumption | omega), (fun j hj e => c20 (by rw [e]; exact nI_pos' (by omega))), hc_2, (fun i hi => (hf_3 i (by omega)))⟩)))⟩
set_option maxRecDepth 100000 in
set_option maxHeartbeats 4000000 in
theorem c_X11_leastPlace (G : GL) (ex : Bool) (n : Nat) (σ : Nat → va_E) (F : Nat → Int32) (v : Int32) (hc0 : σ 279 = o11 G F) (hn : 294 ≤ n) : Ct G yX11_leastPlace cX11_leastPlace 3 (some .int) ⟨2, 0, 0, 48⟩ [.ref (q_h G + 279), .int (v)] ex n σ (fun v9 σ2 => (v9 = some (.int (nI (0))) ∧ (∀ j : Nat, 1 ≤ j → j ≤ 500000000 → v = nI j → False) ∧ σ2 279 = o11 G (upd F 7 (nI (1))) ∧ (∀ i : Nat, i ≠ 279 → σ2 i = σ i)) ∨ (∃ (v1 : Nat), v9 = some (.int (nI (s_gi (s_rs v1 (s_sn v1 - 1))))) ∧ (v = nI v1) ∧ (1 ≤ v1) ∧ (v1 ≤ 500000000) ∧ σ2 279 = o11 G (upd F 7 (nI (0))) ∧ (∀ i : Nat, i ≠ 279 → σ2 i = σ i))) := by
  refine q_enter [some (.ref (q_h G + 279)), some (.int (v)), none] (by decide) (Nat.le_of_ble_eq_true rfl) rfl ?_
  intro K hg
  obtain ⟨Q, hQ⟩ : ∃ Q, Q = q_Q G K ex n 0 0 (fun v9 n' σ' => n' = n ∧ (fun v9 σ2 => (v9 = some (.int (nI (0))) ∧ (∀ j : Nat, 1 ≤ j → j ≤ 500000000 → v = nI j → False) ∧ σ2 279 = o11 G (upd F 7 (nI (1))) ∧ (∀ i : Nat, i ≠ 279 → σ2 i = σ i)) ∨ (∃ (v1 : Nat), v9 = some (.int (nI (s_gi (s_rs v1 (s_sn v1 - 1))))) ∧ (v = nI v1) ∧ (1 ≤ v1) ∧ (v1 ≤ 500000000) ∧ σ2 279 = o11 G (upd F 7 (nI (0))) ∧ (∀ i : Nat, i ≠ 279 → σ2 i = σ i))) v9 σ') q_noX := ⟨_, rfl⟩
  refine (?_ : AJ G K (q_Q G K ex n 0 0 _ _) 0 0 ex n 0 _ _ σ)
  rw [← hQ]
  refine A_aload_n hg dX11_leastPlace_0 rfl rfl ?_
  refine A_iconst (v := (nI (0))) hg dX11_leastPlace_1 (by decide) ?_
  refine A_putf hg fl_RX11_67 dX11_leastPlace_2 hc0 (by omega) (Nat.le_of_ble_eq_true rfl) rfl rfl rfl (fun σ_1 hc_2 hf_3 => ?_)
  have hc_2 : σ_1 279 = o11 G (upd F 7 (nI (0))) := hc_2
  refine A_aload_n hg dX11_leastPlace_5 rfl rfl ?_
  refine A_iload_n hg dX11_leastPlace_6 rfl rfl ?_
  refine A_iconst (v := (nI (1))) hg dX11_leastPlace_7 (by decide) ?_
  refine A_ldcw (v := nI 500000000) hg dX11_leastPlace_8 (q_mt 1917 (by decide +kernel)) ?_
  refine A_hV (kc2 := 0) (ks2 := 0) (As := [.int (v), .int (nI (1)), .int (nI (500000000))]) (rest := []) hg lk_RX11_431 in_X11_noNumber se_X11_noNumber rfl dX11_leastPlace_11 ⟨by decide, by decide⟩ rfl rfl ⟨by decide, by decide⟩ hc_2 (by omega) rfl rfl (Nat.le_of_ble_eq_true rfl) (c_X11_noNumber G ex n σ_1 (upd F 7 (nI (0))) v 1 500000000 hc_2 (by omega) (by omega) (by omega)) ?_
  rintro _ σ_7 (⟨rfl, hno, hc_4, hf_5⟩ | ⟨v1, rfl, hve, hva, hvl, he_6⟩)
  · skip
    refine (?_ : AJ G K Q 0 0 ex n 14 [some (.ref (q_h G + 279)), some (.int (v)), none] [.int (nI (1))] σ_7)
    have hc_4 : σ_7 279 = o11 G (upd F 7 (nI (1))) := hc_4
    refine A_if_eqN (tgt := 19) hg dX11_leastPlace_14 (by decide) (by decide) (fun c14 => absurd c14 (by decide)) (fun c14 => ?_)
    refine A_iconst (v := (nI (0))) hg dX11_leastPlace_17 (by decide) ?_
    rw [hQ]
    exact A_ireturn hg (by decide) (by decide) rfl dX11_leastPlace_18 ⟨rfl, Or.inl (⟨rfl, (by first | rfl | assumption | omega), hc_4, (fun i hi => ((hf_5 i (by omega)).trans (hf_3 i (by omega))))⟩)⟩
  · skip
    rw [he_6]
    refine (?_ : AJ G K Q 0 0 ex n 14 [some (.ref (q_h G + 279)), some (.int (v)), none] [.int (nI (0))] σ_1)
    refine A_if_eqN (tgt := 19) hg dX11_leastPlace_14 (by decide) (by decide) (fun c14 => ?_) (fun c14 => absurd (by decide) c14)
    subst hve
    refine A_iconst (v := (nI (0))) hg dX11_leastPlace_19 (by decide) ?_
    have hsp := s_sn_pos hva
    have hsl9 := s_first_le (fun i => s_rs v1 i == 0) v1
    have hsl8 : s_sn v1 ≤ v1 := hsl9
    refine A_istore_n hg dX11_leastPlace_20 rfl (by decide) (q_c1d rfl) ?_
    refine A_eq (ls2 := [some (.ref (q_h G + 279)), some (.int (nI (v1))), some (.int (nI (0)))]) (st2 := []) (pc2 := 0) rfl rfl ?_
    have hL21 : ∀ (fu : Nat) (i : Nat), (i < s_sn v1) → (s_sn v1 - i) < fu → AJ G K Q 0 0 ex n 21 [some (.ref (q_h G + 279)), some (.int (nI (v1))), some (.int (nI (i)))] [] σ_1 := by
      intro fu
      induction fu with
      | zero => intro i hi1 hm; exact absurd hm (Nat.not_lt_zero _)
      | succ fu ih21 =>
        intro i hi1 hm21
        refine A_aload_n hg dX11_leastPlace_21 rfl rfl ?_
        refine A_iload_n hg dX11_leastPlace_22 rfl rfl ?_
        refine A_iload_n hg dX11_leastPlace_23 rfl rfl ?_
        refine A_iconst (v := (nI (1))) hg dX11_leastPlace_24 (by decide) ?_
        refine A_iaddN hg dX11_leastPlace_25 ?_
        refine A_hV (kc2 := 0) (ks2 := 0) (As := [.int (nI (v1)), .int (nI (i + 1))]) (rest := []) hg lk_RX11_439 in_X11_summandOf se_X11_summandOf rfl dX11_leastPlace_26 ⟨by decide, by decide⟩ rfl rfl ⟨by decide, by decide⟩ hc_2 (by omega) rfl rfl (Nat.le_of_ble_eq_true rfl) (c_X11_summandOf G ex n σ_1 (upd F 7 (nI (0))) v1 (i + 1) hc_2 (by omega) (by omega) (by omega) (by omega)) ?_
        rintro _ σ_10 (⟨rfl, hh, he_8⟩ | ⟨rfl, hh, he_9⟩)
        · skip
          rw [he_8]
          refine (?_ : AJ G K Q 0 0 ex n 29 [some (.ref (q_h G + 279)), some (.int (nI (v1))), some (.int (nI (i)))] [.int (nI (s_gf (s_rs v1 (i + 1))))] σ_1)
          refine A_iconst (v := (q_d (0))) hg dX11_leastPlace_29 (by decide) ?_
          refine A_icmp_eq (tgt := 39) hg dX11_leastPlace_30 (by decide) (fun c30 => absurd c30 (q_nM (by have := s_gf_le (s_sn_nz hh); have := s_rs_le v1 (i + 1); omega))) (fun c30 => ?_)
          refine A_iincN (k' := 1) hg dX11_leastPlace_33 (by decide) rfl (by decide) (q_c1d rfl) ?_
          refine A_eq (ls2 := [some (.ref (q_h G + 279)), some (.int (nI (v1))), some (.int (nI (i + 1)))]) (st2 := []) (pc2 := 0) rfl rfl ?_
          refine A_goto (tgt := 21) hg dX11_leastPlace_36 (by decide) ?_
          exact ih21 (i + 1) (by omega) (by omega)
        · skip
          rw [he_9]
          refine (?_ : AJ G K Q 0 0 ex n 29 [some (.ref (q_h G + 279)), some (.int (nI (v1))), some (.int (nI (i)))] [.int (q_d (0))] σ_1)
          refine A_iconst (v := (q_d (0))) hg dX11_leastPlace_29 (by decide) ?_
          refine A_icmp_eqM (tgt := 39) hg dX11_leastPlace_30 (by decide) (by decide) (by decide) (fun c30 => ?_) (fun c30 => absurd rfl c30)
          refine A_aload_n hg dX11_leastPlace_39 rfl rfl ?_
          refine A_iload_n hg dX11_leastPlace_40 rfl rfl ?_
          refine A_iload_n hg dX11_leastPlace_41 rfl rfl ?_
          refine A_hV (kc2 := 0) (ks2 := 0) (As := [.int (nI (v1)), .int (nI (i))]) (rest := []) hg lk_RX11_439 in_X11_summandOf se_X11_summandOf rfl dX11_leastPlace_42 ⟨by decide, by decide⟩ rfl rfl ⟨by decide, by decide⟩ hc_2 (by omega) rfl rfl (Nat.le_of_ble_eq_true rfl) (c_X11_summandOf G ex n σ_1 (upd F 7 (nI (0))) v1 i hc_2 (by omega) (by omega) (by omega) (by omega)) ?_
          rintro _ σ_13 (⟨rfl, hh2, he_11⟩ | ⟨rfl, hh2, he_12⟩)
          · skip
            rw [he_11]
            refine (?_ : AJ G K Q 0 0 ex n 45 [some (.ref (q_h G + 279)), some (.int (nI (v1))), some (.int (nI (i)))] [.int (nI (s_gf (s_rs v1 i)))] σ_1)
            refine A_eS (kc2 := 0) (ks2 := 0) (As := [.int (nI (s_gf (s_rs v1 i)))]) (rest := []) hg lk_RX11_442 st_X11_placeOf dX11_leastPlace_45 ⟨by decide, by decide⟩ rfl rfl ⟨by decide, by decide⟩ rfl rfl (Nat.le_of_ble_eq_true rfl) (c_X11_placeOf G ex n σ_1 (s_gf (s_rs v1 i)) (s_gi (s_rs v1 i)) rfl (by have := s_gf_le (s_sn_nz hi1); have := s_rs_le v1 i; omega)) ?_
            rw [hQ]
            exact A_ireturn hg (by decide) (by decide) rfl dX11_leastPlace_48 ⟨rfl, Or.inr ((⟨v1, (by rw [show s_sn v1 - 1 = i by omega]), (by first | rfl | assumption | omega), (by first | rfl | assumption | omega), (by first | rfl | assumption | omega), hc_2, (fun i hi => (hf_3 i (by omega)))⟩))⟩
          · skip
            rw [he_12]
            refine (?_ : AJ G K Q 0 0 ex n 45 [some (.ref (q_h G + 279)), some (.int (nI (v1))), some (.int (nI (i)))] [.int (q_d (0))] σ_1)
            exact absurd hh2 (by omega)
    exact hL21 _ 0 hsp (Nat.lt_succ_self _)
end
