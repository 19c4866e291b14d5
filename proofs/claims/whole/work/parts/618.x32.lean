section
theorem x_fb_mono : ∀ d i : Nat, s_fb i ≤ s_fb (i + d)
  | 0, _ => Nat.le_refl _
  | d + 1, i => Nat.le_trans (x_fb_mono d i) (by have := (s_fb_up (i + d)).2; rw [show i + (d + 1) = i + d + 1 by omega]; omega)
theorem x_fb_lt {j : Nat} (h : j ≤ 42) : s_fb j ≤ 701408733 := by have h2 := x_fb_mono (42 - j) j; rw [show j + (42 - j) = 42 by omega, x_fb_42] at h2; exact h2
theorem x_fb_dbl {j : Nat} (h : 1 ≤ j) : s_fb j ≤ 2 * s_fb (j - 1) := by
  rcases Nat.eq_zero_or_pos (j - 1) with e | e
  · rw [e, show j = 1 by omega]; decide
  · have h1 := s_fb_s (j - 2)
    rw [show j - 2 + 2 = j by omega, show j - 2 + 1 = j - 1 by omega] at h1
    have h2 := (s_fb_up (j - 2)).2
    rw [show j - 2 + 1 = j - 1 by omega] at h2
    omega
theorem x_sm_step {v i j : Nat} (hj : 1 ≤ j) (h : s_rs v i < s_fb j) (hc : s_fb (j - 1) ≤ s_rs v i) : s_gi (s_rs v i) = j - 1 ∧ s_gf (s_rs v i) = s_fb (j - 1) ∧ s_rs v (i + 1) = s_rs v i - s_fb (j - 1) ∧ s_rs v (i + 1) < s_fb (j - 1) := by
  have h1 := s_gi_eq hc (by rw [show j - 1 + 1 = j by omega]; exact h)
  have h2 : s_gf (s_rs v i) = s_fb (j - 1) := by unfold s_gf; rw [h1]
  have h3 : s_rs v (i + 1) = s_rs v i - s_fb (j - 1) := by rw [s_rs_s, h2]
  have h4 := x_fb_dbl hj
  exact ⟨h1, h2, h3, by omega⟩
set_option maxRecDepth 100000 in
set_option maxHeartbeats 4000000 in
theorem c_X10_summand (G : GL) (ex : Bool) (n : Nat) (σ : Nat → va_E) (z1 : Int32) (z2 : Int32) (z3 : Int32) (v : Int32) (x : Int32) (hc0 : σ 0 = o10 G (z1) (z2) (z3)) (hn9 : 279 ≤ n) : CtX G yX10_summand cX10_summand 6 (some .int) ⟨7, 1, 6, 112⟩ [.ref (q_h G + 0), .int (v), .int (x)] ex n σ (fun v9 σ2 => (∃ (v1 : Nat), ∃ (x1 : Nat), v9 = some (.int (nI (s_gf (s_rs v1 x1)))) ∧ (v = nI v1) ∧ (1 ≤ v1) ∧ (v1 ≤ 500000000) ∧ (x = nI x1) ∧ (x1 < s_sn v1) ∧ σ2 = σ) ∨ (∃ (v1 : Nat), v9 = some (.int (q_d (0))) ∧ (v = nI v1) ∧ (1 ≤ v1) ∧ (v1 ≤ 500000000) ∧ (∀ j : Nat, j < s_sn v1 → x = nI j → False) ∧ σ2 = σ)) (fun E σ2 => σ2 = σ ∧ ((E = "java/lang/IllegalArgumentException" ∧ (∀ j : Nat, 1 ≤ j → j ≤ 500000000 → v = nI j → False)))) := by
  refine q_enter [some (.ref (q_h G + 0)), some (.int (v)), some (.int (x)), none, none, none] (by decide) (Nat.le_of_ble_eq_true rfl) rfl ?_
  intro K hg
  obtain ⟨Q, hQ⟩ : ∃ Q, Q = q_Q G K ex n 1 6 (fun v9 n' σ' => n' = n ∧ (fun v9 σ2 => (∃ (v1 : Nat), ∃ (x1 : Nat), v9 = some (.int (nI (s_gf (s_rs v1 x1)))) ∧ (v = nI v1) ∧ (1 ≤ v1) ∧ (v1 ≤ 500000000) ∧ (x = nI x1) ∧ (x1 < s_sn v1) ∧ σ2 = σ) ∨ (∃ (v1 : Nat), v9 = some (.int (q_d (0))) ∧ (v = nI v1) ∧ (1 ≤ v1) ∧ (v1 ≤ 500000000) ∧ (∀ j : Nat, j < s_sn v1 → x = nI j → False) ∧ σ2 = σ)) v9 σ') (fun E σ2 => σ2 = σ ∧ ((E = "java/lang/IllegalArgumentException" ∧ (∀ j : Nat, 1 ≤ j → j ≤ 500000000 → v = nI j → False)))) := ⟨_, rfl⟩
  refine (?_ : AJ G K (q_Q G K ex n 1 6 _ _) 0 0 ex n 0 _ _ σ)
  rw [← hQ]
  obtain ⟨tS, hSZ, hST⟩ := q_summ hg.2.2.2.2.2.2.1.1
  refine A_iload_n hg dX10_summand_0 rfl rfl ?_
  refine A_iconst (v := (nI (1))) hg dX10_summand_1 (by decide) ?_
  refine A_ldcw (v := nI 500000000) hg dX10_summand_2 (q_mt 1143 (by decide +kernel)) ?_
  refine A_pSX (kc2 := 1) (ks2 := 6) (As := [.int (v), .int (nI (1)), .int (nI (500000000))]) (rest := []) hg lk_RX10_179 st_X10_needRange dX10_summand_5 ⟨by decide, by decide⟩ rfl rfl ⟨by decide, by decide⟩ rfl rfl (Nat.le_of_ble_eq_true rfl) (c_X10_needRange G ex n σ v 1 500000000 (by omega) (by omega)) (fun E σx hx => by rw [hQ]; exact A_out hg (by decide) (by decide) (by obtain ⟨hs, hE, hx⟩ := hx; exact ⟨hs, ⟨hE, hx⟩⟩)) ?_
  rintro _ ⟨v1, rfl, hve, hva, hvl⟩
  refine (?_ : AJ G K Q 1 6 ex n 8 [some (.ref (q_h G + 0)), some (.int (v)), some (.int (x)), none, none, none] [] σ)
  subst hve
  refine A_iload_n hg dX10_summand_8 rfl rfl ?_
  refine A_istore_n hg dX10_summand_9 rfl (by decide) (q_c1d rfl) ?_
  refine A_eq (ls2 := [some (.ref (q_h G + 0)), some (.int (nI (v1))), some (.int (x)), some (.int (nI (v1))), none, none]) (st2 := []) (pc2 := 0) rfl rfl ?_
  refine A_iconst (v := (nI (0))) hg dX10_summand_10 (by decide) ?_
  refine A_istore hg dX10_summand_11 (by decide) (q_c1d rfl) ?_
  refine A_eq (ls2 := [some (.ref (q_h G + 0)), some (.int (nI (v1))), some (.int (x)), some (.int (nI (v1))), some (.int (nI (0))), none]) (st2 := []) (pc2 := 0) rfl rfl ?_
  refine A_gets hg hSZ (q_mt 1168 (by decide +kernel)) dX10_summand_13 ?_
  refine A_alenO hg hST dX10_summand_16 ?_
  refine A_iconst (v := (nI (1))) hg dX10_summand_17 (by decide) ?_
  refine A_isubN hg dX10_summand_18 (by omega) ?_
  refine A_eq (ls2 := [some (.ref (q_h G + 0)), some (.int (nI (v1))), some (.int (x)), some (.int (nI (v1))), some (.int (nI (0))), none]) (st2 := [.int (q_d 42)]) (pc2 := 0) rfl rfl ?_
  refine A_istore hg dX10_summand_19 (by decide) (q_c1d rfl) ?_
  refine A_eq (ls2 := [some (.ref (q_h G + 0)), some (.int (nI (v1))), some (.int (x)), some (.int (nI (v1))), some (.int (nI (0))), some (.int (q_d (42)))]) (st2 := []) (pc2 := 0) rfl rfl ?_
  have hL21 : ∀ (fu : Nat) (i : Nat) (j : Nat), (j ≤ 42) → (s_rs v1 i < s_fb j) → (∀ q : Nat, q < i → ¬ s_rs v1 q = 0) → (∀ q : Nat, q < i → x = nI q → False) → j < fu → AJ G K Q 1 6 ex n 21 [some (.ref (q_h G + 0)), some (.int (nI (v1))), some (.int (x)), some (.int (nI (s_rs v1 i))), some (.int (nI (i))), some (.int (q_d (j)))] [] σ := by
    intro fu
    induction fu with
    | zero => intro i j hj hlt hno hnx hm; exact absurd hm (Nat.not_lt_zero _)
    | succ fu ih21 =>
      intro i j hj hlt hno hnx hm21
      refine A_iload hg dX10_summand_21 rfl ?_
      refine A_if_ltM (tgt := 67) hg dX10_summand_23 (by omega) (by decide) (fun c23 => ?_) (fun c23 => ?_)
      · skip
        refine A_iconst (v := (q_d (0))) hg dX10_summand_67 (by decide) ?_
        have hj0 : j = 0 := by omega
        have hz : s_rs v1 i = 0 := by rw [hj0] at hlt; have : s_fb 0 = 1 := rfl; omega
        rw [hQ]
        exact A_ireturn hg (by decide) (by decide) rfl dX10_summand_68 ⟨rfl, Or.inr ((⟨v1, rfl, rfl, hva, hvl, (fun q hq e => hnx q (by rw [s_sn_eq hz hno] at hq; exact hq) e), rfl⟩))⟩
      · skip
        have hj1 : 1 ≤ j := by omega
        have hfl := x_fb_lt (show j - 1 ≤ 42 by omega)
        have hfp := (s_fb_up (j - 1)).1
        have hrv := s_rs_le v1 i
        refine A_gets hg hSZ (q_mt 1168 (by decide +kernel)) dX10_summand_26 ?_
        refine A_iload hg dX10_summand_29 rfl ?_
        refine A_top (w := .int (nI (j - 1))) (congrArg Value.int (q_dP hj1)) ?_
        refine A_ialdO hg hST (j := (j - 1)) (by omega) (by decide) rfl dX10_summand_31 ?_
        refine A_iload_n hg dX10_summand_32 rfl rfl ?_
        refine A_icmp_gtN (tgt := 61) hg dX10_summand_33 (by omega) (by omega) (by decide) (fun c33 => ?_) (fun c33 => ?_)
        · skip
          refine A_iinc (v := (q_d (j - 1))) hg dX10_summand_61 rfl (q_dD (by omega)) (by decide) (q_c1d rfl) ?_
          refine A_eq (ls2 := [some (.ref (q_h G + 0)), some (.int (nI (v1))), some (.int (x)), some (.int (nI (s_rs v1 i))), some (.int (nI (i))), some (.int (q_d (j - 1)))]) (st2 := []) (pc2 := 0) rfl rfl ?_
          refine A_goto (tgt := 21) hg dX10_summand_64 (by decide) ?_
          exact ih21 i (j - 1) (by omega) (by omega) (by omega) (by omega) (by omega)
        · skip
          obtain ⟨hgi, hgf, hrn, hrl⟩ := x_sm_step hj1 hlt (show s_fb (j - 1) ≤ s_rs v1 i by omega)
          refine A_iload hg dX10_summand_36 rfl ?_
          refine A_iload_n hg dX10_summand_38 rfl rfl ?_
          refine A_icmp_ne (tgt := 49) hg dX10_summand_39 (by decide) (fun c39 => ?_) (fun c39 => ?_)
          · skip
            refine A_iincN (k' := 1) hg dX10_summand_49 (by decide) rfl (by decide) (q_c1d rfl) ?_
            refine A_eq (ls2 := [some (.ref (q_h G + 0)), some (.int (nI (v1))), some (.int (x)), some (.int (nI (s_rs v1 i))), some (.int (nI (i + 1))), some (.int (q_d (j)))]) (st2 := []) (pc2 := 0) rfl rfl ?_
            refine A_iload_n hg dX10_summand_52 rfl rfl ?_
            refine A_gets hg hSZ (q_mt 1168 (by decide +kernel)) dX10_summand_53 ?_
            refine A_iload hg dX10_summand_56 rfl ?_
            refine A_top (w := .int (nI (j - 1))) (congrArg Value.int (q_dP hj1)) ?_
            refine A_ialdO hg hST (j := (j - 1)) (by omega) (by decide) rfl dX10_summand_58 ?_
            refine A_isubN hg dX10_summand_59 (by omega) ?_
            refine A_top (w := .int (nI (s_rs v1 (i + 1)))) (by rw [hrn]) ?_
            refine A_istore_n hg dX10_summand_60 rfl (by decide) (q_c1d rfl) ?_
            refine A_eq (ls2 := [some (.ref (q_h G + 0)), some (.int (nI (v1))), some (.int (x)), some (.int (nI (s_rs v1 (i + 1)))), some (.int (nI (i + 1))), some (.int (q_d (j)))]) (st2 := []) (pc2 := 0) rfl rfl ?_
            refine A_iinc (v := (q_d (j - 1))) hg dX10_summand_61 rfl (q_dD (by omega)) (by decide) (q_c1d rfl) ?_
            refine A_eq (ls2 := [some (.ref (q_h G + 0)), some (.int (nI (v1))), some (.int (x)), some (.int (nI (s_rs v1 (i + 1)))), some (.int (nI (i + 1))), some (.int (q_d (j - 1)))]) (st2 := []) (pc2 := 0) rfl rfl ?_
            refine A_goto (tgt := 21) hg dX10_summand_64 (by decide) ?_
            exact ih21 (i + 1) (j - 1) (by omega) hrl (lt_s hno (by omega)) (lt_s hnx (fun e => c39 e.symm)) (by omega)
          · skip
            refine A_gets hg hSZ (q_mt 1168 (by decide +kernel)) dX10_summand_42 ?_
            refine A_iload hg dX10_summand_45 rfl ?_
            refine A_top (w := .int (nI (j - 1))) (congrArg Value.int (q_dP hj1)) ?_
            refine A_ialdO hg hST (j := (j - 1)) (by omega) (by decide) rfl dX10_summand_47 ?_
            rw [hQ]
            exact A_ireturn hg (by decide) (by decide) rfl dX10_summand_48 ⟨rfl, Or.inl (⟨v1, i, (by rw [hgf]), rfl, hva, hvl, c39.symm, (s_sn_gt (i := i + 1) (lt_s hno (by omega))), rfl⟩)⟩
  exact hL21 _ 0 42 (Nat.le_refl _) (by rw [x_fb_42]; show v1 < _; omega) (fun q h => absurd h (Nat.not_lt_zero q)) (fun q h => absurd h (Nat.not_lt_zero q)) (Nat.lt_succ_self _)
set_option maxRecDepth 100000 in
set_option maxHeartbeats 4000000 in
theorem c_X10_leastPlace (G : GL) (ex : Bool) (n : Nat) (σ : Nat → va_E) (z1 : Int32) (z2 : Int32) (z3 : Int32) (v : Int32) (hc0 : σ 0 = o10 G (z1) (z2) (z3)) (hn9 : 279 ≤ n) : CtX G yX10_leastPlace cX10_leastPlace 5 (some .int) ⟨7, 1, 6, 112⟩ [.ref (q_h G + 0), .int (v)] ex n σ (fun v9 σ2 => σ2 = σ ∧ ∃ (v1 : Nat), v9 = some (.int (nI (s_gi (s_rs v1 (s_sn v1 - 1))))) ∧ (v = nI v1) ∧ (1 ≤ v1) ∧ (v1 ≤ 500000000)) (fun E σ2 => σ2 = σ ∧ ((E = "java/lang/IllegalArgumentException" ∧ (∀ j : Nat, 1 ≤ j → j ≤ 500000000 → v = nI j → False)))) := by
  refine q_enter [some (.ref (q_h G + 0)), some (.int (v)), none, none, none] (by decide) (Nat.le_of_ble_eq_true rfl) rfl ?_
  intro K hg
  obtain ⟨Q, hQ⟩ : ∃ Q, Q = q_Q G K ex n 1 6 (fun v9 n' σ' => n' = n ∧ (fun v9 σ2 => σ2 = σ ∧ ∃ (v1 : Nat), v9 = some (.int (nI (s_gi (s_rs v1 (s_sn v1 - 1))))) ∧ (v = nI v1) ∧ (1 ≤ v1) ∧ (v1 ≤ 500000000)) v9 σ') (fun E σ2 => σ2 = σ ∧ ((E = "java/lang/IllegalArgumentException" ∧ (∀ j : Nat, 1 ≤ j → j ≤ 500000000 → v = nI j → False)))) := ⟨_, rfl⟩
  refine (?_ : AJ G K (q_Q G K ex n 1 6 _ _) 0 0 ex n 0 _ _ σ)
  rw [← hQ]
  obtain ⟨tS, hSZ, hST⟩ := q_summ hg.2.2.2.2.2.2.1.1
  refine A_iload_n hg dX10_leastPlace_0 rfl rfl ?_
  refine A_iconst (v := (nI (1))) hg dX10_leastPlace_1 (by decide) ?_
  refine A_ldcw (v := nI 500000000) hg dX10_leastPlace_2 (q_mt 1143 (by decide +kernel)) ?_
  refine A_pSX (kc2 := 1) (ks2 := 6) (As := [.int (v), .int (nI (1)), .int (nI (500000000))]) (rest := []) hg lk_RX10_179 st_X10_needRange dX10_leastPlace_5 ⟨by decide, by decide⟩ rfl rfl ⟨by decide, by decide⟩ rfl rfl (Nat.le_of_ble_eq_true rfl) (c_X10_needRange G ex n σ v 1 500000000 (by omega) (by omega)) (fun E σx hx => by rw [hQ]; exact A_out hg (by decide) (by decide) (by obtain ⟨hs, hE, hx⟩ := hx; exact ⟨hs, ⟨hE, hx⟩⟩)) ?_
  rintro _ ⟨v1, rfl, hve, hva, hvl⟩
  refine (?_ : AJ G K Q 1 6 ex n 8 [some (.ref (q_h G + 0)), some (.int (v)), none, none, none] [] σ)
  subst hve
  refine A_iload_n hg dX10_leastPlace_8 rfl rfl ?_
  refine A_istore_n hg dX10_leastPlace_9 rfl (by decide) (q_c1d rfl) ?_
  refine A_eq (ls2 := [some (.ref (q_h G + 0)), some (.int (nI (v1))), some (.int (nI (v1))), none, none]) (st2 := []) (pc2 := 0) rfl rfl ?_
  refine A_iconst (v := (nI (0))) hg dX10_leastPlace_10 (by decide) ?_
  refine A_istore_n hg dX10_leastPlace_11 rfl (by decide) (q_c1d rfl) ?_
  refine A_eq (ls2 := [some (.ref (q_h G + 0)), some (.int (nI (v1))), some (.int (nI (v1))), some (.int (nI (0))), none]) (st2 := []) (pc2 := 0) rfl rfl ?_
  refine A_gets hg hSZ (q_mt 1168 (by decide +kernel)) dX10_leastPlace_12 ?_
  refine A_alenO hg hST dX10_leastPlace_15 ?_
  refine A_iconst (v := (nI (1))) hg dX10_leastPlace_16 (by decide) ?_
  refine A_isubN hg dX10_leastPlace_17 (by omega) ?_
  refine A_eq (ls2 := [some (.ref (q_h G + 0)), some (.int (nI (v1))), some (.int (nI (v1))), some (.int (nI (0))), none]) (st2 := [.int (q_d 42)]) (pc2 := 0) rfl rfl ?_
  refine A_istore hg dX10_leastPlace_18 (by decide) (q_c1d rfl) ?_
  refine A_eq (ls2 := [some (.ref (q_h G + 0)), some (.int (nI (v1))), some (.int (nI (v1))), some (.int (nI (0))), some (.int (q_d (42)))]) (st2 := []) (pc2 := 0) rfl rfl ?_
  have hL20 : ∀ (fu : Nat) (i : Nat) (j : Nat) (le : Nat), (j ≤ 42) → (s_rs v1 i < s_fb j) → (∀ q : Nat, q < i → ¬ s_rs v1 q = 0) → ((i = 0 ∧ le = 0) ∨ (0 < i ∧ le = s_gi (s_rs v1 (i - 1)))) → j < fu → AJ G K Q 1 6 ex n 20 [some (.ref (q_h G + 0)), some (.int (nI (v1))), some (.int (nI (s_rs v1 i))), some (.int (nI (le))), some (.int (q_d (j)))] [] σ := by
    intro fu
    induction fu with
    | zero => intro i j le hj hlt hno hw hm; exact absurd hm (Nat.not_lt_zero _)
    | succ fu ih20 =>
      intro i j le hj hlt hno hw hm20
      refine A_iload hg dX10_leastPlace_20 rfl ?_
      refine A_if_ltM (tgt := 57) hg dX10_leastPlace_22 (by omega) (by decide) (fun c22 => ?_) (fun c22 => ?_)
      · skip
        refine A_iload_n hg dX10_leastPlace_57 rfl rfl ?_
        have hj0 : j = 0 := by omega
        have hz : s_rs v1 i = 0 := by rw [hj0] at hlt; have : s_fb 0 = 1 := rfl; omega
        have hsn := s_sn_eq hz hno
        have hsp := s_sn_pos hva
        rw [hsn] at hsp
        rw [hQ]
        exact A_ireturn hg (by decide) (by decide) rfl dX10_leastPlace_58 ⟨rfl, ⟨rfl, v1, (by rw [hsn, hw.resolve_left (by omega) |>.2]), rfl, hva, hvl⟩⟩
      · skip
        have hj1 : 1 ≤ j := by omega
        have hfl := x_fb_lt (show j - 1 ≤ 42 by omega)
        have hfp := (s_fb_up (j - 1)).1
        have hrv := s_rs_le v1 i
        refine A_gets hg hSZ (q_mt 1168 (by decide +kernel)) dX10_leastPlace_25 ?_
        refine A_iload hg dX10_leastPlace_28 rfl ?_
        refine A_top (w := .int (nI (j - 1))) (congrArg Value.int (q_dP hj1)) ?_
        refine A_ialdO hg hST (j := (j - 1)) (by omega) (by decide) rfl dX10_leastPlace_30 ?_
        refine A_iload_n hg dX10_leastPlace_31 rfl rfl ?_
        refine A_icmp_gtN (tgt := 51) hg dX10_leastPlace_32 (by omega) (by omega) (by decide) (fun c32 => ?_) (fun c32 => ?_)
        · skip
          refine A_iinc (v := (q_d (j - 1))) hg dX10_leastPlace_51 rfl (q_dD (by omega)) (by decide) (q_c1d rfl) ?_
          refine A_eq (ls2 := [some (.ref (q_h G + 0)), some (.int (nI (v1))), some (.int (nI (s_rs v1 i))), some (.int (nI (le))), some (.int (q_d (j - 1)))]) (st2 := []) (pc2 := 0) rfl rfl ?_
          refine A_goto (tgt := 20) hg dX10_leastPlace_54 (by decide) ?_
          exact ih20 i (j - 1) le (by omega) (by omega) (by omega) (by omega) (by omega)
        · skip
          refine A_iload_n hg dX10_leastPlace_35 rfl rfl ?_
          refine A_if_leN (tgt := 51) hg dX10_leastPlace_36 (by omega) (by decide) (fun c36 => ?_) (fun c36 => ?_)
          · skip
            refine A_iinc (v := (q_d (j - 1))) hg dX10_leastPlace_51 rfl (q_dD (by omega)) (by decide) (q_c1d rfl) ?_
            refine A_eq (ls2 := [some (.ref (q_h G + 0)), some (.int (nI (v1))), some (.int (nI (s_rs v1 i))), some (.int (nI (le))), some (.int (q_d (j - 1)))]) (st2 := []) (pc2 := 0) rfl rfl ?_
            refine A_goto (tgt := 20) hg dX10_leastPlace_54 (by decide) ?_
            exact ih20 i (j - 1) le (by omega) (by omega) (by omega) (by omega) (by omega)
          · skip
            obtain ⟨hgi, hgf, hrn, hrl⟩ := x_sm_step hj1 hlt (show s_fb (j - 1) ≤ s_rs v1 i by omega)
            refine A_iload hg dX10_leastPlace_39 rfl ?_
            refine A_top (w := .int (nI (j - 1))) (congrArg Value.int (q_dP hj1)) ?_
            refine A_istore_n hg dX10_leastPlace_41 rfl (by decide) (q_c1d rfl) ?_
            refine A_eq (ls2 := [some (.ref (q_h G + 0)), some (.int (nI (v1))), some (.int (nI (s_rs v1 i))), some (.int (nI (j - 1))), some (.int (q_d (j)))]) (st2 := []) (pc2 := 0) rfl rfl ?_
            refine A_iload_n hg dX10_leastPlace_42 rfl rfl ?_
            refine A_gets hg hSZ (q_mt 1168 (by decide +kernel)) dX10_leastPlace_43 ?_
            refine A_iload hg dX10_leastPlace_46 rfl ?_
            refine A_top (w := .int (nI (j - 1))) (congrArg Value.int (q_dP hj1)) ?_
            refine A_ialdO hg hST (j := (j - 1)) (by omega) (by decide) rfl dX10_leastPlace_48 ?_
            refine A_isubN hg dX10_leastPlace_49 (by omega) ?_
            refine A_top (w := .int (nI (s_rs v1 (i + 1)))) (by rw [hrn]) ?_
            refine A_istore_n hg dX10_leastPlace_50 rfl (by decide) (q_c1d rfl) ?_
            refine A_eq (ls2 := [some (.ref (q_h G + 0)), some (.int (nI (v1))), some (.int (nI (s_rs v1 (i + 1)))), some (.int (nI (j - 1))), some (.int (q_d (j)))]) (st2 := []) (pc2 := 0) rfl rfl ?_
            refine A_iinc (v := (q_d (j - 1))) hg dX10_leastPlace_51 rfl (q_dD (by omega)) (by decide) (q_c1d rfl) ?_
            refine A_eq (ls2 := [some (.ref (q_h G + 0)), some (.int (nI (v1))), some (.int (nI (s_rs v1 (i + 1)))), some (.int (nI (j - 1))), some (.int (q_d (j - 1)))]) (st2 := []) (pc2 := 0) rfl rfl ?_
            refine A_goto (tgt := 20) hg dX10_leastPlace_54 (by decide) ?_
            exact ih20 (i + 1) (j - 1) (j - 1) (by omega) hrl (lt_s hno (by omega)) (Or.inr ⟨Nat.succ_pos _, by rw [Nat.add_sub_cancel, hgi]⟩) (by omega)
  exact hL20 _ 0 42 0 (Nat.le_refl _) (by rw [x_fb_42]; show v1 < _; omega) (fun q h => absurd h (Nat.not_lt_zero q)) (Or.inl ⟨rfl, rfl⟩) (Nat.lt_succ_self _)
end
