section
set_option maxRecDepth 100000 in
set_option maxHeartbeats 4000000 in
theorem c_X10_rootOf (G : GL) (ex : Bool) (n : Nat) (σ : Nat → va_E) (v : Nat)  (hv : v < 2 ^ 63) : Ct G yX10_rootOf cX10_rootOf 7 (some .long) ⟨0, 0, 0, 0⟩ [.long (lN (v))] ex n σ (fun v9 σ2 => σ2 = σ ∧ v9 = some (.long (lN (s_rt v)))) := by
  refine q_enter [some (.long (lN (v))), none, none, none, none, none, none] (by decide) (Nat.le_of_ble_eq_true rfl) rfl ?_
  intro K hg
  obtain ⟨Q, hQ⟩ : ∃ Q, Q = q_Q G K ex n 0 0 (fun v9 n' σ' => n' = n ∧ (fun v9 σ2 => σ2 = σ ∧ v9 = some (.long (lN (s_rt v)))) v9 σ') q_noX := ⟨_, rfl⟩
  refine (?_ : AJ G K (q_Q G K ex n 0 0 _ _) 0 0 ex n 0 _ _ σ)
  rw [← hQ]
  refine A_lconst (v := (lN (0))) hg dX10_rootOf_0 (by decide) ?_
  refine A_lstore_n hg dX10_rootOf_1 rfl (by decide) (q_c1d rfl) (by simp) ?_
  refine A_eq (ls2 := [some (.long (lN (v))), none, some (.long (lN (0))), none, none, none, none]) (st2 := []) (pc2 := 0) rfl rfl ?_
  refine A_bipush (v := (nI (31))) hg dX10_rootOf_2 (by decide) ?_
  refine A_eq (ls2 := [some (.long (lN (v))), none, some (.long (lN (0))), none, none, none, none]) (st2 := [.int (q_d 32)]) (pc2 := 0) rfl rfl ?_
  refine A_istore hg dX10_rootOf_4 (by decide) (q_c1d rfl) ?_
  refine A_eq (ls2 := [some (.long (lN (v))), none, some (.long (lN (0))), none, some (.int (q_d (32))), none, none]) (st2 := []) (pc2 := 0) rfl rfl ?_
  have hL6 : ∀ (fu : Nat) (r : Nat) (j : Nat), (r + 2 ^ j ≤ 2 ^ 32) → (j ≤ 32) → (s_rtb v r j = s_rt v) → j < fu → AJ G K Q 0 0 ex n 6 [some (.long (lN (v))), none, some (.long (lN (r))), none, some (.int (q_d (j))), none, none] [] σ := by
    intro fu
    induction fu with
    | zero => intro r j hr2 hj hpu hm; exact absurd hm (Nat.not_lt_zero _)
    | succ fu ih6 =>
      intro r j hr2 hj hpu hm6
      refine A_iload hg dX10_rootOf_6 rfl ?_
      refine A_if_ltM (tgt := 47) hg dX10_rootOf_8 (by omega) (by decide) (fun c8 => ?_) (fun c8 => ?_)
      · skip
        refine A_lload_n hg dX10_rootOf_47 rfl rfl ?_
        rw [hQ]
        exact A_lreturn hg (by decide) (by decide) rfl dX10_rootOf_48 ⟨rfl, ⟨rfl, (congrArg (fun z => some (Value.long (lN z))) (show r = s_rt v from by rw [← hpu, c8]; rfl))⟩⟩
      · skip
        have hj1 : 1 ≤ j := by omega
        have hpw := s_pw hj1
        have hp0 : 0 < 2 ^ (j - 1) := Nat.two_pow_pos _
        have hp1 : 2 ^ (j - 1) < 2 ^ 32 := by omega
        refine A_lload_n hg dX10_rootOf_11 rfl rfl ?_
        refine A_lconst (v := (lN (1))) hg dX10_rootOf_12 (by decide) ?_
        refine A_iload hg dX10_rootOf_13 rfl ?_
        refine A_top (w := .int (nI (j - 1))) (congrArg Value.int (q_dP hj1)) ?_
        refine A_lshl (v := lN (2 ^ (j - 1))) hg dX10_rootOf_15 (lP_shl1 (by omega)) ?_
        refine A_laddP hg dX10_rootOf_16 ?_
        refine A_lstore hg dX10_rootOf_17 (by decide) (q_c1d rfl) (by simp) ?_
        refine A_eq (ls2 := [some (.long (lN (v))), none, some (.long (lN (r))), none, some (.int (q_d (j))), some (.long (lN (r + (2 ^ (j - 1))))), none]) (st2 := []) (pc2 := 0) rfl rfl ?_
        refine A_lload hg dX10_rootOf_19 rfl ?_
        refine A_ldc2 (v := (lN (3037000499))) hg dX10_rootOf_21 (q_mt 1134 (by decide +kernel)) ?_
        refine A_lcmp hg dX10_rootOf_24 ?_
        refine A_lc_gt (tgt := 41) hg dX10_rootOf_25 (by omega) (by decide) (by decide) (fun c25 => ?_) (fun c25 => ?_)
        · skip
          refine A_iinc (v := (q_d (j - 1))) hg dX10_rootOf_41 rfl (q_dD (by omega)) (by decide) (q_c1d rfl) ?_
          refine A_eq (ls2 := [some (.long (lN (v))), none, some (.long (lN (r))), none, some (.int (q_d (j - 1))), some (.long (lN (r + (2 ^ (j - 1))))), none]) (st2 := []) (pc2 := 0) rfl rfl ?_
          refine A_goto (tgt := 6) hg dX10_rootOf_44 (by decide) ?_
          refine A_drop 5 ?_
          exact ih6 r (j - 1) (by omega) (by omega) ((s_rtb_f (by omega) (by first | exact x_rt_big c25 hv | omega)).symm.trans hpu) (by omega)
        · skip
          have hcc : (r + 2 ^ (j - 1)) * (r + 2 ^ (j - 1)) < 2 ^ 63 := Nat.lt_of_le_of_lt (Nat.mul_le_mul (show r + 2 ^ (j - 1) ≤ 3037000499 by omega) (show r + 2 ^ (j - 1) ≤ 3037000499 by omega)) (by decide)
          refine A_lload hg dX10_rootOf_28 rfl ?_
          refine A_lload hg dX10_rootOf_30 rfl ?_
          refine A_lmulP hg dX10_rootOf_32 ?_
          refine A_lload_n hg dX10_rootOf_33 rfl rfl ?_
          refine A_lcmp hg dX10_rootOf_34 ?_
          refine A_lc_gt (tgt := 41) hg dX10_rootOf_35 (by omega) (by omega) (by decide) (fun c35 => ?_) (fun c35 => ?_)
          · skip
            refine A_iinc (v := (q_d (j - 1))) hg dX10_rootOf_41 rfl (q_dD (by omega)) (by decide) (q_c1d rfl) ?_
            refine A_eq (ls2 := [some (.long (lN (v))), none, some (.long (lN (r))), none, some (.int (q_d (j - 1))), some (.long (lN (r + (2 ^ (j - 1))))), none]) (st2 := []) (pc2 := 0) rfl rfl ?_
            refine A_goto (tgt := 6) hg dX10_rootOf_44 (by decide) ?_
            refine A_drop 5 ?_
            exact ih6 r (j - 1) (by omega) (by omega) ((s_rtb_f (by omega) (by first | exact x_rt_big c25 hv | omega)).symm.trans hpu) (by omega)
          · skip
            refine A_lload hg dX10_rootOf_38 rfl ?_
            refine A_lstore_n hg dX10_rootOf_40 rfl (by decide) (q_c1d rfl) (by simp) ?_
            refine A_eq (ls2 := [some (.long (lN (v))), none, some (.long (lN (r + (2 ^ (j - 1))))), none, some (.int (q_d (j))), some (.long (lN (r + (2 ^ (j - 1))))), none]) (st2 := []) (pc2 := 0) rfl rfl ?_
            refine A_iinc (v := (q_d (j - 1))) hg dX10_rootOf_41 rfl (q_dD (by omega)) (by decide) (q_c1d rfl) ?_
            refine A_eq (ls2 := [some (.long (lN (v))), none, some (.long (lN (r + (2 ^ (j - 1))))), none, some (.int (q_d (j - 1))), some (.long (lN (r + (2 ^ (j - 1))))), none]) (st2 := []) (pc2 := 0) rfl rfl ?_
            refine A_goto (tgt := 6) hg dX10_rootOf_44 (by decide) ?_
            refine A_drop 5 ?_
            exact ih6 (r + (2 ^ (j - 1))) (j - 1) (by omega) (by omega) ((s_rtb_t (by omega) (by omega)).symm.trans hpu) (by omega)
  exact hL6 _ 0 32 (by decide) (Nat.le_refl _) rfl (Nat.lt_succ_self _)
set_option maxRecDepth 100000 in
set_option maxHeartbeats 4000000 in
theorem c_X10_goldenNumber (G : GL) (ex : Bool) (n : Nat) (σ : Nat → va_E) (s : Nat) (m : Nat) (b : Bool)  (hs5 : s ≤ 5) (hm9 : m ≤ 500000000) : Ct G yX10_goldenNumber cX10_goldenNumber 8 (some .long) ⟨1, 0, 0, 26⟩ [.int (nI (s)), .long (lN (m)), .int (q_b (b))] ex n σ (fun v9 σ2 => σ2 = σ ∧ v9 = some (.long (lN (s_gX s b m)))) := by
  refine q_enter [some (.int (nI (s))), some (.long (lN (m))), none, some (.int (q_b (b))), none, none, none, none] (by decide) (Nat.le_of_ble_eq_true rfl) rfl ?_
  intro K hg
  obtain ⟨Q, hQ⟩ : ∃ Q, Q = q_Q G K ex n 0 0 (fun v9 n' σ' => n' = n ∧ (fun v9 σ2 => σ2 = σ ∧ v9 = some (.long (lN (s_gX s b m)))) v9 σ') q_noX := ⟨_, rfl⟩
  refine (?_ : AJ G K (q_Q G K ex n 0 0 _ _) 0 0 ex n 0 _ _ σ)
  rw [← hQ]
  have hle := s_gn_le hs5 hm9
  have hgd := s_gd_lt hs5 hm9
  have hrl := s_rt_lt (Nat.lt_of_lt_of_le hgd (by decide : 2 ^ 63 ≤ 2 ^ 64))
  have hss : s * s ≤ 25 := Nat.mul_le_mul hs5 hs5
  refine A_iload_n hg dX10_goldenNumber_0 rfl rfl ?_
  refine A_iload_n hg dX10_goldenNumber_1 rfl rfl ?_
  refine A_imulN hg dX10_goldenNumber_2 ?_
  refine A_iconst (v := (nI (4))) hg dX10_goldenNumber_3 (by decide) ?_
  refine A_iaddN hg dX10_goldenNumber_4 ?_
  refine A_i2lP hg dX10_goldenNumber_5 (by omega) ?_
  refine A_lload_n hg dX10_goldenNumber_6 rfl rfl ?_
  refine A_lmulP hg dX10_goldenNumber_7 ?_
  refine A_lload_n hg dX10_goldenNumber_8 rfl rfl ?_
  refine A_lmulP hg dX10_goldenNumber_9 ?_
  refine A_top (w := .long (lN (s_gd s m))) (congrArg (fun z => Value.long (lN z)) (x_gd_e s m)) ?_
  refine A_eS (kc2 := 0) (ks2 := 0) (As := [.long (lN (s_gd s m))]) (rest := []) hg lk_RX10_475 st_X10_rootOf dX10_goldenNumber_10 ⟨by decide, by decide⟩ rfl rfl ⟨by decide, by decide⟩ rfl rfl (Nat.le_of_ble_eq_true rfl) (c_X10_rootOf G ex n σ (s_gd s m) hgd) ?_
  refine A_lstore hg dX10_goldenNumber_13 (by decide) (q_c1d rfl) (by simp) ?_
  refine A_eq (ls2 := [some (.int (nI (s))), some (.long (lN (m))), none, some (.int (q_b (b))), some (.long (lN (s_rt (s_gd s m)))), none, none, none]) (st2 := []) (pc2 := 0) rfl rfl ?_
  refine A_iconst (v := (nI (2))) hg dX10_goldenNumber_15 (by decide) ?_
  refine A_iload_n hg dX10_goldenNumber_16 rfl rfl ?_
  refine A_isub hg dX10_goldenNumber_17 ?_
  refine A_i2l (v := ((nI (2)) - (nI (s))).toInt64) hg dX10_goldenNumber_18 rfl ?_
  refine A_lload_n hg dX10_goldenNumber_19 rfl rfl ?_
  refine A_lmul hg dX10_goldenNumber_20 ?_
  refine A_lload hg dX10_goldenNumber_21 rfl ?_
  refine A_ladd hg dX10_goldenNumber_23 ?_
  refine A_top (w := .long (lN (2 * m + s_rt (s_gd s m) - s * m))) (congrArg Value.long (x_gA_sum hle hs5)) ?_
  refine A_ldc2 (v := (lN (2))) hg dX10_goldenNumber_24 (q_mt 1135 (by decide +kernel)) ?_
  refine A_ldivP hg dX10_goldenNumber_27 (by omega) (by decide) (by decide) ?_
  refine A_top (w := .long (lN (s_gA s m))) rfl ?_
  refine A_lstore hg dX10_goldenNumber_28 (by decide) (q_c1d rfl) (by simp) ?_
  refine A_eq (ls2 := [some (.int (nI (s))), some (.long (lN (m))), none, some (.int (q_b (b))), some (.long (lN (s_rt (s_gd s m)))), none, some (.long (lN (s_gA s m))), none]) (st2 := []) (pc2 := 0) rfl rfl ?_
  refine A_iload_n hg dX10_goldenNumber_30 rfl rfl ?_
  refine A_if_eqB (tgt := 44) hg dX10_goldenNumber_31 (by decide) (fun c31 => ?_) (fun c31 => ?_)
  · skip
    refine A_lload hg dX10_goldenNumber_44 rfl ?_
    rw [hQ]
    exact A_lreturn hg (by decide) (by decide) rfl dX10_goldenNumber_46 ⟨rfl, ⟨rfl, (by rw [c31, s_gX_f])⟩⟩
  · skip
    refine A_lload hg dX10_goldenNumber_34 rfl ?_
    refine A_iload_n hg dX10_goldenNumber_36 rfl rfl ?_
    refine A_i2lP hg dX10_goldenNumber_37 (by omega) ?_
    refine A_lload_n hg dX10_goldenNumber_38 rfl rfl ?_
    refine A_lmulP hg dX10_goldenNumber_39 ?_
    refine A_laddP hg dX10_goldenNumber_40 ?_
    refine A_goto (tgt := 46) hg dX10_goldenNumber_41 (by decide) ?_
    rw [hQ]
    exact A_lreturn hg (by decide) (by decide) rfl dX10_goldenNumber_46 ⟨rfl, ⟨rfl, (by rw [c31, s_gX_t]; rfl)⟩⟩
set_option maxRecDepth 100000 in
set_option maxHeartbeats 4000000 in
theorem c_X10_firstReaching (G : GL) (ex : Bool) (n : Nat) (σ : Nat → va_E) (s : Nat) (v : Nat) (b : Bool)  (hs5 : s ≤ 5) (hv1 : 1 ≤ v) (hv9 : v ≤ 500000001) : Ct G yX10_firstReaching cX10_firstReaching 10 (some .long) ⟨2, 0, 0, 53⟩ [.int (nI (s)), .int (nI (v)), .int (q_b (b))] ex n σ (fun v9 σ2 => σ2 = σ ∧ v9 = some (.long (lN (s_li s b (v - 1) + 1)))) := by
  refine q_enter [some (.int (nI (s))), some (.int (nI (v))), some (.int (q_b (b))), none, none, none, none, none, none, none] (by decide) (Nat.le_of_ble_eq_true rfl) rfl ?_
  intro K hg
  obtain ⟨Q, hQ⟩ : ∃ Q, Q = q_Q G K ex n 0 0 (fun v9 n' σ' => n' = n ∧ (fun v9 σ2 => σ2 = σ ∧ v9 = some (.long (lN (s_li s b (v - 1) + 1)))) v9 σ') q_noX := ⟨_, rfl⟩
  refine (?_ : AJ G K (q_Q G K ex n 0 0 _ _) 0 0 ex n 0 _ _ σ)
  rw [← hQ]
  refine A_lconst (v := (lN (0))) hg dX10_firstReaching_0 (by decide) ?_
  refine A_lstore_n hg dX10_firstReaching_1 rfl (by decide) (q_c1d rfl) (by first | exact Or.inl rfl | exact Or.inr rfl) ?_
  refine A_eq (ls2 := [some (.int (nI (s))), some (.int (nI (v))), some (.int (q_b (b))), some (.long (lN (0))), none, none, none, none, none, none]) (st2 := []) (pc2 := 0) rfl rfl ?_
  refine A_iload_n hg dX10_firstReaching_2 rfl rfl ?_
  refine A_i2lP hg dX10_firstReaching_3 (by omega) ?_
  refine A_lstore hg dX10_firstReaching_4 (by decide) (q_c1d rfl) (by simp) ?_
  refine A_eq (ls2 := [some (.int (nI (s))), some (.int (nI (v))), some (.int (q_b (b))), some (.long (lN (0))), none, some (.long (lN (v))), none, none, none, none]) (st2 := []) (pc2 := 0) rfl rfl ?_
  refine A_iconst (v := (nI (0))) hg dX10_firstReaching_6 (by decide) ?_
  refine A_istore hg dX10_firstReaching_7 (by decide) (q_c1d rfl) ?_
  refine A_eq (ls2 := [some (.int (nI (s))), some (.int (nI (v))), some (.int (q_b (b))), some (.long (lN (0))), none, some (.long (lN (v))), none, some (.int (nI (0))), none, none]) (st2 := []) (pc2 := 0) rfl rfl ?_
  have hL9 : ∀ (fu : Nat) (h : Nat) (lo : Nat) (hi : Nat), (lo < hi ∧ hi ≤ v) → (h ≤ 32) → (hi - lo ≤ 2 ^ (32 - h)) → (s_gX s b lo ≤ v - 1) → (∀ k : Nat, hi ≤ k → k ≤ v - 1 → v - 1 < s_gX s b k) → (32 - h) < fu → AJ G K Q 0 0 ex n 9 [some (.int (nI (s))), some (.int (nI (v))), some (.int (q_b (b))), some (.long (lN (lo))), none, some (.long (lN (hi))), none, some (.int (nI (h))), none, none] [] σ := by
    intro fu
    induction fu with
    | zero => intro h lo hi hlh hh hp hgl hgu hm; exact absurd hm (Nat.not_lt_zero _)
    | succ fu ih9 =>
      intro h lo hi hlh hh hp hgl hgu hm9
      refine A_iload hg dX10_firstReaching_9 rfl ?_
      refine A_bipush (v := (nI (32))) hg dX10_firstReaching_11 (by decide) ?_
      refine A_icmp_geN (tgt := 64) hg dX10_firstReaching_13 (by omega) (by decide) (by decide) (fun c13 => ?_) (fun c13 => ?_)
      · skip
        refine A_lload hg dX10_firstReaching_64 rfl ?_
        have hend : hi = lo + 1 := by
          first
          | omega
          | (have he : h = 32 := by omega
             subst he
             have hp2 : hi - lo ≤ 1 := hp
             omega)
        rw [hQ]
        exact A_lreturn hg (by decide) (by decide) rfl dX10_firstReaching_66 ⟨rfl, ⟨rfl, (by rw [s_li_eq hs5 (show v - 1 ≤ 500000000 by omega) (show lo ≤ v - 1 by omega) hgl (fun k z1 z2 => hgu k (by omega) z2), hend])⟩⟩
      · skip
        have hpw : 2 ^ (32 - h) = 2 * 2 ^ (32 - (h + 1)) := by rw [show 32 - h = 32 - (h + 1) + 1 by omega, Nat.pow_succ, Nat.mul_comm]
        refine A_lload hg dX10_firstReaching_16 rfl ?_
        refine A_lload_n hg dX10_firstReaching_18 rfl rfl ?_
        refine A_lsubP hg dX10_firstReaching_19 (by omega) ?_
        refine A_lconst (v := (lN (1))) hg dX10_firstReaching_20 (by decide) ?_
        refine A_lcmp hg dX10_firstReaching_21 ?_
        refine A_lc_le (tgt := 64) hg dX10_firstReaching_22 (by omega) (by decide) (by decide) (fun c22 => ?_) (fun c22 => ?_)
        · skip
          refine A_lload hg dX10_firstReaching_64 rfl ?_
          have hend : hi = lo + 1 := by
            first
            | omega
            | (have he : h = 32 := by omega
               subst he
               have hp2 : hi - lo ≤ 1 := hp
               omega)
          rw [hQ]
          exact A_lreturn hg (by decide) (by decide) rfl dX10_firstReaching_66 ⟨rfl, ⟨rfl, (by rw [s_li_eq hs5 (show v - 1 ≤ 500000000 by omega) (show lo ≤ v - 1 by omega) hgl (fun k z1 z2 => hgu k (by omega) z2), hend])⟩⟩
        · skip
          refine A_lload_n hg dX10_firstReaching_25 rfl rfl ?_
          refine A_lload hg dX10_firstReaching_26 rfl ?_
          refine A_laddP hg dX10_firstReaching_28 ?_
          refine A_ldc2 (v := (lN (2))) hg dX10_firstReaching_29 (q_mt 1135 (by decide +kernel)) ?_
          refine A_ldivP hg dX10_firstReaching_32 (by omega) (by decide) (by decide) ?_
          refine A_lstore hg dX10_firstReaching_33 (by decide) (q_c1d rfl) (by simp) ?_
          refine A_eq (ls2 := [some (.int (nI (s))), some (.int (nI (v))), some (.int (q_b (b))), some (.long (lN (lo))), none, some (.long (lN (hi))), none, some (.int (nI (h))), some (.long (lN ((lo + hi) / 2))), none]) (st2 := []) (pc2 := 0) rfl rfl ?_
          have hmid : lo < (lo + hi) / 2 ∧ (lo + hi) / 2 < hi := ⟨by omega, by omega⟩
          have hmm : (lo + hi) / 2 ≤ 500000000 := by omega
          have hgx := s_gX_lt (b := b) hs5 hmm
          refine A_iload_n hg dX10_firstReaching_35 rfl rfl ?_
          refine A_lload hg dX10_firstReaching_36 rfl ?_
          refine A_iload_n hg dX10_firstReaching_38 rfl rfl ?_
          refine A_eS (kc2 := 0) (ks2 := 0) (As := [.int (nI (s)), .long (lN ((lo + hi) / 2)), .int (q_b (b))]) (rest := []) hg lk_RX10_313 st_X10_goldenNumber dX10_firstReaching_39 ⟨by decide, by decide⟩ rfl rfl ⟨by decide, by decide⟩ rfl rfl (Nat.le_of_ble_eq_true rfl) (c_X10_goldenNumber G ex n σ s ((lo + hi) / 2) b (by omega) hmm) ?_
          refine A_iload_n hg dX10_firstReaching_42 rfl rfl ?_
          refine A_i2lP hg dX10_firstReaching_43 (by omega) ?_
          refine A_lcmp hg dX10_firstReaching_44 ?_
          refine A_lc_lt (tgt := 55) hg dX10_firstReaching_45 (by omega) (by omega) (by decide) (fun c45 => ?_) (fun c45 => ?_)
          · skip
            refine A_lload hg dX10_firstReaching_55 rfl ?_
            refine A_lstore_n hg dX10_firstReaching_57 rfl (by decide) (q_c1d rfl) (by first | exact Or.inl rfl | exact Or.inr rfl) ?_
            refine A_eq (ls2 := [some (.int (nI (s))), some (.int (nI (v))), some (.int (q_b (b))), some (.long (lN ((lo + hi) / 2))), none, some (.long (lN (hi))), none, some (.int (nI (h))), some (.long (lN ((lo + hi) / 2))), none]) (st2 := []) (pc2 := 0) rfl rfl ?_
            refine A_iincN (k' := 1) hg dX10_firstReaching_58 (by decide) rfl (by decide) (q_c1d rfl) ?_
            refine A_eq (ls2 := [some (.int (nI (s))), some (.int (nI (v))), some (.int (q_b (b))), some (.long (lN ((lo + hi) / 2))), none, some (.long (lN (hi))), none, some (.int (nI (h + 1))), some (.long (lN ((lo + hi) / 2))), none]) (st2 := []) (pc2 := 0) rfl rfl ?_
            refine A_goto (tgt := 9) hg dX10_firstReaching_61 (by decide) ?_
            refine A_drop 8 ?_
            exact ih9 (h + 1) ((lo + hi) / 2) hi (by omega) (by omega) (by omega) (by omega) hgu (by omega)
          · skip
            refine A_lload hg dX10_firstReaching_48 rfl ?_
            refine A_lstore hg dX10_firstReaching_50 (by decide) (q_c1d rfl) (by simp) ?_
            refine A_eq (ls2 := [some (.int (nI (s))), some (.int (nI (v))), some (.int (q_b (b))), some (.long (lN (lo))), none, some (.long (lN ((lo + hi) / 2))), none, some (.int (nI (h))), some (.long (lN ((lo + hi) / 2))), none]) (st2 := []) (pc2 := 0) rfl rfl ?_
            refine A_goto (tgt := 58) hg dX10_firstReaching_52 (by decide) ?_
            refine A_iincN (k' := 1) hg dX10_firstReaching_58 (by decide) rfl (by decide) (q_c1d rfl) ?_
            refine A_eq (ls2 := [some (.int (nI (s))), some (.int (nI (v))), some (.int (q_b (b))), some (.long (lN (lo))), none, some (.long (lN ((lo + hi) / 2))), none, some (.int (nI (h + 1))), some (.long (lN ((lo + hi) / 2))), none]) (st2 := []) (pc2 := 0) rfl rfl ?_
            refine A_goto (tgt := 9) hg dX10_firstReaching_61 (by decide) ?_
            refine A_drop 8 ?_
            exact ih9 (h + 1) lo ((lo + hi) / 2) (by omega) (by omega) (by omega) hgl (fun k z1 z2 => by have := s_gX_mono (b := b) hs5 (show (lo + hi) / 2 ≤ k by omega) (by omega); omega) (by omega)
  exact hL9 _ 0 0 v (⟨by omega, Nat.le_refl _⟩) (Nat.zero_le _) (Nat.le_trans (show v - 0 ≤ 4294967296 by omega) (by decide)) (by rw [s_gX_0]; exact Nat.zero_le _) (fun k h1 h2 => absurd h1 (by omega)) (Nat.lt_succ_self _)
end
