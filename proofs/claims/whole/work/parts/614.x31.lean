section
set_option maxRecDepth 100000 in
set_option maxHeartbeats 4000000 in
theorem c_X10_rootOf (G : GL) (ex : Bool) (n : Nat) (σ : Nat → va_E) (v : Nat)  (hv : v < 2 ^ 63) : Ct G yX10_rootOf cX10_rootOf 7 (some .long) ⟨0, 0, 0, 0⟩ [.long (lN (v))] ex n σ (fun v9 σ2 => σ2 = σ ∧ v9 = some (.long (lN (s_rt v)))) := by
  refine q_enter [some (.long (lN (v))), none, none, none, none, none, none] (by decide) (Nat.le_of_ble_eq_true rfl) rfl ?_
  intro K hg
  obtain ⟨Q, hQ⟩ : ∃ Q, Q = q_Q G K ex n 0 0 (fun v9 n' σ' => n' = n ∧ (fun v9 σ2 => σ2 = σ ∧ v9 = some (.long (lN (s_rt v)))) v9 σ') q_noX := ⟨_, rfl⟩
  refine (?_ : AJ G K (q_Q G K ex n 0 0 _ _) 0 0 ex n 0 _ _ σ)
  rw [← hQ]
  refine A_lconst (v := (lN (0))) hg dX10_rootOf_0 (by decide) ?_
  refine A_lstore_n hg dX10_rootOf_1 rfl (by decide) (q_c1d rfl) (by simp) ?_
  refine A_eq (ls2 := [some (.long (lN (v))), none, some (.long (lN (0))), none, none, none, none]) (st2 := []) (pc2 := 0) rfl rfl ?_
  refine A_bipush (v := (nI (31))) hg dX10_rootOf_2 (by decide) ?_
  refine A_eq (ls2 := [some (.long (lN (v))), none, some (.long (lN (0))), none, none, none, none]) (st2 := [.int (q_d 32)]) (pc2 := 0) rfl rfl ?_
  refine A_istore hg dX10_rootOf_4 (by decide) (q_c1d rfl) ?_
  refine A_eq (ls2 := [some (.long (lN (v))), none, some (.long (lN (0))), none, some (.int (q_d (32))), none, none]) (st2 := []) (pc2 := 0) rfl rfl ?_
  have hL6 : ∀ (fu : Nat) (r : Nat) (j : Nat), (r + 2 ^ j ≤ 2 ^ 32) → (j ≤ 32) → (s_rtb v r j = s_rt v) → j < fu → AJ G K Q 0 0 ex n 6 [some (.long (lN (v))), none, some (.long (lN (r))), none, some (.int (q_d (j))), none, none] [] σ := by
    intro fu
    induction fu with
    | zero => intro r j hr2 hj hpu hm; exact absurd hm (Nat.not_lt_zero _)
    | succ fu ih6 =>
      intro r j hr2 hj hpu hm6
      refine A_iload hg dX10_rootOf_6 rfl ?_
      refine A_if_ltM (tgt := 47) hg dX10_rootOf_8 (by omega) (by decide) (fun c8 => ?_) (fun c8 => ?_)
      · skip
        refine A_lload_n hg dX10_rootOf_47 rfl rfl ?_
        rw [hQ]
        exact A_lreturn hg (by decide) (by decide) rfl dX10_rootOf_48 ⟨rfl, ⟨rfl, (congrArg (fun z => some (Value.long (lN z))) (show r = s_rt v from by rw [← hpu, c8]; rfl))⟩⟩
      · skip
        have hj1 : 1 ≤ j := by omega
        have hpw := s_pw hj1
        have hp0 : 0 < 2 ^ (j - 1) := Nat.two_pow_pos _
        have hp1 : 2 ^ (j - 1) < 2 ^ 32 := by omega
        refine A_lload_n hg dX10_rootOf_11 rfl rfl ?_
        refine A_lconst (v := (lN (1))) hg dX10_rootOf_12 (by decide) ?_
        refine A_iload hg dX10_rootOf_13 rfl ?_
        refine A_top (w := .int (nI (j - 1))) (congrArg Value.int (q_dP hj1)) ?_
        refine A_lshl (v := lN (2 ^ (j - 1))) hg dX10_rootOf_15 (lP_shl1 (by omega)) ?_
        refine A_laddP hg dX10_rootOf_16 ?_
        refine A_lstore hg dX10_rootOf_17 (by decide) (q_c1d rfl) (by simp) ?_
        refine A_eq (ls2 := [some (.long (lN (v))), none, some (.long (lN (r))), none, some (.int (q_d (j))), some (.long (lN (r + (2 ^ (j - 1))))), none]) (st2 := []) (pc2 := 0) rfl rfl ?_
        refine A_lload hg dX10_rootOf_19 rfl ?_
        refine A_ldc2 (v := (lN (3037000499))) hg dX10_rootOf_21 (q_mt 1134 (by decide +kernel)) ?_
        refine A_lcmp hg dX10_rootOf_24 ?_
        refine A_lc_gt (tgt := 41) hg dX10_rootOf_25 (by omega) (by decide) (by decide) (fun c25 => ?_) (fun c25 => ?_)
        · skip
          refine A_iinc (v := (q_d (j - 1))) hg dX10_rootOf_41 rfl (q_dD (by omega)) (by decide) (q_c1d rfl) ?_
          refine A_eq (ls2 := [some (.long (lN (v))), none, some (.long (lN (r))), none, some (.int (q_d (j - 1))), some (.long (lN (r + (2 ^ (j - 1))))), none]) (st2 := []) (pc2 := 0) rfl rfl ?_
          refine A_goto (tgt := 6) hg dX10_rootOf_44 (by decide) ?_
          refine A_drop 5 ?_
          exact ih6 r (j - 1) (by omega) (by omega) ((s_rtb_f (by omega) (by first | exact x_rt_big c25 hv | omega)).symm.trans hpu) (by omega)
        · skip
          have hcc : (r + 2 ^ (j - 1)) * (r + 2 ^ (j - 1)) < 2 ^ 63 := Nat.lt_of_le_of_lt (Nat.mul_le_mul (show r + 2 ^ (j - 1) ≤ 3037000499 by omega) (show r + 2 ^ (j - 1) ≤ 3037000499 by omega)) (by decide)
          refine A_lload hg dX10_rootOf_28 rfl ?_
          refine A_lload hg dX10_rootOf_30 rfl ?_
          refine A_lmulP hg dX10_rootOf_32 ?_
          refine A_lload_n hg dX10_rootOf_33 rfl rfl ?_
          refine A_lcmp hg dX10_rootOf_34 ?_
          refine A_lc_gt (tgt := 41) hg dX10_rootOf_35 (by omega) (by omega) (by decide) (fun c35 => ?_) (fun c35 => ?_)
          · skip
            refine A_iinc (v := (q_d (j - 1))) hg dX10_rootOf_41 rfl (q_dD (by omega)) (by decide) (q_c1d rfl) ?_
            refine A_eq (ls2 := [some (.long (lN (v))), none, some (.long (lN (r))), none, some (.int (q_d (j - 1))), some (.long (lN (r + (2 ^ (j - 1))))), none]) (st2 := []) (pc2 := 0) rfl rfl ?_
            refine A_goto (tgt := 6) hg dX10_rootOf_44 (by decide) ?_
            refine A_drop 5 ?_
            exact ih6 r (j - 1) (by omega) (by omega) ((s_rtb_f (by omega) (by first | exact x_rt_big c25 hv | omega)).symm.trans hpu) (by omega)
          · skip
            refine A_lload hg dX10_rootOf_38 rfl ?_
            refine A_lstore_n hg dX10_rootOf_40 rfl (by decide) (q_c1d rfl) (by simp) ?_
            refine A_eq (ls2 := [some (.long (lN (v))), none, some (.long (lN (r + (2 ^ (j - 1))))), none, some (.int (q_d (j))), some (.long (lN (r + (2 ^ (j - 1))))), none]) (st2 := []) (pc2 := 0) rfl rfl ?_
            refine A_iinc (v := (q_d (j - 1))) hg dX10_rootOf_41 rfl (q_dD (by omega)) (by decide) (q_c1d rfl) ?_
            refine A_eq (ls2 := [some (.long (lN (v))), none, some (.long (lN (r + (2 ^ (j - 1))))), none, some (.int (q_d (j - 1))), some (.long (lN (r + (2 ^ (j - 1))))), none]) (st2 := []) (pc2 := 0) rfl rfl ?_
            refine A_goto (tgt := 6) hg dX10_rootOf_44 (by decide) ?_
            refine A_drop 5 ?_
            exact ih6 (r + (2 ^ (j - 1))) (j - 1) (by omega) (by omega) ((s_rtb_t (by omega) (by omega)).symm.trans hpu) (by omega)
  exact hL6 _ 0 32 (by decide) (Nat.le_refl _) rfl (Nat.lt_succ_self _)
set_option maxRecDepth 100000 in
set_option maxHeartbeats 4000000 in
theorem c_X10_goldenNumber (G : GL) (ex : Bool) (n : Nat) (σ : Nat → va_E) (s : Nat) (m : Nat) (b : Bool)  (hs5 : s ≤ 5) (hm9 : m ≤ 500000000) : Ct G yX10_goldenNumber cX10_goldenNumber 8 (some .long) ⟨1, 0, 0, 26⟩ [.int (nI (s)), .long (lN (m)), .int (q_b (b))] ex n σ (fun v9 σ2 => σ2 = σ ∧ v9 = some (.long (lN (s_gX s b m)))) := by
  refine q_enter [some (.int (nI (s))), some (.long (lN (m))), none, some (.int (q_b (b))), none, none, none, none] (by decide) (Nat.le_of_ble_eq_true rfl) rfl ?_
  intro K hg
  obtain ⟨Q, hQ⟩ : ∃ Q, Q = q_Q G K ex n 0 0 (fun v9 n' σ' => n' = n ∧ (fun v9 σ2 => σ2 = σ ∧ v9 = some (.long (lN (s_gX s b m)))) v9 σ') q_noX := ⟨_, rfl⟩
  refine (?_ : AJ G K (q_Q G K ex n 0 0 _ _) 0 0 ex n 0 _ _ σ)
  rw [← hQ]
  have hle := s_gn_le hs5 hm9
  have hgd := s_gd_lt hs5 hm9
  have hrl := s_rt_lt (Nat.lt_of_lt_of_le hgd (by decide : 2 ^ 63 ≤ 2 ^ 64))
  have hss : s * s ≤ 25 := Nat.mul_le_mul hs5 hs5
  refine A_iload_n hg dX10_goldenNumber_0 rfl rfl ?_
  refine A_iload_n hg dX10_goldenNumber_1 rfl rfl ?_
  refine A_imulN hg dX10_goldenNumber_2 ?_
  refine A_iconst (v := (nI (4))) hg dX10_goldenNumber_3 (by decide) ?_
  refine A_iaddN hg dX10_goldenNumber_4 ?_
  refine A_i2lP hg dX10_goldenNumber_5 (by omega) ?_
  refine A_lload_n hg dX10_goldenNumber_6 rfl rfl ?_
  refine A_lmulP hg dX10_goldenNumber_7 ?_
  refine A_lload_n hg dX10_goldenNumber_8 rfl rfl ?_
  refine A_lmulP hg dX10_goldenNumber_9 ?_
  refine A_top (w := .long (lN (s_gd s m))) (congrArg (fun z => Value.long (lN z)) (x_gd_e s m)) ?_
  refine A_eS (kc2 := 0) (ks2 := 0) (As := [.long (lN (s_gd s m))]) (rest := []) hg lk_RX10_475 st_X10_rootOf dX10_goldenNumber_10 ⟨by decide, by decide⟩ rfl rfl ⟨by decide, by decide⟩ rfl rfl (Nat.le_of_ble_eq_true rfl) (c_X10_rootOf G ex n σ (s_gd s m) hgd) ?_
  refine A_lstore hg dX10_goldenNumber_13 (by decide) (q_c1d rfl) (by simp) ?_
  refine A_eq (ls2 := [some (.int (nI (s))), some (.long (lN (m))), none, some (.int (q_b (b))), some (.long (lN (s_rt (s_gd s m)))), none, none, none]) (st2 := []) (pc2 := 0) rfl rfl ?_
  refine A_iconst (v := (nI (2))) hg dX10_goldenNumber_15 (by decide) ?_
  refine A_iload_n hg dX10_goldenNumber_16 rfl rfl ?_
  refine A_isub hg dX10_goldenNumber_17 ?_
  refine A_i2l (v := ((nI (2)) - (nI (s))).toInt64) hg dX10_goldenNumber_18 rfl ?_
  refine A_lload_n hg dX10_goldenNumber_19 rfl rfl ?_
  refine A_lmul hg dX10_goldenNumber_20 ?_
  refine A_lload hg dX10_goldenNumber_21 rfl ?_
  refine A_ladd hg dX10_goldenNumber_23 ?_
  refine A_top (w := .long (lN (2 * m + s_rt (s_gd s m) - s * m))) (congrArg Value.long (x_gA_sum hle hs5)) ?_
  refine A_ldc2 (v := (lN (2))) hg dX10_goldenNumber_24 (q_mt 1135 (by decide +kernel)) ?_
  refine A_ldivP hg dX10_goldenNumber_27 (by omega) (by decide) (by decide) ?_
  refine A_top (w := .long (lN (s_gA s m))) rfl ?_
  refine A_lstore hg dX10_goldenNumber_28 (by decide) (q_c1d rfl) (by simp) ?_
  refine A_eq (ls2 := [some (.int (nI (s))), some (.long (lN (m))), none, some (.int (q_b (b))), some (.long (lN (s_rt (s_gd s m)))), none, some (.long (lN (s_gA s m))), none]) (st2 := []) (pc2 := 0) rfl rfl ?_
  refine A_iload_n hg dX10_goldenNumber_30 rfl rfl ?_
  refine A_if_eqB (tgt := 44) hg dX10_goldenNumber_31 (by decide) (fun c31 => ?_) (fun c31 => ?_)
  · skip
    refine A_lload hg dX10_goldenNumber_44 rfl ?_
    rw [hQ]
    exact A_lreturn hg (by decide) (by decide) rfl dX10_goldenNumber_46 ⟨rfl, ⟨rfl, (by rw [c31, s_gX_f])⟩⟩
  · skip
    refine A_lload hg dX10_goldenNumber_34 rfl ?_
    refine A_iload_n hg dX10_goldenNumber_36 rfl rfl ?_
    refine A_i2lP hg dX10_goldenNumber_37 (by omega) ?_
    refine A_lload_n hg dX10_goldenNumber_38 rfl rfl ?_
    refine A_lmulP hg dX10_goldenNumber_39 ?_
    refine A_laddP hg dX10_goldenNumber_40 ?_
    refine A_goto (tgt := 46) hg dX10_goldenNumber_41 (by decide) ?_
    rw [hQ]
    exact A_lreturn hg (by decide) (by decide) rfl dX10_goldenNumber_46 ⟨rfl, ⟨rfl, (by rw [c31, s_gX_t]; rfl)⟩⟩
set_option maxRecDepth 100000 in
set_option maxHeartbeats 4000000 in
theorem c_X10_firstReaching (G : GL) (ex : Bool) (n : Nat) (σ : Nat → va_E) (s : Nat) (v : Nat) (b : Bool)  (hs5 : s ≤ 5) (hv1 : 1 ≤ v) (hv9 : v ≤ 500000001) : Ct G yX10_firstReaching cX10_firstReaching 10 (some .long) ⟨2, 0, 0, 53⟩ [.int (nI (s)), .int (nI (v)), .int (q_b (b))] ex n σ (fun v9 σ2 => σ2 = σ ∧ v9 = some (.long (lN (s_li s b (v - 1) + 1)))) := by
  refine q_enter [some (.int (nI (s))), some (.int (nI (v))), some (.int (q_b (b))), none, none, none, none, none, none, none] (by decide) (Nat.le_of_ble_eq_true rfl) rfl ?_
  intro K hg
  obtain ⟨Q, hQ⟩ : ∃ Q, Q = q_Q G K ex n 0 0 (fun v9 n' σ' => n' = n ∧ (fun v9 σ2 => σ2 = σ ∧ v9 = some (.long (lN (s_li s b (v - 1) + 1)))) v9 σ') q_noX := ⟨_, rfl⟩
  refine (?_ : AJ G K (q_Q G K ex n 0 0 _ _) 0 0 ex n 0 _ _ σ)
  rw [← hQ]
  refine A_lconst (v := (lN (0))) hg dX10_firstReaching_0 (by decide) ?_
  refine A_lstore_n hg dX10_firstReaching_1 rfl (by decide) (q_c1d rfl) (by first | exact Or.inl rfl | exact Or.inr rfl) ?_
  refine A_eq (ls2 := [some (.int (nI (s))), some (.int (nI (v))), some (.int (q_b (b))), some (.long (lN (0))), none, none, none, none, none, none]) (st2 := []) (pc2 := 0) rfl rfl ?_
  refine A_iload_n hg dX10_firstReaching_2 rfl rfl ?_
  refine A_i2lP hg dX10_firstReaching_3 (by omega) ?_
  refine A_lstore hg dX10_firstReaching_4 (by decide) (q_c1d rfl) (by simp) ?_
  refine A_eq (ls2 := [some (.int (nI (s))), some (.int (nI (v))), some (.int (q_b (b))), some (.long (lN (0))), none, some (.long (lN (v))), none, none, none, none]) (st2 := []) (pc2 := 0) rfl rfl ?_
  refine A_iconst (v := (nI (0))) hg dX10_firstReaching_6 (by decide) ?_
  refine A_istore hg dX10_firstReaching_7 (by decide) (q_c1d rfl) ?_
  refine A_eq (ls2 := [some (.int (nI (s))), some (.int (nI (v))), some (.int (q_b (b))), some (.long (lN (0))), none, some (.long (lN (v))), none, some (.int (nI (0))), none, none]) (st2 := []) (pc2 := 0) rfl rfl ?_
  have hL9 : ∀ (fu : Nat) (h : Nat) (lo : Nat) (hi : Nat), (lo < hi ∧ hi ≤ v) → (h ≤ 32) → (hi - lo ≤ 2 ^ (32 - h)) → (s_gX s b lo ≤ v - 1) → (∀ k : Nat, hi ≤ k → k ≤ v - 1 → v - 1 < s_gX s b k) → (32 - h) < fu → AJ G K Q 0 0 ex n 9 [some (.int (nI (s))), some (.int (nI (v))), some (.int (q_b (b))), some (.long (lN (lo))), none, some (.long (lN (hi))), none, some (.int (nI (h))), none, none] [] σ := by
    intro fu
    induction fu with
    | zero => intro h lo hi hlh hh hp hgl hgu hm; exact absurd hm (Nat.not_lt_zero _)
    | succ fu ih9 =>
      intro h lo hi hlh hh hp hgl hgu hm9
      refine A_iload hg dX10_firstReaching_9 rfl ?_
      refine A_bipush (v := (nI (32))) hg dX10_firstReaching_11 (by decide) ?_
      refine A_icmp_geN (tgt := 64) hg dX10_firstReaching_13 (by omega) (by decide) (by decide) (fun c13 => ?_) (fun c13 => ?_)
      · skip
        refine A_lload hg dX10_firstReaching_64 rfl ?_
        have hend : hi = lo + 1 := by
          first
          | omega
          | (have he : h = 32 := by omega
             subst he
             have hp2 : hi - lo ≤ 1 := hp
             omega)
        rw [hQ]
        exact A_lreturn hg (by decide) (by decide) rfl dX10_firstReaching_66 ⟨rfl, ⟨rfl, (by rw [s_li_eq hs5 (show v - 1 ≤ 500000000 by omega) (show lo ≤ v - 1 by omega) hgl (fun k z1 z2 => hgu k (by omega) z2), hend])⟩⟩
      · skip
        have hpw : 2 ^ (32 - h) = 2 * 2 ^ (32 - (h + 1)) := by rw [show 32 - h = 32 - (h + 1) + 1 by omega, Nat.pow_succ, Nat.mul_comm]
        refine A_lload hg dX10_firstReaching_16 rfl ?_
        refine A_lload_n hg dX10_firstReaching_18 rfl rfl ?_
        refine A_lsubP hg dX10_firstReaching_19 (by omega) ?_
        refine A_lconst (v := (lN (1))) hg dX10_firstReaching_20 (by decide) ?_
        refine A_lcmp hg dX10_firstReaching_21 ?_
        refine A_lc_le (tgt := 64) hg dX10_firstReaching_22 (by omega) (by decide) (by decide) (fun c22 => ?_) (fun c22 => ?_)
        · skip
          refine A_lload hg dX10_firstReaching_64 rfl ?_
          have hend : hi = lo + 1 := by
            first
            | omega
            | (have he : h = 32 := by omega
               subst he
               have hp2 : hi - lo ≤ 1 := hp
               omega)
          rw [hQ]
          exact A_lreturn hg (by decide) (by decide) rfl dX10_firstReaching_66 ⟨rfl, ⟨rfl, (by rw [s_li_eq hs5 (show v - 1 ≤ 500000000 by omega) (show lo ≤ v - 1 by omega) hgl (fun k z1 z2 => hgu k (by omega) z2), hend])⟩⟩
        · skip
          refine A_lload_n hg dX10_firstReaching_25 rfl rfl ?_
          refine A_lload hg dX10_firstReaching_26 rfl ?_
          refine A_laddP hg dX10_firstReaching_28 ?_
          refine A_ldc2 (v := (lN (2))) hg dX10_firstReaching_29 (q_mt 1135 (by decide +kernel)) ?_
          refine A_ldivP hg dX10_firstReaching_32 (by omega) (by decide) (by decide) ?_
          refine A_lstore hg dX10_firstReaching_33 (by decide) (q_c1d rfl) (by simp) ?_
          refine A_eq (ls2 := [some (.int (nI (s))), some (.int (nI (v))), some (.int (q_b (b))), some (.long (lN (lo))), none, some (.long (lN (hi))), none, some (.int (nI (h))), some (.long (lN ((lo + hi) / 2))), none]) (st2 := []) (pc2 := 0) rfl rfl ?_
          have hmid : lo < (lo + hi) / 2 ∧ (lo + hi) / 2 < hi := ⟨by omega, by omega⟩
          have hmm : (lo + hi) / 2 ≤ 500000000 := by omega
          have hgx := s_gX_lt (b := b) hs5 hmm
          refine A_iload_n hg dX10_firstReaching_35 rfl rfl ?_
          refine A_lload hg dX10_firstReaching_36 rfl ?_
          refine A_iload_n hg dX10_firstReaching_38 rfl rfl ?_
          refine A_eS (kc2 := 0) (ks2 := 0) (As := [.int (nI (s)), .long (lN ((lo + hi) / 2)), .int (q_b (b))]) (rest := []) hg lk_RX10_313 st_X10_goldenNumber dX10_firstReaching_39 ⟨by decide, by decide⟩ rfl rfl ⟨by decide, by decide⟩ rfl rfl (Nat.le_of_ble_eq_true rfl) (c_X10_goldenNumber G ex n σ s ((lo + hi) / 2) b (by omega) hmm) ?_
          refine A_iload_n hg dX10_firstReaching_42 rfl rfl ?_
          refine A_i2lP hg dX10_firstReaching_43 (by omega) ?_
          refine A_lcmp hg dX10_firstReaching_44 ?_
          refine A_lc_lt (tgt := 55) hg dX10_firstReaching_45 (by omega) (by omega) (by decide) (fun c45 => ?_) (fun c45 => ?_)
          · skip
            refine A_lload hg dX10_firstReaching_55 rfl ?_
            refine A_lstore_n hg dX10_firstReaching_57 rfl (by decide) (q_c1d rfl) (by first | exact Or.inl rfl | exact Or.inr rfl) ?_
            refine A_eq (ls2 := [some (.int (nI (s))), some (.int (nI (v))), some (.int (q_b (b))), some (.long (lN ((lo + hi) / 2))), none, some (.long (lN (hi))), none, some (.int (nI (h))), some (.long (lN ((lo + hi) / 2))), none]) (st2 := []) (pc2 := 0) rfl rfl ?_
            refine A_iincN (k' := 1) hg dX10_firstReaching_58 (by decide) rfl (by decide) (q_c1d rfl) ?_
            refine A_eq (ls2 := [some (.int (nI (s))), some (.int (nI (v))), some (.int (q_b (b))), some (.long (lN ((lo + hi) / 2))), none, some (.long (lN (hi))), none, some (.int (nI (h + 1))), some (.long (lN ((lo + hi) / 2))), none]) (st2 := []) (pc2 := 0) rfl rfl ?_
            refine A_goto (tgt := 9) hg dX10_firstReaching_61 (by decide) ?_
            refine A_drop 8 ?_
            exact ih9 (h + 1) ((lo + hi) / 2) hi (by omega) (by omega) (by omega) (by omega) hgu (by omega)
          · skip
            refine A_lload hg dX10_firstReaching_48 rfl ?_
            refine A_lstore hg dX10_firstReaching_50 (by decide) (q_c1d rfl) (by simp) ?_
            refine A_eq (ls2 := [some (.int (nI (s))), some (.int (nI (v))), some (.int (q_b (b))), some (.long (lN (lo))), none, some (.long (lN ((lo + hi) / 2))), none, some (.int (nI (h))), some (.long (lN ((lo + hi) / 2))), none]) (st2 := []) (pc2 := 0) rfl rfl ?_
            refine A_goto (tgt := 58) hg dX10_firstReaching_52 (by decide) ?_
            refine A_iincN (k' := 1) hg dX10_firstReaching_58 (by decide) rfl (by decide) (q_c1d rfl) ?_
            refine A_eq (ls2 := [some (.int (nI (s))), some (.int (nI (v))), some (.int (q_b (b))), some (.long (lN (lo))), none, some (.long (lN ((lo + hi) / 2))), none, some (.int (nI (h + 1))), some (.long (lN ((lo + hi) / 2))), none]) (st2 := []) (pc2 := 0) rfl rfl ?_
            refine A_goto (tgt := 9) hg dX10_firstReaching_61 (by decide) ?_
            refine A_drop 8 ?_
            exact ih9 (h + 1) lo ((lo + hi) / 2) (by omega) (by omega) (by omega) hgl (fun k z1 z2 => by have := s_gX_mono (b := b) hs5 (show (lo + hi) / 2 ≤ k by omega) (by omega); omega) (by omega)
  exact hL9 _ 0 0 v (⟨by omega, Nat.le_refl _⟩) (Nat.zero_le _) (Nat.le_trans (show v - 0 ≤ 4294967296 by omega) (by decide)) (by rw [s_gX_0]; exact Nat.zero_le _) (fun k h1 h2 => absurd h1 (by omega)) (Nat.lt_succ_self _)
set_option maxRecDepth 100000 in
set_option maxHeartbeats 4000000 in
theorem c_X10_golden (G : GL) (ex : Bool) (n : Nat) (σ : Nat → va_E) (z1 : Int32) (z2 : Int32) (z3 : Int32) (s : Int32) (v : Int32) (b : Bool) (hc0 : σ 0 = o10 G (z1) (z2) (z3)) (hn9 : 279 ≤ n) : CtX G yX10_golden cX10_golden 4 (some .int) ⟨7, 2, 12, 112⟩ [.ref (q_h G + 0), .int (s), .int (v), .int (q_b (b))] ex n σ (fun v9 σ2 => σ2 = σ ∧ ∃ (s1 : Nat), ∃ (v1 : Nat), v9 = some (.int (nI (s_gX s1 b v1))) ∧ (s = nI s1) ∧ (1 ≤ s1) ∧ (s1 ≤ 5) ∧ (v = nI v1) ∧ (0 ≤ v1) ∧ (v1 ≤ 100000000)) (fun E σ2 => σ2 = σ ∧ ((E = "java/lang/IllegalArgumentException" ∧ (∀ j : Nat, 1 ≤ j → j ≤ 5 → s = nI j → False)) ∨ (E = "java/lang/IllegalArgumentException" ∧ (∃ s1 : Nat, s = nI s1 ∧ 1 ≤ s1 ∧ s1 ≤ 5 ∧ ∀ j : Nat, 0 ≤ j → j ≤ 100000000 → v = nI j → False)))) := by
  refine q_enter [some (.ref (q_h G + 0)), some (.int (s)), some (.int (v)), some (.int (q_b (b)))] (by decide) (Nat.le_of_ble_eq_true rfl) rfl ?_
  intro K hg
  obtain ⟨Q, hQ⟩ : ∃ Q, Q = q_Q G K ex n 2 12 (fun v9 n' σ' => n' = n ∧ (fun v9 σ2 => σ2 = σ ∧ ∃ (s1 : Nat), ∃ (v1 : Nat), v9 = some (.int (nI (s_gX s1 b v1))) ∧ (s = nI s1) ∧ (1 ≤ s1) ∧ (s1 ≤ 5) ∧ (v = nI v1) ∧ (0 ≤ v1) ∧ (v1 ≤ 100000000)) v9 σ') (fun E σ2 => σ2 = σ ∧ ((E = "java/lang/IllegalArgumentException" ∧ (∀ j : Nat, 1 ≤ j → j ≤ 5 → s = nI j → False)) ∨ (E = "java/lang/IllegalArgumentException" ∧ (∃ s1 : Nat, s = nI s1 ∧ 1 ≤ s1 ∧ s1 ≤ 5 ∧ ∀ j : Nat, 0 ≤ j → j ≤ 100000000 → v = nI j → False)))) := ⟨_, rfl⟩
  refine (?_ : AJ G K (q_Q G K ex n 2 12 _ _) 0 0 ex n 0 _ _ σ)
  rw [← hQ]
  refine A_iload_n hg dX10_golden_0 rfl rfl ?_
  refine A_iconst (v := (nI (1))) hg dX10_golden_1 (by decide) ?_
  refine A_iconst (v := (nI (5))) hg dX10_golden_2 (by decide) ?_
  refine A_pSX (kc2 := 1) (ks2 := 6) (As := [.int (s), .int (nI (1)), .int (nI (5))]) (rest := []) hg lk_RX10_179 st_X10_needRange dX10_golden_3 ⟨by decide, by decide⟩ rfl rfl ⟨by decide, by decide⟩ rfl rfl (Nat.le_of_ble_eq_true rfl) (c_X10_needRange G ex n σ s 1 5 (by omega) (by omega)) (fun E σx hx => by rw [hQ]; exact A_out hg (by decide) (by decide) (by obtain ⟨hs, hE, hx⟩ := hx; exact ⟨hs, Or.inl (⟨hE, hx⟩)⟩)) ?_
  rintro _ ⟨s1, rfl, hse, hsa, hsl⟩
  refine (?_ : AJ G K Q 1 6 ex n 6 [some (.ref (q_h G + 0)), some (.int (s)), some (.int (v)), some (.int (q_b (b)))] [] σ)
  subst hse
  refine A_iload_n hg dX10_golden_6 rfl rfl ?_
  refine A_iconst (v := (nI (0))) hg dX10_golden_7 (by decide) ?_
  refine A_ldcw (v := nI 100000000) hg dX10_golden_8 (q_mt 1127 (by decide +kernel)) ?_
  refine A_pSX (kc2 := 2) (ks2 := 12) (As := [.int (v), .int (nI (0)), .int (nI (100000000))]) (rest := []) hg lk_RX10_179 st_X10_needRange dX10_golden_11 ⟨by decide, by decide⟩ rfl rfl ⟨by decide, by decide⟩ rfl rfl (Nat.le_of_ble_eq_true rfl) (c_X10_needRange G ex n σ v 0 100000000 (by omega) (by omega)) (fun E σx hx => by rw [hQ]; exact A_out hg (by decide) (by decide) (by obtain ⟨hs, hE, hx⟩ := hx; exact ⟨hs, Or.inr ((⟨hE, s1, rfl, hsa, hsl, hx⟩))⟩)) ?_
  rintro _ ⟨v1, rfl, hve, hva, hvl⟩
  refine (?_ : AJ G K Q 2 12 ex n 14 [some (.ref (q_h G + 0)), some (.int (nI (s1))), some (.int (v)), some (.int (q_b (b)))] [] σ)
  subst hve
  have hlf := s_li_le s1 false (v1 - 1)
  have hlt := s_li_le s1 true (v1 - 1)
  refine A_iload_n hg dX10_golden_14 rfl rfl ?_
  refine A_iload_n hg dX10_golden_15 rfl rfl ?_
  refine A_i2lP hg dX10_golden_16 (by omega) ?_
  refine A_iload_n hg dX10_golden_17 rfl rfl ?_
  refine A_eS (kc2 := 2) (ks2 := 12) (As := [.int (nI (s1)), .long (lN (v1)), .int (q_b (b))]) (rest := []) hg lk_RX10_313 st_X10_goldenNumber dX10_golden_18 ⟨by decide, by decide⟩ rfl rfl ⟨by decide, by decide⟩ rfl rfl (Nat.le_of_ble_eq_true rfl) (c_X10_goldenNumber G ex n σ s1 v1 b (by omega) (by omega)) ?_
  refine A_l2iP hg dX10_golden_21 ?_
  rw [hQ]
  exact A_ireturn hg (by decide) (by decide) rfl dX10_golden_22 ⟨rfl, ⟨rfl, s1, v1, rfl, rfl, hsa, hsl, rfl, hva, hvl⟩⟩
set_option maxRecDepth 100000 in
set_option maxHeartbeats 4000000 in
theorem c_X10_goldenOf (G : GL) (ex : Bool) (n : Nat) (σ : Nat → va_E) (z1 : Int32) (z2 : Int32) (z3 : Int32) (s : Int32) (v : Int32) (hc0 : σ 0 = o10 G (z1) (z2) (z3)) (hn9 : 279 ≤ n) : CtX G yX10_goldenOf cX10_goldenOf 5 (some .int) ⟨7, 2, 12, 112⟩ [.ref (q_h G + 0), .int (s), .int (v)] ex n σ (fun v9 σ2 => σ2 = σ ∧ ∃ (s1 : Nat), ∃ (v1 : Nat), v9 = some (.int (nI (s_gOf s1 v1))) ∧ (s = nI s1) ∧ (1 ≤ s1) ∧ (s1 ≤ 5) ∧ (v = nI v1) ∧ (1 ≤ v1) ∧ (v1 ≤ 500000000)) (fun E σ2 => σ2 = σ ∧ ((E = "java/lang/IllegalArgumentException" ∧ (∀ j : Nat, 1 ≤ j → j ≤ 5 → s = nI j → False)) ∨ (E = "java/lang/IllegalArgumentException" ∧ (∃ s1 : Nat, s = nI s1 ∧ 1 ≤ s1 ∧ s1 ≤ 5 ∧ ∀ j : Nat, 1 ≤ j → j ≤ 500000000 → v = nI j → False)))) := by
  refine q_enter [some (.ref (q_h G + 0)), some (.int (s)), some (.int (v)), none, none] (by decide) (Nat.le_of_ble_eq_true rfl) rfl ?_
  intro K hg
  obtain ⟨Q, hQ⟩ : ∃ Q, Q = q_Q G K ex n 2 12 (fun v9 n' σ' => n' = n ∧ (fun v9 σ2 => σ2 = σ ∧ ∃ (s1 : Nat), ∃ (v1 : Nat), v9 = some (.int (nI (s_gOf s1 v1))) ∧ (s = nI s1) ∧ (1 ≤ s1) ∧ (s1 ≤ 5) ∧ (v = nI v1) ∧ (1 ≤ v1) ∧ (v1 ≤ 500000000)) v9 σ') (fun E σ2 => σ2 = σ ∧ ((E = "java/lang/IllegalArgumentException" ∧ (∀ j : Nat, 1 ≤ j → j ≤ 5 → s = nI j → False)) ∨ (E = "java/lang/IllegalArgumentException" ∧ (∃ s1 : Nat, s = nI s1 ∧ 1 ≤ s1 ∧ s1 ≤ 5 ∧ ∀ j : Nat, 1 ≤ j → j ≤ 500000000 → v = nI j → False)))) := ⟨_, rfl⟩
  refine (?_ : AJ G K (q_Q G K ex n 2 12 _ _) 0 0 ex n 0 _ _ σ)
  rw [← hQ]
  refine A_iload_n hg dX10_goldenOf_0 rfl rfl ?_
  refine A_iconst (v := (nI (1))) hg dX10_goldenOf_1 (by decide) ?_
  refine A_iconst (v := (nI (5))) hg dX10_goldenOf_2 (by decide) ?_
  refine A_pSX (kc2 := 1) (ks2 := 6) (As := [.int (s), .int (nI (1)), .int (nI (5))]) (rest := []) hg lk_RX10_179 st_X10_needRange dX10_goldenOf_3 ⟨by decide, by decide⟩ rfl rfl ⟨by decide, by decide⟩ rfl rfl (Nat.le_of_ble_eq_true rfl) (c_X10_needRange G ex n σ s 1 5 (by omega) (by omega)) (fun E σx hx => by rw [hQ]; exact A_out hg (by decide) (by decide) (by obtain ⟨hs, hE, hx⟩ := hx; exact ⟨hs, Or.inl (⟨hE, hx⟩)⟩)) ?_
  rintro _ ⟨s1, rfl, hse, hsa, hsl⟩
  refine (?_ : AJ G K Q 1 6 ex n 6 [some (.ref (q_h G + 0)), some (.int (s)), some (.int (v)), none, none] [] σ)
  subst hse
  refine A_iload_n hg dX10_goldenOf_6 rfl rfl ?_
  refine A_iconst (v := (nI (1))) hg dX10_goldenOf_7 (by decide) ?_
  refine A_ldcw (v := nI 500000000) hg dX10_goldenOf_8 (q_mt 1143 (by decide +kernel)) ?_
  refine A_pSX (kc2 := 2) (ks2 := 12) (As := [.int (v), .int (nI (1)), .int (nI (500000000))]) (rest := []) hg lk_RX10_179 st_X10_needRange dX10_goldenOf_11 ⟨by decide, by decide⟩ rfl rfl ⟨by decide, by decide⟩ rfl rfl (Nat.le_of_ble_eq_true rfl) (c_X10_needRange G ex n σ v 1 500000000 (by omega) (by omega)) (fun E σx hx => by rw [hQ]; exact A_out hg (by decide) (by decide) (by obtain ⟨hs, hE, hx⟩ := hx; exact ⟨hs, Or.inr ((⟨hE, s1, rfl, hsa, hsl, hx⟩))⟩)) ?_
  rintro _ ⟨v1, rfl, hve, hva, hvl⟩
  refine (?_ : AJ G K Q 2 12 ex n 14 [some (.ref (q_h G + 0)), some (.int (nI (s1))), some (.int (v)), none, none] [] σ)
  subst hve
  have hlf := s_li_le s1 false (v1 - 1)
  have hlt := s_li_le s1 true (v1 - 1)
  refine A_iload_n hg dX10_goldenOf_14 rfl rfl ?_
  refine A_iload_n hg dX10_goldenOf_15 rfl rfl ?_
  refine A_iconst (v := (nI (0))) hg dX10_goldenOf_16 (by decide) ?_
  refine A_eS (kc2 := 2) (ks2 := 12) (As := [.int (nI (s1)), .int (nI (v1)), .int (nI (0))]) (rest := []) hg lk_RX10_318 st_X10_firstReaching dX10_goldenOf_17 ⟨by decide, by decide⟩ rfl rfl ⟨by decide, by decide⟩ rfl rfl (Nat.le_of_ble_eq_true rfl) (c_X10_firstReaching G ex n σ s1 v1 false (by omega) (by omega) (by omega)) ?_
  refine A_lstore_n hg dX10_goldenOf_20 rfl (by decide) (q_c1d rfl) (by first | exact Or.inl rfl | exact Or.inr rfl) ?_
  refine A_eq (ls2 := [some (.ref (q_h G + 0)), some (.int (nI (s1))), some (.int (nI (v1))), some (.long (lN (s_li s1 false (v1 - 1) + 1))), none]) (st2 := []) (pc2 := 0) rfl rfl ?_
  refine A_iload_n hg dX10_goldenOf_21 rfl rfl ?_
  refine A_lload_n hg dX10_goldenOf_22 rfl rfl ?_
  refine A_iconst (v := (nI (0))) hg dX10_goldenOf_23 (by decide) ?_
  refine A_eS (kc2 := 2) (ks2 := 12) (As := [.int (nI (s1)), .long (lN (s_li s1 false (v1 - 1) + 1)), .int (nI (0))]) (rest := []) hg lk_RX10_313 st_X10_goldenNumber dX10_goldenOf_24 ⟨by decide, by decide⟩ rfl rfl ⟨by decide, by decide⟩ rfl rfl (Nat.le_of_ble_eq_true rfl) (c_X10_goldenNumber G ex n σ s1 (s_li s1 false (v1 - 1) + 1) false (by omega) (by omega)) ?_
  have hgx := s_gX_lt (b := false) hsl (show s_li s1 false (v1 - 1) + 1 ≤ 500000000 by omega)
  refine A_iload_n hg dX10_goldenOf_27 rfl rfl ?_
  refine A_i2lP hg dX10_goldenOf_28 (by omega) ?_
  refine A_lcmp hg dX10_goldenOf_29 ?_
  refine A_lc_ne (tgt := 40) hg dX10_goldenOf_30 (by omega) (by omega) (by decide) (fun c30 => ?_) (fun c30 => ?_)
  · skip
    refine A_ldc2 (v := (lN (2))) hg dX10_goldenOf_40 (q_mt 1135 (by decide +kernel)) ?_
    refine A_iload_n hg dX10_goldenOf_43 rfl rfl ?_
    refine A_iload_n hg dX10_goldenOf_44 rfl rfl ?_
    refine A_iconst (v := (nI (1))) hg dX10_goldenOf_45 (by decide) ?_
    refine A_eS (kc2 := 2) (ks2 := 12) (As := [.int (nI (s1)), .int (nI (v1)), .int (nI (1))]) (rest := [.long (lN (2))]) hg lk_RX10_318 st_X10_firstReaching dX10_goldenOf_46 ⟨by decide, by decide⟩ rfl rfl ⟨by decide, by decide⟩ rfl rfl (Nat.le_of_ble_eq_true rfl) (c_X10_firstReaching G ex n σ s1 v1 true (by omega) (by omega) (by omega)) ?_
    refine A_lmulP hg dX10_goldenOf_49 ?_
    refine A_lconst (v := (lN (1))) hg dX10_goldenOf_50 (by decide) ?_
    refine A_laddP hg dX10_goldenOf_51 ?_
    refine A_l2iP hg dX10_goldenOf_52 ?_
    rw [hQ]
    exact A_ireturn hg (by decide) (by decide) rfl dX10_goldenOf_53 ⟨rfl, ⟨rfl, s1, v1, (by rw [x_gOf hsa hsl hvl hva, if_neg c30]), rfl, hsa, hsl, rfl, hva, hvl⟩⟩
  · skip
    refine A_ldc2 (v := (lN (2))) hg dX10_goldenOf_33 (q_mt 1135 (by decide +kernel)) ?_
    refine A_lload_n hg dX10_goldenOf_36 rfl rfl ?_
    refine A_lmulP hg dX10_goldenOf_37 ?_
    refine A_l2iP hg dX10_goldenOf_38 ?_
    rw [hQ]
    exact A_ireturn hg (by decide) (by decide) rfl dX10_goldenOf_39 ⟨rfl, ⟨rfl, s1, v1, (by rw [x_gOf hsa hsl hvl hva, if_pos c30]), rfl, hsa, hsl, rfl, hva, hvl⟩⟩
set_option maxRecDepth 100000 in
set_option maxHeartbeats 4000000 in
theorem c_X10_goldenPartner (G : GL) (ex : Bool) (n : Nat) (σ : Nat → va_E) (z1 : Int32) (z2 : Int32) (z3 : Int32) (s : Int32) (v : Int32) (hc0 : σ 0 = o10 G (z1) (z2) (z3)) (hn9 : 279 ≤ n) : CtX G yX10_goldenPartner cX10_goldenPartner 5 (some .long) ⟨7, 2, 12, 112⟩ [.ref (q_h G + 0), .int (s), .int (v)] ex n σ (fun v9 σ2 => σ2 = σ ∧ ∃ (s1 : Nat), ∃ (v1 : Nat), v9 = some (.long (lN (s_gPt s1 v1))) ∧ (s = nI s1) ∧ (1 ≤ s1) ∧ (s1 ≤ 5) ∧ (v = nI v1) ∧ (1 ≤ v1) ∧ (v1 ≤ 500000000)) (fun E σ2 => σ2 = σ ∧ ((E = "java/lang/IllegalArgumentException" ∧ (∀ j : Nat, 1 ≤ j → j ≤ 5 → s = nI j → False)) ∨ (E = "java/lang/IllegalArgumentException" ∧ (∃ s1 : Nat, s = nI s1 ∧ 1 ≤ s1 ∧ s1 ≤ 5 ∧ ∀ j : Nat, 1 ≤ j → j ≤ 500000000 → v = nI j → False)))) := by
  refine q_enter [some (.ref (q_h G + 0)), some (.int (s)), some (.int (v)), none, none] (by decide) (Nat.le_of_ble_eq_true rfl) rfl ?_
  intro K hg
  obtain ⟨Q, hQ⟩ : ∃ Q, Q = q_Q G K ex n 2 12 (fun v9 n' σ' => n' = n ∧ (fun v9 σ2 => σ2 = σ ∧ ∃ (s1 : Nat), ∃ (v1 : Nat), v9 = some (.long (lN (s_gPt s1 v1))) ∧ (s = nI s1) ∧ (1 ≤ s1) ∧ (s1 ≤ 5) ∧ (v = nI v1) ∧ (1 ≤ v1) ∧ (v1 ≤ 500000000)) v9 σ') (fun E σ2 => σ2 = σ ∧ ((E = "java/lang/IllegalArgumentException" ∧ (∀ j : Nat, 1 ≤ j → j ≤ 5 → s = nI j → False)) ∨ (E = "java/lang/IllegalArgumentException" ∧ (∃ s1 : Nat, s = nI s1 ∧ 1 ≤ s1 ∧ s1 ≤ 5 ∧ ∀ j : Nat, 1 ≤ j → j ≤ 500000000 → v = nI j → False)))) := ⟨_, rfl⟩
  refine (?_ : AJ G K (q_Q G K ex n 2 12 _ _) 0 0 ex n 0 _ _ σ)
  rw [← hQ]
  refine A_iload_n hg dX10_goldenPartner_0 rfl rfl ?_
  refine A_iconst (v := (nI (1))) hg dX10_goldenPartner_1 (by decide) ?_
  refine A_iconst (v := (nI (5))) hg dX10_goldenPartner_2 (by decide) ?_
  refine A_pSX (kc2 := 1) (ks2 := 6) (As := [.int (s), .int (nI (1)), .int (nI (5))]) (rest := []) hg lk_RX10_179 st_X10_needRange dX10_goldenPartner_3 ⟨by decide, by decide⟩ rfl rfl ⟨by decide, by decide⟩ rfl rfl (Nat.le_of_ble_eq_true rfl) (c_X10_needRange G ex n σ s 1 5 (by omega) (by omega)) (fun E σx hx => by rw [hQ]; exact A_out hg (by decide) (by decide) (by obtain ⟨hs, hE, hx⟩ := hx; exact ⟨hs, Or.inl (⟨hE, hx⟩)⟩)) ?_
  rintro _ ⟨s1, rfl, hse, hsa, hsl⟩
  refine (?_ : AJ G K Q 1 6 ex n 6 [some (.ref (q_h G + 0)), some (.int (s)), some (.int (v)), none, none] [] σ)
  subst hse
  refine A_iload_n hg dX10_goldenPartner_6 rfl rfl ?_
  refine A_iconst (v := (nI (1))) hg dX10_goldenPartner_7 (by decide) ?_
  refine A_ldcw (v := nI 500000000) hg dX10_goldenPartner_8 (q_mt 1143 (by decide +kernel)) ?_
  refine A_pSX (kc2 := 2) (ks2 := 12) (As := [.int (v), .int (nI (1)), .int (nI (500000000))]) (rest := []) hg lk_RX10_179 st_X10_needRange dX10_goldenPartner_11 ⟨by decide, by decide⟩ rfl rfl ⟨by decide, by decide⟩ rfl rfl (Nat.le_of_ble_eq_true rfl) (c_X10_needRange G ex n σ v 1 500000000 (by omega) (by omega)) (fun E σx hx => by rw [hQ]; exact A_out hg (by decide) (by decide) (by obtain ⟨hs, hE, hx⟩ := hx; exact ⟨hs, Or.inr ((⟨hE, s1, rfl, hsa, hsl, hx⟩))⟩)) ?_
  rintro _ ⟨v1, rfl, hve, hva, hvl⟩
  refine (?_ : AJ G K Q 2 12 ex n 14 [some (.ref (q_h G + 0)), some (.int (nI (s1))), some (.int (v)), none, none] [] σ)
  subst hve
  have hlf := s_li_le s1 false (v1 - 1)
  have hlt := s_li_le s1 true (v1 - 1)
  refine A_iload_n hg dX10_goldenPartner_14 rfl rfl ?_
  refine A_iload_n hg dX10_goldenPartner_15 rfl rfl ?_
  refine A_iconst (v := (nI (0))) hg dX10_goldenPartner_16 (by decide) ?_
  refine A_eS (kc2 := 2) (ks2 := 12) (As := [.int (nI (s1)), .int (nI (v1)), .int (nI (0))]) (rest := []) hg lk_RX10_318 st_X10_firstReaching dX10_goldenPartner_17 ⟨by decide, by decide⟩ rfl rfl ⟨by decide, by decide⟩ rfl rfl (Nat.le_of_ble_eq_true rfl) (c_X10_firstReaching G ex n σ s1 v1 false (by omega) (by omega) (by omega)) ?_
  refine A_lstore_n hg dX10_goldenPartner_20 rfl (by decide) (q_c1d rfl) (by first | exact Or.inl rfl | exact Or.inr rfl) ?_
  refine A_eq (ls2 := [some (.ref (q_h G + 0)), some (.int (nI (s1))), some (.int (nI (v1))), some (.long (lN (s_li s1 false (v1 - 1) + 1))), none]) (st2 := []) (pc2 := 0) rfl rfl ?_
  refine A_iload_n hg dX10_goldenPartner_21 rfl rfl ?_
  refine A_lload_n hg dX10_goldenPartner_22 rfl rfl ?_
  refine A_iconst (v := (nI (0))) hg dX10_goldenPartner_23 (by decide) ?_
  refine A_eS (kc2 := 2) (ks2 := 12) (As := [.int (nI (s1)), .long (lN (s_li s1 false (v1 - 1) + 1)), .int (nI (0))]) (rest := []) hg lk_RX10_313 st_X10_goldenNumber dX10_goldenPartner_24 ⟨by decide, by decide⟩ rfl rfl ⟨by decide, by decide⟩ rfl rfl (Nat.le_of_ble_eq_true rfl) (c_X10_goldenNumber G ex n σ s1 (s_li s1 false (v1 - 1) + 1) false (by omega) (by omega)) ?_
  have hgx := s_gX_lt (b := false) hsl (show s_li s1 false (v1 - 1) + 1 ≤ 500000000 by omega)
  refine A_iload_n hg dX10_goldenPartner_27 rfl rfl ?_
  refine A_i2lP hg dX10_goldenPartner_28 (by omega) ?_
  refine A_lcmp hg dX10_goldenPartner_29 ?_
  refine A_lc_ne (tgt := 41) hg dX10_goldenPartner_30 (by omega) (by omega) (by decide) (fun c30 => ?_) (fun c30 => ?_)
  · skip
    refine A_iload_n hg dX10_goldenPartner_41 rfl rfl ?_
    refine A_i2lP hg dX10_goldenPartner_42 (by omega) ?_
    refine A_iload_n hg dX10_goldenPartner_43 rfl rfl ?_
    refine A_i2lP hg dX10_goldenPartner_44 (by omega) ?_
    refine A_iload_n hg dX10_goldenPartner_45 rfl rfl ?_
    refine A_iload_n hg dX10_goldenPartner_46 rfl rfl ?_
    refine A_iconst (v := (nI (1))) hg dX10_goldenPartner_47 (by decide) ?_
    refine A_eS (kc2 := 2) (ks2 := 12) (As := [.int (nI (s1)), .int (nI (v1)), .int (nI (1))]) (rest := [.long (lN (s1)), .long (lN (v1))]) hg lk_RX10_318 st_X10_firstReaching dX10_goldenPartner_48 ⟨by decide, by decide⟩ rfl rfl ⟨by decide, by decide⟩ rfl rfl (Nat.le_of_ble_eq_true rfl) (c_X10_firstReaching G ex n σ s1 v1 true (by omega) (by omega) (by omega)) ?_
    refine A_lmulP hg dX10_goldenPartner_51 ?_
    refine A_lsubP hg dX10_goldenPartner_52 (x_gPt_le hsa hsl hvl hva c30) ?_
    rw [hQ]
    exact A_lreturn hg (by decide) (by decide) rfl dX10_goldenPartner_53 ⟨rfl, ⟨rfl, s1, v1, (by rw [x_gPt hsa hsl hvl hva, if_neg c30]), rfl, hsa, hsl, rfl, hva, hvl⟩⟩
  · skip
    refine A_iload_n hg dX10_goldenPartner_33 rfl rfl ?_
    refine A_i2lP hg dX10_goldenPartner_34 (by omega) ?_
    refine A_iload_n hg dX10_goldenPartner_35 rfl rfl ?_
    refine A_i2lP hg dX10_goldenPartner_36 (by omega) ?_
    refine A_lload_n hg dX10_goldenPartner_37 rfl rfl ?_
    refine A_lmulP hg dX10_goldenPartner_38 ?_
    refine A_laddP hg dX10_goldenPartner_39 ?_
    rw [hQ]
    exact A_lreturn hg (by decide) (by decide) rfl dX10_goldenPartner_40 ⟨rfl, ⟨rfl, s1, v1, (by rw [x_gPt hsa hsl hvl hva, if_pos c30]), rfl, hsa, hsl, rfl, hva, hvl⟩⟩
set_option maxRecDepth 100000 in
set_option maxHeartbeats 4000000 in
theorem c_X10_goldenMany (G : GL) (ex : Bool) (n : Nat) (σ : Nat → va_E) (z1 : Int32) (z2 : Int32) (z3 : Int32) (s : Int32) (v : Int32) (hc0 : σ 0 = o10 G (z1) (z2) (z3)) (hn9 : 279 ≤ n) : CtX G yX10_goldenMany cX10_goldenMany 3 (some .int) ⟨7, 2, 12, 112⟩ [.ref (q_h G + 0), .int (s), .int (v)] ex n σ (fun v9 σ2 => σ2 = σ ∧ ∃ (s1 : Nat), ∃ (v1 : Nat), v9 = some (.int (nI (s_li s1 true v1))) ∧ (s = nI s1) ∧ (1 ≤ s1) ∧ (s1 ≤ 5) ∧ (v = nI v1) ∧ (0 ≤ v1) ∧ (v1 ≤ 500000000)) (fun E σ2 => σ2 = σ ∧ ((E = "java/lang/IllegalArgumentException" ∧ (∀ j : Nat, 1 ≤ j → j ≤ 5 → s = nI j → False)) ∨ (E = "java/lang/IllegalArgumentException" ∧ (∃ s1 : Nat, s = nI s1 ∧ 1 ≤ s1 ∧ s1 ≤ 5 ∧ ∀ j : Nat, 0 ≤ j → j ≤ 500000000 → v = nI j → False)))) := by
  refine q_enter [some (.ref (q_h G + 0)), some (.int (s)), some (.int (v))] (by decide) (Nat.le_of_ble_eq_true rfl) rfl ?_
  intro K hg
  obtain ⟨Q, hQ⟩ : ∃ Q, Q = q_Q G K ex n 2 12 (fun v9 n' σ' => n' = n ∧ (fun v9 σ2 => σ2 = σ ∧ ∃ (s1 : Nat), ∃ (v1 : Nat), v9 = some (.int (nI (s_li s1 true v1))) ∧ (s = nI s1) ∧ (1 ≤ s1) ∧ (s1 ≤ 5) ∧ (v = nI v1) ∧ (0 ≤ v1) ∧ (v1 ≤ 500000000)) v9 σ') (fun E σ2 => σ2 = σ ∧ ((E = "java/lang/IllegalArgumentException" ∧ (∀ j : Nat, 1 ≤ j → j ≤ 5 → s = nI j → False)) ∨ (E = "java/lang/IllegalArgumentException" ∧ (∃ s1 : Nat, s = nI s1 ∧ 1 ≤ s1 ∧ s1 ≤ 5 ∧ ∀ j : Nat, 0 ≤ j → j ≤ 500000000 → v = nI j → False)))) := ⟨_, rfl⟩
  refine (?_ : AJ G K (q_Q G K ex n 2 12 _ _) 0 0 ex n 0 _ _ σ)
  rw [← hQ]
  refine A_iload_n hg dX10_goldenMany_0 rfl rfl ?_
  refine A_iconst (v := (nI (1))) hg dX10_goldenMany_1 (by decide) ?_
  refine A_iconst (v := (nI (5))) hg dX10_goldenMany_2 (by decide) ?_
  refine A_pSX (kc2 := 1) (ks2 := 6) (As := [.int (s), .int (nI (1)), .int (nI (5))]) (rest := []) hg lk_RX10_179 st_X10_needRange dX10_goldenMany_3 ⟨by decide, by decide⟩ rfl rfl ⟨by decide, by decide⟩ rfl rfl (Nat.le_of_ble_eq_true rfl) (c_X10_needRange G ex n σ s 1 5 (by omega) (by omega)) (fun E σx hx => by rw [hQ]; exact A_out hg (by decide) (by decide) (by obtain ⟨hs, hE, hx⟩ := hx; exact ⟨hs, Or.inl (⟨hE, hx⟩)⟩)) ?_
  rintro _ ⟨s1, rfl, hse, hsa, hsl⟩
  refine (?_ : AJ G K Q 1 6 ex n 6 [some (.ref (q_h G + 0)), some (.int (s)), some (.int (v))] [] σ)
  subst hse
  refine A_iload_n hg dX10_goldenMany_6 rfl rfl ?_
  refine A_iconst (v := (nI (0))) hg dX10_goldenMany_7 (by decide) ?_
  refine A_ldcw (v := nI 500000000) hg dX10_goldenMany_8 (q_mt 1143 (by decide +kernel)) ?_
  refine A_pSX (kc2 := 2) (ks2 := 12) (As := [.int (v), .int (nI (0)), .int (nI (500000000))]) (rest := []) hg lk_RX10_179 st_X10_needRange dX10_goldenMany_11 ⟨by decide, by decide⟩ rfl rfl ⟨by decide, by decide⟩ rfl rfl (Nat.le_of_ble_eq_true rfl) (c_X10_needRange G ex n σ v 0 500000000 (by omega) (by omega)) (fun E σx hx => by rw [hQ]; exact A_out hg (by decide) (by decide) (by obtain ⟨hs, hE, hx⟩ := hx; exact ⟨hs, Or.inr ((⟨hE, s1, rfl, hsa, hsl, hx⟩))⟩)) ?_
  rintro _ ⟨v1, rfl, hve, hva, hvl⟩
  refine (?_ : AJ G K Q 2 12 ex n 14 [some (.ref (q_h G + 0)), some (.int (nI (s1))), some (.int (v))] [] σ)
  subst hve
  have hlf := s_li_le s1 false (v1 - 1)
  have hlt := s_li_le s1 true (v1 - 1)
  refine A_iload_n hg dX10_goldenMany_14 rfl rfl ?_
  refine A_iload_n hg dX10_goldenMany_15 rfl rfl ?_
  refine A_iconst (v := (nI (1))) hg dX10_goldenMany_16 (by decide) ?_
  refine A_iaddN hg dX10_goldenMany_17 ?_
  refine A_iconst (v := (nI (1))) hg dX10_goldenMany_18 (by decide) ?_
  refine A_eS (kc2 := 2) (ks2 := 12) (As := [.int (nI (s1)), .int (nI (v1 + 1)), .int (nI (1))]) (rest := []) hg lk_RX10_318 st_X10_firstReaching dX10_goldenMany_19 ⟨by decide, by decide⟩ rfl rfl ⟨by decide, by decide⟩ rfl rfl (Nat.le_of_ble_eq_true rfl) (c_X10_firstReaching G ex n σ s1 (v1 + 1) true (by omega) (by omega) (by omega)) ?_
  have hl9 := s_li_le s1 true (v1 + 1 - 1)
  refine A_l2iP hg dX10_goldenMany_22 ?_
  refine A_iconst (v := (nI (1))) hg dX10_goldenMany_23 (by decide) ?_
  refine A_isubN hg dX10_goldenMany_24 (by omega) ?_
  rw [hQ]
  exact A_ireturn hg (by decide) (by decide) rfl dX10_goldenMany_25 ⟨rfl, ⟨rfl, s1, v1, rfl, rfl, hsa, hsl, rfl, hva, hvl⟩⟩
end
