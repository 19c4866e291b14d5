section
set_option maxRecDepth 100000 in
set_option maxHeartbeats 4000000 in
theorem c_X11_root (G : GL) (ex : Bool) (n : Nat) (σ : Nat → va_E) (v : Nat)  (hv : v < 2 ^ 63) : Ct G yX11_root cX11_root 7 (some .long) ⟨0, 0, 0, 0⟩ [.long (lN (v))] ex n σ (fun v9 σ2 => σ2 = σ ∧ v9 = some (.long (lN (s_rt v)))) := by
  refine q_enter [some (.long (lN (v))), none, none, none, none, none, none] (by decide) (Nat.le_of_ble_eq_true rfl) rfl ?_
  intro K hg
  obtain ⟨Q, hQ⟩ : ∃ Q, Q = q_Q G K ex n 0 0 (fun v9 n' σ' => n' = n ∧ (fun v9 σ2 => σ2 = σ ∧ v9 = some (.long (lN (s_rt v)))) v9 σ') q_noX := ⟨_, rfl⟩
  refine (?_ : AJ G K (q_Q G K ex n 0 0 _ _) 0 0 ex n 0 _ _ σ)
  rw [← hQ]
  refine A_lconst (v := (lN (0))) hg dX11_root_0 (by decide) ?_
  refine A_lstore_n hg dX11_root_1 rfl (by decide) (q_c1d rfl) (by simp) ?_
  refine A_eq (ls2 := [some (.long (lN (v))), none, some (.long (lN (0))), none, none, none, none]) (st2 := []) (pc2 := 0) rfl rfl ?_
  refine A_bipush (v := (nI (31))) hg dX11_root_2 (by decide) ?_
  refine A_eq (ls2 := [some (.long (lN (v))), none, some (.long (lN (0))), none, none, none, none]) (st2 := [.int (q_d 32)]) (pc2 := 0) rfl rfl ?_
  refine A_istore hg dX11_root_4 (by decide) (q_c1d rfl) ?_
  refine A_eq (ls2 := [some (.long (lN (v))), none, some (.long (lN (0))), none, some (.int (q_d (32))), none, none]) (st2 := []) (pc2 := 0) rfl rfl ?_
  have hL6 : ∀ (fu : Nat) (r : Nat) (j : Nat), (r + 2 ^ j ≤ 2 ^ 32) → (r % 2 ^ j = 0) → (j ≤ 32) → (s_rtb v r j = s_rt v) → j < fu → AJ G K Q 0 0 ex n 6 [some (.long (lN (v))), none, some (.long (lN (r))), none, some (.int (q_d (j))), none, none] [] σ := by
    intro fu
    induction fu with
    | zero => intro r j hr2 hr3 hj hpu hm; exact absurd hm (Nat.not_lt_zero _)
    | succ fu ih6 =>
      intro r j hr2 hr3 hj hpu hm6
      refine A_iload hg dX11_root_6 rfl ?_
      refine A_if_ltM (tgt := 38) hg dX11_root_8 (by omega) (by decide) (fun c8 => ?_) (fun c8 => ?_)
      · skip
        refine A_lload_n hg dX11_root_38 rfl rfl ?_
        rw [hQ]
        exact A_lreturn hg (by decide) (by decide) rfl dX11_root_39 ⟨rfl, ⟨rfl, (congrArg (fun z => some (Value.long (lN z))) (show r = s_rt v from by rw [← hpu, c8]; rfl))⟩⟩
      · skip
        have hj1 : 1 ≤ j := by omega
        have hpw := s_pw hj1
        have hp0 : 0 < 2 ^ (j - 1) := Nat.two_pow_pos _
        have hcp : 0 < r + 2 ^ (j - 1) := by omega
        have hp1 : 2 ^ (j - 1) < 2 ^ 32 := by omega
        refine A_lload_n hg dX11_root_11 rfl rfl ?_
        refine A_lconst (v := (lN (1))) hg dX11_root_12 (by decide) ?_
        refine A_iload hg dX11_root_13 rfl ?_
        refine A_top (w := .int (nI (j - 1))) (congrArg Value.int (q_dP hj1)) ?_
        refine A_lshl (v := lN (2 ^ (j - 1))) hg dX11_root_15 (lP_shl1 (by omega)) ?_
        refine A_lor hg dX11_root_16 ?_
        refine A_top (w := .long (lN (r + 2 ^ (j - 1)))) (congrArg Value.long ((lP_or _ _).trans (congrArg lN (s_orb hj1 hr3)))) ?_
        refine A_lstore hg dX11_root_17 (by decide) (q_c1d rfl) (by simp) ?_
        refine A_eq (ls2 := [some (.long (lN (v))), none, some (.long (lN (r))), none, some (.int (q_d (j))), some (.long (lN (r + 2 ^ (j - 1)))), none]) (st2 := []) (pc2 := 0) rfl rfl ?_
        refine A_lload hg dX11_root_19 rfl ?_
        refine A_lload_n hg dX11_root_21 rfl rfl ?_
        refine A_lload hg dX11_root_22 rfl ?_
        refine A_ldivP hg dX11_root_24 (by omega) (by omega) (by omega) ?_
        refine A_lcmp hg dX11_root_25 ?_
        refine A_lc_gt (tgt := 32) hg dX11_root_26 (by omega) (Nat.lt_of_le_of_lt (Nat.div_le_self _ _) hv) (by decide) (fun c26 => ?_) (fun c26 => ?_)
        · skip
          refine A_iinc (v := (q_d (j - 1))) hg dX11_root_32 rfl (q_dD (by omega)) (by decide) (q_c1d rfl) ?_
          refine A_eq (ls2 := [some (.long (lN (v))), none, some (.long (lN (r))), none, some (.int (q_d (j - 1))), some (.long (lN (r + 2 ^ (j - 1)))), none]) (st2 := []) (pc2 := 0) rfl rfl ?_
          refine A_goto (tgt := 6) hg dX11_root_35 (by decide) ?_
          refine A_drop 5 ?_
          exact ih6 r (j - 1) (by omega) (s_md1 (by omega) hr3) (by omega) ((s_rtb_f (by omega) (fun z => (s_cdc hcp).mpr z c26)).symm.trans hpu) (by omega)
        · skip
          refine A_lload hg dX11_root_29 rfl ?_
          refine A_lstore_n hg dX11_root_31 rfl (by decide) (q_c1d rfl) (by simp) ?_
          refine A_eq (ls2 := [some (.long (lN (v))), none, some (.long (lN (r + 2 ^ (j - 1)))), none, some (.int (q_d (j))), some (.long (lN (r + 2 ^ (j - 1)))), none]) (st2 := []) (pc2 := 0) rfl rfl ?_
          refine A_iinc (v := (q_d (j - 1))) hg dX11_root_32 rfl (q_dD (by omega)) (by decide) (q_c1d rfl) ?_
          refine A_eq (ls2 := [some (.long (lN (v))), none, some (.long (lN (r + 2 ^ (j - 1)))), none, some (.int (q_d (j - 1))), some (.long (lN (r + 2 ^ (j - 1)))), none]) (st2 := []) (pc2 := 0) rfl rfl ?_
          refine A_goto (tgt := 6) hg dX11_root_35 (by decide) ?_
          refine A_drop 5 ?_
          exact ih6 (r + 2 ^ (j - 1)) (j - 1) (by omega) (s_md2 (by omega) hr3) (by omega) ((s_rtb_t (by omega) ((s_cdc hcp).mp c26)).symm.trans hpu) (by omega)
  exact hL6 _ 0 32 (by decide) (Nat.zero_mod _) (Nat.le_refl _) rfl (Nat.lt_succ_self _)
set_option maxRecDepth 100000 in
set_option maxHeartbeats 4000000 in
theorem c_X11_goldenA (G : GL) (ex : Bool) (n : Nat) (σ : Nat → va_E) (s : Nat) (m : Nat)  (hs5 : s ≤ 5) (hm9 : m ≤ 500000000) : Ct G yX11_goldenA cX11_goldenA 3 (some .long) ⟨1, 0, 0, 26⟩ [.int (nI (s)), .long (lN (m))] ex n σ (fun v9 σ2 => σ2 = σ ∧ v9 = some (.long (lN (s_gA s m)))) := by
  refine q_enter [some (.int (nI (s))), some (.long (lN (m))), none] (by decide) (Nat.le_of_ble_eq_true rfl) rfl ?_
  intro K hg
  obtain ⟨Q, hQ⟩ : ∃ Q, Q = q_Q G K ex n 0 0 (fun v9 n' σ' => n' = n ∧ (fun v9 σ2 => σ2 = σ ∧ v9 = some (.long (lN (s_gA s m)))) v9 σ') q_noX := ⟨_, rfl⟩
  refine (?_ : AJ G K (q_Q G K ex n 0 0 _ _) 0 0 ex n 0 _ _ σ)
  rw [← hQ]
  have hle := s_gn_le hs5 hm9
  have hgd := s_gd_lt hs5 hm9
  have hrl := s_rt_lt (Nat.lt_of_lt_of_le hgd (by decide : 2 ^ 63 ≤ 2 ^ 64))
  have hss : s * s ≤ 25 := Nat.mul_le_mul hs5 hs5
  refine A_lload_n hg dX11_goldenA_0 rfl rfl ?_
  refine A_lconst (v := (lN (0))) hg dX11_goldenA_1 (by decide) ?_
  refine A_lcmp hg dX11_goldenA_2 ?_
  refine A_lc_ne (tgt := 10) hg dX11_goldenA_3 (by omega) (by decide) (by decide) (fun c3 => ?_) (fun c3 => ?_)
  · skip
    refine A_lload_n hg dX11_goldenA_10 rfl rfl ?_
    refine A_iconst (v := (nI (2))) hg dX11_goldenA_11 (by decide) ?_
    refine A_iload_n hg dX11_goldenA_12 rfl rfl ?_
    refine A_isub hg dX11_goldenA_13 ?_
    refine A_i2l (v := ((nI (2)) - (nI (s))).toInt64) hg dX11_goldenA_14 rfl ?_
    refine A_lmul hg dX11_goldenA_15 ?_
    refine A_lload_n hg dX11_goldenA_16 rfl rfl ?_
    refine A_lload_n hg dX11_goldenA_17 rfl rfl ?_
    refine A_lmulP hg dX11_goldenA_18 ?_
    refine A_iload_n hg dX11_goldenA_19 rfl rfl ?_
    refine A_iload_n hg dX11_goldenA_20 rfl rfl ?_
    refine A_imulN hg dX11_goldenA_21 ?_
    refine A_iconst (v := (nI (4))) hg dX11_goldenA_22 (by decide) ?_
    refine A_iaddN hg dX11_goldenA_23 ?_
    refine A_i2lP hg dX11_goldenA_24 (by omega) ?_
    refine A_lmulP hg dX11_goldenA_25 ?_
    refine A_eS (kc2 := 0) (ks2 := 0) (As := [.long (lN ((m * m) * ((s * s) + 4)))]) (rest := [.long ((lN (m)) * (((nI (2)) - (nI (s))).toInt64))]) hg lk_RX11_146 st_X11_root dX11_goldenA_26 ⟨by decide, by decide⟩ rfl rfl ⟨by decide, by decide⟩ rfl rfl (Nat.le_of_ble_eq_true rfl) (c_X11_root G ex n σ ((m * m) * ((s * s) + 4)) hgd) ?_
    refine A_top (w := .long (lN (s_rt (s_gd s m)))) rfl ?_
    refine A_ladd hg dX11_goldenA_29 ?_
    refine A_top (w := .long (lN (2 * m + s_rt (s_gd s m) - s * m))) (congrArg Value.long (s_gA_sum hle hs5)) ?_
    refine A_ldc2 (v := (lN (2))) hg dX11_goldenA_30 (q_mt 1909 (by decide +kernel)) ?_
    refine A_eS (kc2 := 0) (ks2 := 0) (As := [.long (lN (2 * m + s_rt (s_gd s m) - s * m)), .long (lN (2))]) (rest := []) hg lk_RX11_152 st_J9_floorDiv_f86c9 dX11_goldenA_33 ⟨by decide, by decide⟩ rfl rfl ⟨by decide, by decide⟩ rfl rfl (Nat.le_of_ble_eq_true rfl) (c_J9_floorDiv G ex n σ (2 * m + s_rt (s_gd s m) - s * m) 2 (by omega) (by decide) (by decide)) ?_
    rw [hQ]
    exact A_lreturn hg (by decide) (by decide) rfl dX11_goldenA_36 ⟨rfl, ⟨rfl, rfl⟩⟩
  · skip
    refine A_lconst (v := (lN (0))) hg dX11_goldenA_6 (by decide) ?_
    refine A_goto (tgt := 36) hg dX11_goldenA_7 (by decide) ?_
    rw [hQ]
    exact A_lreturn hg (by decide) (by decide) rfl dX11_goldenA_36 ⟨rfl, ⟨rfl, (by rw [c3, s_gA_0])⟩⟩
set_option maxRecDepth 100000 in
set_option maxHeartbeats 4000000 in
theorem c_X11_goldenB (G : GL) (ex : Bool) (n : Nat) (σ : Nat → va_E) (s : Nat) (m : Nat)  (hs5 : s ≤ 5) (hm9 : m ≤ 500000000) : Ct G yX11_goldenB cX11_goldenB 3 (some .long) ⟨2, 0, 0, 48⟩ [.int (nI (s)), .long (lN (m))] ex n σ (fun v9 σ2 => σ2 = σ ∧ v9 = some (.long (lN (s_gB s m)))) := by
  refine q_enter [some (.int (nI (s))), some (.long (lN (m))), none] (by decide) (Nat.le_of_ble_eq_true rfl) rfl ?_
  intro K hg
  obtain ⟨Q, hQ⟩ : ∃ Q, Q = q_Q G K ex n 0 0 (fun v9 n' σ' => n' = n ∧ (fun v9 σ2 => σ2 = σ ∧ v9 = some (.long (lN (s_gB s m)))) v9 σ') q_noX := ⟨_, rfl⟩
  refine (?_ : AJ G K (q_Q G K ex n 0 0 _ _) 0 0 ex n 0 _ _ σ)
  rw [← hQ]
  refine A_iload_n hg dX11_goldenB_0 rfl rfl ?_
  refine A_lload_n hg dX11_goldenB_1 rfl rfl ?_
  refine A_eS (kc2 := 0) (ks2 := 0) (As := [.int (nI (s)), .long (lN (m))]) (rest := []) hg lk_RX11_156 st_X11_goldenA dX11_goldenB_2 ⟨by decide, by decide⟩ rfl rfl ⟨by decide, by decide⟩ rfl rfl (Nat.le_of_ble_eq_true rfl) (c_X11_goldenA G ex n σ s m (by omega) (by omega)) ?_
  refine A_iload_n hg dX11_goldenB_5 rfl rfl ?_
  refine A_i2lP hg dX11_goldenB_6 (by omega) ?_
  refine A_lload_n hg dX11_goldenB_7 rfl rfl ?_
  refine A_lmulP hg dX11_goldenB_8 ?_
  refine A_laddP hg dX11_goldenB_9 ?_
  rw [hQ]
  exact A_lreturn hg (by decide) (by decide) rfl dX11_goldenB_10 ⟨rfl, ⟨rfl, rfl⟩⟩
set_option maxRecDepth 100000 in
set_option maxHeartbeats 4000000 in
theorem c_X11_lastIndex (G : GL) (ex : Bool) (n : Nat) (σ : Nat → va_E) (s : Nat) (v : Nat) (b : Bool)  (hs5 : s ≤ 5) (hv9 : v ≤ 500000000) : Ct G yX11_lastIndex cX11_lastIndex 12 (some .long) ⟨3, 0, 0, 70⟩ [.int (nI (s)), .long (lN (v)), .int (q_b (b))] ex n σ (fun v9 σ2 => σ2 = σ ∧ v9 = some (.long (lN (s_li s b v)))) := by
  refine q_enter [some (.int (nI (s))), some (.long (lN (v))), none, some (.int (q_b (b))), none, none, none, none, none, none, none, none] (by decide) (Nat.le_of_ble_eq_true rfl) rfl ?_
  intro K hg
  obtain ⟨Q, hQ⟩ : ∃ Q, Q = q_Q G K ex n 0 0 (fun v9 n' σ' => n' = n ∧ (fun v9 σ2 => σ2 = σ ∧ v9 = some (.long (lN (s_li s b v)))) v9 σ') q_noX := ⟨_, rfl⟩
  refine (?_ : AJ G K (q_Q G K ex n 0 0 _ _) 0 0 ex n 0 _ _ σ)
  rw [← hQ]
  refine A_lconst (v := (lN (0))) hg dX11_lastIndex_0 (by decide) ?_
  refine A_lstore hg dX11_lastIndex_1 (by decide) (q_c1d rfl) (by simp) ?_
  refine A_eq (ls2 := [some (.int (nI (s))), some (.long (lN (v))), none, some (.int (q_b (b))), some (.long (lN (0))), none, none, none, none, none, none, none]) (st2 := []) (pc2 := 0) rfl rfl ?_
  refine A_lload_n hg dX11_lastIndex_3 rfl rfl ?_
  refine A_lstore hg dX11_lastIndex_4 (by decide) (q_c1d rfl) (by simp) ?_
  refine A_eq (ls2 := [some (.int (nI (s))), some (.long (lN (v))), none, some (.int (q_b (b))), some (.long (lN (0))), none, some (.long (lN (v))), none, none, none, none, none]) (st2 := []) (pc2 := 0) rfl rfl ?_
  have hL6 : ∀ (fu : Nat) (lo : Nat) (hi : Nat), (lo ≤ hi ∧ hi ≤ v) → (s_gX s b lo ≤ v) → (∀ k : Nat, hi < k → k ≤ v → v < s_gX s b k) → (hi - lo) < fu → AJ G K Q 0 0 ex n 6 [some (.int (nI (s))), some (.long (lN (v))), none, some (.int (q_b (b))), some (.long (lN (lo))), none, some (.long (lN (hi))), none, none, none, none, none] [] σ := by
    intro fu
    induction fu with
    | zero => intro lo hi hlh h1 h2 hm; exact absurd hm (Nat.not_lt_zero _)
    | succ fu ih6 =>
      intro lo hi hlh h1 h2 hm6
      refine A_lload hg dX11_lastIndex_6 rfl ?_
      refine A_lload hg dX11_lastIndex_8 rfl ?_
      refine A_lcmp hg dX11_lastIndex_10 ?_
      refine A_lc_ge (tgt := 71) hg dX11_lastIndex_11 (by omega) (by omega) (by decide) (fun c11 => ?_) (fun c11 => ?_)
      · skip
        refine A_lload hg dX11_lastIndex_71 rfl ?_
        rw [hQ]
        exact A_lreturn hg (by decide) (by decide) rfl dX11_lastIndex_73 ⟨rfl, ⟨rfl, (by rw [s_li_eq hs5 hv9 (by omega) h1 (fun k z1 z2 => h2 k (by omega) z2)])⟩⟩
      · skip
        refine A_lload hg dX11_lastIndex_14 rfl ?_
        refine A_lload hg dX11_lastIndex_16 rfl ?_
        refine A_laddP hg dX11_lastIndex_18 ?_
        refine A_lconst (v := (lN (1))) hg dX11_lastIndex_19 (by decide) ?_
        refine A_laddP hg dX11_lastIndex_20 ?_
        refine A_ldc2 (v := (lN (2))) hg dX11_lastIndex_21 (q_mt 1909 (by decide +kernel)) ?_
        refine A_ldivP hg dX11_lastIndex_24 (by omega) (by decide) (by decide) ?_
        refine A_lstore hg dX11_lastIndex_25 (by decide) (q_c1d rfl) (by simp) ?_
        refine A_eq (ls2 := [some (.int (nI (s))), some (.long (lN (v))), none, some (.int (q_b (b))), some (.long (lN (lo))), none, some (.long (lN (hi))), none, some (.long (lN (((lo + hi) + 1) / 2))), none, none, none]) (st2 := []) (pc2 := 0) rfl rfl ?_
        refine A_iload_n hg dX11_lastIndex_27 rfl rfl ?_
        refine A_if_eqB (tgt := 40) hg dX11_lastIndex_28 (by decide) (fun c28 => ?_) (fun c28 => ?_)
        · skip
          refine A_iload_n hg dX11_lastIndex_40 rfl rfl ?_
          refine A_lload hg dX11_lastIndex_41 rfl ?_
          refine A_eS (kc2 := 0) (ks2 := 0) (As := [.int (nI (s)), .long (lN (((lo + hi) + 1) / 2))]) (rest := []) hg lk_RX11_156 st_X11_goldenA dX11_lastIndex_43 ⟨by decide, by decide⟩ rfl rfl ⟨by decide, by decide⟩ rfl rfl (Nat.le_of_ble_eq_true rfl) (c_X11_goldenA G ex n σ s (((lo + hi) + 1) / 2) (by omega) (by omega)) ?_
          refine A_lstore hg dX11_lastIndex_46 (by decide) (q_c1d rfl) (by simp) ?_
          refine A_eq (ls2 := [some (.int (nI (s))), some (.long (lN (v))), none, some (.int (q_b (b))), some (.long (lN (lo))), none, some (.long (lN (hi))), none, some (.long (lN (((lo + hi) + 1) / 2))), none, some (.long (lN (s_gA s (((lo + hi) + 1) / 2)))), none]) (st2 := []) (pc2 := 0) rfl rfl ?_
          have hmid : lo < (lo + hi + 1) / 2 ∧ (lo + hi + 1) / 2 ≤ hi := ⟨by omega, by omega⟩
          have hX : s_gX s b ((lo + hi + 1) / 2) = s_gA s (((lo + hi) + 1) / 2) := by rw [c28]; exact s_gX_f _ _
          have hXl := s_gX_lt (b := b) hs5 (show (lo + hi + 1) / 2 ≤ 500000000 by omega)
          rw [hX] at hXl
          refine A_lload hg dX11_lastIndex_48 rfl ?_
          refine A_lload_n hg dX11_lastIndex_50 rfl rfl ?_
          refine A_lcmp hg dX11_lastIndex_51 ?_
          refine A_lc_gt (tgt := 62) hg dX11_lastIndex_52 (by omega) (by omega) (by decide) (fun c52 => ?_) (fun c52 => ?_)
          · skip
            refine A_lload hg dX11_lastIndex_62 rfl ?_
            refine A_lconst (v := (lN (1))) hg dX11_lastIndex_64 (by decide) ?_
            refine A_lsubP hg dX11_lastIndex_65 (by omega) ?_
            refine A_lstore hg dX11_lastIndex_66 (by decide) (q_c1d rfl) (by simp) ?_
            refine A_eq (ls2 := [some (.int (nI (s))), some (.long (lN (v))), none, some (.int (q_b (b))), some (.long (lN (lo))), none, some (.long (lN ((((lo + hi) + 1) / 2) - 1))), none, some (.long (lN (((lo + hi) + 1) / 2))), none, some (.long (lN (s_gA s (((lo + hi) + 1) / 2)))), none]) (st2 := []) (pc2 := 0) rfl rfl ?_
            refine A_goto (tgt := 6) hg dX11_lastIndex_68 (by decide) ?_
            refine A_drop 8 ?_
            refine A_drop 10 ?_
            exact ih6 lo ((((lo + hi) + 1) / 2) - 1) (by omega) h1 (fun k z1 z2 => by have := s_gX_mono (b := b) hs5 (show (lo + hi + 1) / 2 ≤ k by omega) (by omega); rw [hX] at this; omega) (by omega)
          · skip
            refine A_lload hg dX11_lastIndex_55 rfl ?_
            refine A_lstore hg dX11_lastIndex_57 (by decide) (q_c1d rfl) (by simp) ?_
            refine A_eq (ls2 := [some (.int (nI (s))), some (.long (lN (v))), none, some (.int (q_b (b))), some (.long (lN (((lo + hi) + 1) / 2))), none, some (.long (lN (hi))), none, some (.long (lN (((lo + hi) + 1) / 2))), none, some (.long (lN (s_gA s (((lo + hi) + 1) / 2)))), none]) (st2 := []) (pc2 := 0) rfl rfl ?_
            refine A_goto (tgt := 68) hg dX11_lastIndex_59 (by decide) ?_
            refine A_goto (tgt := 6) hg dX11_lastIndex_68 (by decide) ?_
            refine A_drop 8 ?_
            refine A_drop 10 ?_
            exact ih6 (((lo + hi) + 1) / 2) hi (by omega) (by rw [hX]; omega) h2 (by omega)
        · skip
          refine A_iload_n hg dX11_lastIndex_31 rfl rfl ?_
          refine A_lload hg dX11_lastIndex_32 rfl ?_
          refine A_eS (kc2 := 0) (ks2 := 0) (As := [.int (nI (s)), .long (lN (((lo + hi) + 1) / 2))]) (rest := []) hg lk_RX11_160 st_X11_goldenB dX11_lastIndex_34 ⟨by decide, by decide⟩ rfl rfl ⟨by decide, by decide⟩ rfl rfl (Nat.le_of_ble_eq_true rfl) (c_X11_goldenB G ex n σ s (((lo + hi) + 1) / 2) (by omega) (by omega)) ?_
          refine A_goto (tgt := 46) hg dX11_lastIndex_37 (by decide) ?_
          refine A_lstore hg dX11_lastIndex_46 (by decide) (q_c1d rfl) (by simp) ?_
          refine A_eq (ls2 := [some (.int (nI (s))), some (.long (lN (v))), none, some (.int (q_b (b))), some (.long (lN (lo))), none, some (.long (lN (hi))), none, some (.long (lN (((lo + hi) + 1) / 2))), none, some (.long (lN (s_gB s (((lo + hi) + 1) / 2)))), none]) (st2 := []) (pc2 := 0) rfl rfl ?_
          have hmid : lo < (lo + hi + 1) / 2 ∧ (lo + hi + 1) / 2 ≤ hi := ⟨by omega, by omega⟩
          have hX : s_gX s b ((lo + hi + 1) / 2) = s_gB s (((lo + hi) + 1) / 2) := by rw [c28]; exact s_gX_t _ _
          have hXl := s_gX_lt (b := b) hs5 (show (lo + hi + 1) / 2 ≤ 500000000 by omega)
          rw [hX] at hXl
          refine A_lload hg dX11_lastIndex_48 rfl ?_
          refine A_lload_n hg dX11_lastIndex_50 rfl rfl ?_
          refine A_lcmp hg dX11_lastIndex_51 ?_
          refine A_lc_gt (tgt := 62) hg dX11_lastIndex_52 (by omega) (by omega) (by decide) (fun c52 => ?_) (fun c52 => ?_)
          · skip
            refine A_lload hg dX11_lastIndex_62 rfl ?_
            refine A_lconst (v := (lN (1))) hg dX11_lastIndex_64 (by decide) ?_
            refine A_lsubP hg dX11_lastIndex_65 (by omega) ?_
            refine A_lstore hg dX11_lastIndex_66 (by decide) (q_c1d rfl) (by simp) ?_
            refine A_eq (ls2 := [some (.int (nI (s))), some (.long (lN (v))), none, some (.int (q_b (b))), some (.long (lN (lo))), none, some (.long (lN ((((lo + hi) + 1) / 2) - 1))), none, some (.long (lN (((lo + hi) + 1) / 2))), none, some (.long (lN (s_gB s (((lo + hi) + 1) / 2)))), none]) (st2 := []) (pc2 := 0) rfl rfl ?_
            refine A_goto (tgt := 6) hg dX11_lastIndex_68 (by decide) ?_
            refine A_drop 8 ?_
            refine A_drop 10 ?_
            exact ih6 lo ((((lo + hi) + 1) / 2) - 1) (by omega) h1 (fun k z1 z2 => by have := s_gX_mono (b := b) hs5 (show (lo + hi + 1) / 2 ≤ k by omega) (by omega); rw [hX] at this; omega) (by omega)
          · skip
            refine A_lload hg dX11_lastIndex_55 rfl ?_
            refine A_lstore hg dX11_lastIndex_57 (by decide) (q_c1d rfl) (by simp) ?_
            refine A_eq (ls2 := [some (.int (nI (s))), some (.long (lN (v))), none, some (.int (q_b (b))), some (.long (lN (((lo + hi) + 1) / 2))), none, some (.long (lN (hi))), none, some (.long (lN (((lo + hi) + 1) / 2))), none, some (.long (lN (s_gB s (((lo + hi) + 1) / 2)))), none]) (st2 := []) (pc2 := 0) rfl rfl ?_
            refine A_goto (tgt := 68) hg dX11_lastIndex_59 (by decide) ?_
            refine A_goto (tgt := 6) hg dX11_lastIndex_68 (by decide) ?_
            refine A_drop 8 ?_
            refine A_drop 10 ?_
            exact ih6 (((lo + hi) + 1) / 2) hi (by omega) (by rw [hX]; omega) h2 (by omega)
  exact hL6 _ 0 v (⟨Nat.zero_le _, Nat.le_refl _⟩) (by rw [s_gX_0]; exact Nat.zero_le _) (fun k h1 h2 => absurd h1 (by omega)) (Nat.lt_succ_self _)
set_option maxRecDepth 100000 in
set_option maxHeartbeats 4000000 in
theorem c_X11_isInRow (G : GL) (ex : Bool) (n : Nat) (σ : Nat → va_E) (s : Nat) (v : Nat) (b : Bool)  (hs5 : s ≤ 5) (hv9 : v ≤ 500000000) : Ct G yX11_isInRow cX11_isInRow 6 (some .boolean) ⟨4, 0, 0, 101⟩ [.int (nI (s)), .long (lN (v)), .int (q_b (b))] ex n σ (fun v9 σ2 => σ2 = σ ∧ v9 = some (.int (q_b (s_gX s b (s_li s b v) == v)))) := by
  refine q_enter [some (.int (nI (s))), some (.long (lN (v))), none, some (.int (q_b (b))), none, none] (by decide) (Nat.le_of_ble_eq_true rfl) rfl ?_
  intro K hg
  obtain ⟨Q, hQ⟩ : ∃ Q, Q = q_Q G K ex n 0 0 (fun v9 n' σ' => n' = n ∧ (fun v9 σ2 => σ2 = σ ∧ v9 = some (.int (q_b (s_gX s b (s_li s b v) == v)))) v9 σ') q_noX := ⟨_, rfl⟩
  refine (?_ : AJ G K (q_Q G K ex n 0 0 _ _) 0 0 ex n 0 _ _ σ)
  rw [← hQ]
  have hll := s_li_le s b v
  have hXl := s_gX_lt (b := b) hs5 (show s_li s b v ≤ 500000000 by omega)
  refine A_iload_n hg dX11_isInRow_0 rfl rfl ?_
  refine A_lload_n hg dX11_isInRow_1 rfl rfl ?_
  refine A_iload_n hg dX11_isInRow_2 rfl rfl ?_
  refine A_eS (kc2 := 0) (ks2 := 0) (As := [.int (nI (s)), .long (lN (v)), .int (q_b (b))]) (rest := []) hg lk_RX11_163 st_X11_lastIndex dX11_isInRow_3 ⟨by decide, by decide⟩ rfl rfl ⟨by decide, by decide⟩ rfl rfl (Nat.le_of_ble_eq_true rfl) (c_X11_lastIndex G ex n σ s v b (by omega) (by omega)) ?_
  refine A_lstore hg dX11_isInRow_6 (by decide) (q_c1d rfl) (by simp) ?_
  refine A_eq (ls2 := [some (.int (nI (s))), some (.long (lN (v))), none, some (.int (q_b (b))), some (.long (lN (s_li s b v))), none]) (st2 := []) (pc2 := 0) rfl rfl ?_
  refine A_iload_n hg dX11_isInRow_8 rfl rfl ?_
  refine A_if_eqB (tgt := 21) hg dX11_isInRow_9 (by decide) (fun c9 => ?_) (fun c9 => ?_)
  · skip
    refine A_iload_n hg dX11_isInRow_21 rfl rfl ?_
    refine A_lload hg dX11_isInRow_22 rfl ?_
    refine A_eS (kc2 := 0) (ks2 := 0) (As := [.int (nI (s)), .long (lN (s_li s b v))]) (rest := []) hg lk_RX11_156 st_X11_goldenA dX11_isInRow_24 ⟨by decide, by decide⟩ rfl rfl ⟨by decide, by decide⟩ rfl rfl (Nat.le_of_ble_eq_true rfl) (c_X11_goldenA G ex n σ s (s_li s b v) (by omega) (by omega)) ?_
    refine A_lload_n hg dX11_isInRow_27 rfl rfl ?_
    have hX : s_gX s b (s_li s b v) = s_gA s (s_li s b v) := by rw [c9]; exact s_gX_f _ _
    rw [hX] at hXl
    refine A_lcmp hg dX11_isInRow_28 ?_
    refine A_lc_ne (tgt := 36) hg dX11_isInRow_29 (by omega) (by omega) (by decide) (fun c29 => ?_) (fun c29 => ?_)
    · skip
      refine A_iconst (v := (nI (0))) hg dX11_isInRow_36 (by decide) ?_
      rw [hQ]
      exact A_zreturn hg (by decide) (by decide) rfl rfl dX11_isInRow_37 ⟨rfl, ⟨rfl, (q_rf (beq_eq_false_iff_ne.mpr (fun z => c29 (hX.symm.trans z))))⟩⟩
    · skip
      refine A_iconst (v := (nI (1))) hg dX11_isInRow_32 (by decide) ?_
      refine A_goto (tgt := 37) hg dX11_isInRow_33 (by decide) ?_
      rw [hQ]
      exact A_zreturn hg (by decide) (by decide) rfl rfl dX11_isInRow_37 ⟨rfl, ⟨rfl, (q_rt (beq_iff_eq.mpr (hX.trans c29)))⟩⟩
  · skip
    refine A_iload_n hg dX11_isInRow_12 rfl rfl ?_
    refine A_lload hg dX11_isInRow_13 rfl ?_
    refine A_eS (kc2 := 0) (ks2 := 0) (As := [.int (nI (s)), .long (lN (s_li s b v))]) (rest := []) hg lk_RX11_160 st_X11_goldenB dX11_isInRow_15 ⟨by decide, by decide⟩ rfl rfl ⟨by decide, by decide⟩ rfl rfl (Nat.le_of_ble_eq_true rfl) (c_X11_goldenB G ex n σ s (s_li s b v) (by omega) (by omega)) ?_
    refine A_goto (tgt := 27) hg dX11_isInRow_18 (by decide) ?_
    refine A_lload_n hg dX11_isInRow_27 rfl rfl ?_
    have hX : s_gX s b (s_li s b v) = s_gB s (s_li s b v) := by rw [c9]; exact s_gX_t _ _
    rw [hX] at hXl
    refine A_lcmp hg dX11_isInRow_28 ?_
    refine A_lc_ne (tgt := 36) hg dX11_isInRow_29 (by omega) (by omega) (by decide) (fun c29 => ?_) (fun c29 => ?_)
    · skip
      refine A_iconst (v := (nI (0))) hg dX11_isInRow_36 (by decide) ?_
      rw [hQ]
      exact A_zreturn hg (by decide) (by decide) rfl rfl dX11_isInRow_37 ⟨rfl, ⟨rfl, (q_rf (beq_eq_false_iff_ne.mpr (fun z => c29 (hX.symm.trans z))))⟩⟩
    · skip
      refine A_iconst (v := (nI (1))) hg dX11_isInRow_32 (by decide) ?_
      refine A_goto (tgt := 37) hg dX11_isInRow_33 (by decide) ?_
      rw [hQ]
      exact A_zreturn hg (by decide) (by decide) rfl rfl dX11_isInRow_37 ⟨rfl, ⟨rfl, (q_rt (beq_iff_eq.mpr (hX.trans c29)))⟩⟩
end
