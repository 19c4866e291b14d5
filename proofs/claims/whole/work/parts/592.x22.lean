section
set_option maxRecDepth 100000 in
set_option maxHeartbeats 4000000 in
theorem c_X10_needRange (G : GL) (ex : Bool) (n : Nat) (σ : Nat → va_E) (x : Int32) (lo : Nat) (hi : Nat)  (hlo9 : lo < 2 ^ 31) (hhi9 : hi < 2 ^ 31) : CtX G yX10_needRange cX10_needRange 3 none ⟨6, 1, 6, 90⟩ [.int (x), .int (nI (lo)), .int (nI (hi))] ex n σ (fun v9 σ2 => σ2 = σ ∧ ∃ (v : Nat), v9 = none ∧ (x = nI v) ∧ (lo ≤ v) ∧ (v ≤ hi)) (fun E σ2 => σ2 = σ ∧ ((E = "java/lang/IllegalArgumentException" ∧ (∀ j : Nat, lo ≤ j → j ≤ hi → x = nI j → False)))) := by
  refine q_enter [some (.int (x)), some (.int (nI (lo))), some (.int (nI (hi)))] (by decide) (Nat.le_of_ble_eq_true rfl) rfl ?_
  intro K hg
  obtain ⟨Q, hQ⟩ : ∃ Q, Q = q_Q G K ex n 1 6 (fun v9 n' σ' => n' = n ∧ (fun v9 σ2 => σ2 = σ ∧ ∃ (v : Nat), v9 = none ∧ (x = nI v) ∧ (lo ≤ v) ∧ (v ≤ hi)) v9 σ') (fun E σ2 => σ2 = σ ∧ ((E = "java/lang/IllegalArgumentException" ∧ (∀ j : Nat, lo ≤ j → j ≤ hi → x = nI j → False)))) := ⟨_, rfl⟩
  refine (?_ : AJ G K (q_Q G K ex n 1 6 _ _) 0 0 ex n 0 _ _ σ)
  rw [← hQ]
  refine A_iload_n hg dX10_needRange_0 rfl rfl ?_
  refine A_iload_n hg dX10_needRange_1 rfl rfl ?_
  refine A_icmp_lt (tgt := 10) hg dX10_needRange_2 (by decide) (fun c2 => ?_) (fun c2 => ?_)
  · skip
    rw [hQ]
    exact A_throwSW (text := "a number is out of its range") (names := ["java/lang/RuntimeException", "java/lang/Exception"]) hg (by decide +kernel) (by decide +kernel) tw_IllegalArgumentException.2.2.1 tw_IllegalArgumentException.2.2.2 (q_mt 951 (by decide +kernel)) tw_IllegalArgumentException.1 tw_IllegalArgumentException.2.1 dX10_needRange_10 dX10_needRange_13 dX10_needRange_14 dX10_needRange_17 dX10_needRange_20 ⟨by decide, by decide, by decide, by decide⟩ (by decide) (by decide) ⟨rfl, ⟨rfl, (fun j h1 h2 e => by subst e; first | exact absurd c2 (fun z => by rw [nI_ltI (by omega) hlo9] at z; omega) | exact absurd c7 (fun z => z ((nI_leI (by omega) hhi9).mpr h2)))⟩⟩
  · skip
    refine A_iload_n hg dX10_needRange_5 rfl rfl ?_
    refine A_iload_n hg dX10_needRange_6 rfl rfl ?_
    refine A_icmp_le (tgt := 21) hg dX10_needRange_7 (by decide) (fun c7 => ?_) (fun c7 => ?_)
    · skip
      obtain ⟨v, hv31, hve⟩ := nI_of (x := x) (fun z => c2 (Int32.lt_of_lt_of_le z (nI_pos' hlo9)))
      subst hve
      rw [hQ]
      exact A_return hg (by decide) (by decide) rfl dX10_needRange_21 ⟨rfl, ⟨rfl, v, rfl, rfl, (by by_cases z : lo ≤ v; exact z; exact absurd ((nI_ltI hv31 hlo9).mpr (by omega)) c2), ((nI_leI hv31 hhi9).mp c7)⟩⟩
    · skip
      rw [hQ]
      exact A_throwSW (text := "a number is out of its range") (names := ["java/lang/RuntimeException", "java/lang/Exception"]) hg (by decide +kernel) (by decide +kernel) tw_IllegalArgumentException.2.2.1 tw_IllegalArgumentException.2.2.2 (q_mt 951 (by decide +kernel)) tw_IllegalArgumentException.1 tw_IllegalArgumentException.2.1 dX10_needRange_10 dX10_needRange_13 dX10_needRange_14 dX10_needRange_17 dX10_needRange_20 ⟨by decide, by decide, by decide, by decide⟩ (by decide) (by decide) ⟨rfl, ⟨rfl, (fun j h1 h2 e => by subst e; first | exact absurd c2 (fun z => by rw [nI_ltI (by omega) hlo9] at z; omega) | exact absurd c7 (fun z => z ((nI_leI (by omega) hhi9).mpr h2)))⟩⟩
set_option maxRecDepth 100000 in
set_option maxHeartbeats 4000000 in
theorem c_X10_needPlayer (G : GL) (ex : Bool) (n : Nat) (σ : Nat → va_E) (x : Int32)   : CtX G yX10_needPlayer cX10_needPlayer 1 none ⟨6, 1, 6, 90⟩ [.int (x)] ex n σ (fun v9 σ2 => σ2 = σ ∧ ∃ (v : Nat), v9 = none ∧ (x = nI v) ∧ (v ≤ 1)) (fun E σ2 => σ2 = σ ∧ ((E = "java/lang/IndexOutOfBoundsException" ∧ (∀ j : Nat, 0 ≤ j → j ≤ 1 → x = nI j → False)))) := by
  refine q_enter [some (.int (x))] (by decide) (Nat.le_of_ble_eq_true rfl) rfl ?_
  intro K hg
  obtain ⟨Q, hQ⟩ : ∃ Q, Q = q_Q G K ex n 1 6 (fun v9 n' σ' => n' = n ∧ (fun v9 σ2 => σ2 = σ ∧ ∃ (v : Nat), v9 = none ∧ (x = nI v) ∧ (v ≤ 1)) v9 σ') (fun E σ2 => σ2 = σ ∧ ((E = "java/lang/IndexOutOfBoundsException" ∧ (∀ j : Nat, 0 ≤ j → j ≤ 1 → x = nI j → False)))) := ⟨_, rfl⟩
  refine (?_ : AJ G K (q_Q G K ex n 1 6 _ _) 0 0 ex n 0 _ _ σ)
  rw [← hQ]
  refine A_iload_n hg dX10_needPlayer_0 rfl rfl ?_
  refine A_if_lt (tgt := 9) hg dX10_needPlayer_1 (by decide) (fun c1 => ?_) (fun c1 => ?_)
  · skip
    rw [hQ]
    exact A_throwSW (text := "there is no such player") (names := ["java/lang/RuntimeException", "java/lang/Exception"]) hg (by decide +kernel) (by decide +kernel) tw_IndexOutOfBoundsException.2.2.1 tw_IndexOutOfBoundsException.2.2.2 (q_mt 941 (by decide +kernel)) tw_IndexOutOfBoundsException.1 tw_IndexOutOfBoundsException.2.1 dX10_needPlayer_9 dX10_needPlayer_12 dX10_needPlayer_13 dX10_needPlayer_16 dX10_needPlayer_19 ⟨by decide, by decide, by decide, by decide⟩ (by decide) (by decide) ⟨rfl, ⟨rfl, (fun j h1 h2 e => nI_pos (show j < 2 ^ 31 by omega) (e ▸ c1))⟩⟩
  · skip
    obtain ⟨v, hv31, hve⟩ := nI_of c1
    subst hve
    refine A_iload_n hg dX10_needPlayer_4 rfl rfl ?_
    refine A_iconst (v := (nI (2))) hg dX10_needPlayer_5 (by decide) ?_
    refine A_icmp_ltN (tgt := 20) hg dX10_needPlayer_6 (by omega) (by decide) (by decide) (fun c6 => ?_) (fun c6 => ?_)
    · skip
      rw [hQ]
      exact A_return hg (by decide) (by decide) rfl dX10_needPlayer_20 ⟨rfl, ⟨rfl, v, rfl, rfl, (by omega)⟩⟩
    · skip
      rw [hQ]
      exact A_throwSW (text := "there is no such player") (names := ["java/lang/RuntimeException", "java/lang/Exception"]) hg (by decide +kernel) (by decide +kernel) tw_IndexOutOfBoundsException.2.2.1 tw_IndexOutOfBoundsException.2.2.2 (q_mt 941 (by decide +kernel)) tw_IndexOutOfBoundsException.1 tw_IndexOutOfBoundsException.2.1 dX10_needPlayer_9 dX10_needPlayer_12 dX10_needPlayer_13 dX10_needPlayer_16 dX10_needPlayer_19 ⟨by decide, by decide, by decide, by decide⟩ (by decide) (by decide) ⟨rfl, ⟨rfl, (fun i h1 h2 e => by have := q_nI_inj hv31 (by omega) e; omega)⟩⟩
set_option maxRecDepth 100000 in
set_option maxHeartbeats 4000000 in
theorem c_X10_needRule (G : GL) (ex : Bool) (n : Nat) (σ : Nat → va_E) (z1 : Int32) (z2 : Int32) (z3 : Int32) (rm : Nat) (pl : Nat) (tn : Nat) (gm : Nat) (tk : Nat) (x : Int32) (hc0 : σ 0 = o10 G (z1) (z2) (z3)) (hc1 : σ 25 = o0 G (25) (nI (rm)) (nI (pl)) (nI (tn)) (nI (gm)) (nI (tk))) (hn9 : 279 ≤ n) (hrm : rm ≤ 4) : CtX G yX10_needRule cX10_needRule 2 none ⟨6, 1, 6, 90⟩ [.ref (q_h G + 0), .int (x)] ex n σ (fun v9 σ2 => σ2 = σ ∧ ∃ (v : Nat), v9 = none ∧ (x = nI v) ∧ (v < rm)) (fun E σ2 => σ2 = σ ∧ ((E = "java/lang/IndexOutOfBoundsException" ∧ (∀ j : Nat, j < rm → x = nI j → False)))) := by
  refine q_enter [some (.ref (q_h G + 0)), some (.int (x))] (by decide) (Nat.le_of_ble_eq_true rfl) rfl ?_
  intro K hg
  obtain ⟨Q, hQ⟩ : ∃ Q, Q = q_Q G K ex n 1 6 (fun v9 n' σ' => n' = n ∧ (fun v9 σ2 => σ2 = σ ∧ ∃ (v : Nat), v9 = none ∧ (x = nI v) ∧ (v < rm)) v9 σ') (fun E σ2 => σ2 = σ ∧ ((E = "java/lang/IndexOutOfBoundsException" ∧ (∀ j : Nat, j < rm → x = nI j → False)))) := ⟨_, rfl⟩
  refine (?_ : AJ G K (q_Q G K ex n 1 6 _ _) 0 0 ex n 0 _ _ σ)
  rw [← hQ]
  refine A_iload_n hg dX10_needRule_0 rfl rfl ?_
  refine A_if_lt (tgt := 15) hg dX10_needRule_1 (by decide) (fun c1 => ?_) (fun c1 => ?_)
  · skip
    rw [hQ]
    exact A_throwSW (text := "there is no such rule") (names := ["java/lang/RuntimeException", "java/lang/Exception"]) hg (by decide +kernel) (by decide +kernel) tw_IndexOutOfBoundsException.2.2.1 tw_IndexOutOfBoundsException.2.2.2 (q_mt 979 (by decide +kernel)) tw_IndexOutOfBoundsException.1 tw_IndexOutOfBoundsException.2.1 dX10_needRule_15 dX10_needRule_18 dX10_needRule_19 dX10_needRule_22 dX10_needRule_25 ⟨by decide, by decide, by decide, by decide⟩ (by decide) (by decide) ⟨rfl, ⟨rfl, (fun j h1 e => nI_pos (show j < 2 ^ 31 by omega) (e ▸ c1))⟩⟩
  · skip
    obtain ⟨v, hv31, hve⟩ := nI_of c1
    subst hve
    refine A_iload_n hg dX10_needRule_4 rfl rfl ?_
    refine A_aload_n hg dX10_needRule_5 rfl rfl ?_
    refine A_getf (v := .ref (q_h G + 25)) hg fl_RX10_40 dX10_needRule_6 hc0 (by omega) rfl ?_
    refine A_getf (v := .int (nI (rm))) hg fl_RX10_125 dX10_needRule_9 hc1 (by omega) rfl ?_
    refine A_icmp_ltN (tgt := 26) hg dX10_needRule_12 (by omega) (by omega) (by decide) (fun c12 => ?_) (fun c12 => ?_)
    · skip
      rw [hQ]
      exact A_return hg (by decide) (by decide) rfl dX10_needRule_26 ⟨rfl, ⟨rfl, v, rfl, rfl, c12⟩⟩
    · skip
      rw [hQ]
      exact A_throwSW (text := "there is no such rule") (names := ["java/lang/RuntimeException", "java/lang/Exception"]) hg (by decide +kernel) (by decide +kernel) tw_IndexOutOfBoundsException.2.2.1 tw_IndexOutOfBoundsException.2.2.2 (q_mt 979 (by decide +kernel)) tw_IndexOutOfBoundsException.1 tw_IndexOutOfBoundsException.2.1 dX10_needRule_15 dX10_needRule_18 dX10_needRule_19 dX10_needRule_22 dX10_needRule_25 ⟨by decide, by decide, by decide, by decide⟩ (by decide) (by decide) ⟨rfl, ⟨rfl, (fun i h1 e => by have := q_nI_inj hv31 (by omega) e; omega)⟩⟩
set_option maxRecDepth 100000 in
set_option maxHeartbeats 4000000 in
theorem c_X10_needPart (G : GL) (ex : Bool) (n : Nat) (σ : Nat → va_E) (z1 : Int32) (z2 : Int32) (z3 : Int32) (rm : Nat) (pl : Nat) (tn : Nat) (gm : Nat) (tk : Nat) (b : Nat) (sk : Nat) (x : Int32) (hc0 : σ 0 = o10 G (z1) (z2) (z3)) (hc1 : σ 25 = o0 G (25) (nI (rm)) (nI (pl)) (nI (tn)) (nI (gm)) (nI (tk))) (hc2 : σ 27 = o6 G (27) (nI (b)) (nI (sk))) (hn9 : 279 ≤ n) (hb4 : b ≤ 4) (hs4 : sk ≤ 4) : CtX G yX10_needPart cX10_needPart 2 none ⟨6, 1, 6, 90⟩ [.ref (q_h G + 0), .int (x)] ex n σ (fun v9 σ2 => σ2 = σ ∧ ∃ (v : Nat), v9 = none ∧ (x = nI v) ∧ (v < b + sk)) (fun E σ2 => σ2 = σ ∧ ((E = "java/lang/IndexOutOfBoundsException" ∧ (∀ j : Nat, j < b + sk → x = nI j → False)))) := by
  refine q_enter [some (.ref (q_h G + 0)), some (.int (x))] (by decide) (Nat.le_of_ble_eq_true rfl) rfl ?_
  intro K hg
  obtain ⟨Q, hQ⟩ : ∃ Q, Q = q_Q G K ex n 1 6 (fun v9 n' σ' => n' = n ∧ (fun v9 σ2 => σ2 = σ ∧ ∃ (v : Nat), v9 = none ∧ (x = nI v) ∧ (v < b + sk)) v9 σ') (fun E σ2 => σ2 = σ ∧ ((E = "java/lang/IndexOutOfBoundsException" ∧ (∀ j : Nat, j < b + sk → x = nI j → False)))) := ⟨_, rfl⟩
  refine (?_ : AJ G K (q_Q G K ex n 1 6 _ _) 0 0 ex n 0 _ _ σ)
  rw [← hQ]
  refine A_iload_n hg dX10_needPart_0 rfl rfl ?_
  refine A_if_lt (tgt := 18) hg dX10_needPart_1 (by decide) (fun c1 => ?_) (fun c1 => ?_)
  · skip
    rw [hQ]
    exact A_throwSW (text := "there is no such part") (names := ["java/lang/RuntimeException", "java/lang/Exception"]) hg (by decide +kernel) (by decide +kernel) tw_IndexOutOfBoundsException.2.2.1 tw_IndexOutOfBoundsException.2.2.2 (q_mt 1043 (by decide +kernel)) tw_IndexOutOfBoundsException.1 tw_IndexOutOfBoundsException.2.1 dX10_needPart_18 dX10_needPart_21 dX10_needPart_22 dX10_needPart_25 dX10_needPart_28 ⟨by decide, by decide, by decide, by decide⟩ (by decide) (by decide) ⟨rfl, ⟨rfl, (fun j h1 e => nI_pos (show j < 2 ^ 31 by omega) (e ▸ c1))⟩⟩
  · skip
    obtain ⟨v, hv31, hve⟩ := nI_of c1
    subst hve
    refine A_iload_n hg dX10_needPart_4 rfl rfl ?_
    refine A_aload_n hg dX10_needPart_5 rfl rfl ?_
    refine A_getf (v := .ref (q_h G + 25)) hg fl_RX10_40 dX10_needPart_6 hc0 (by omega) rfl ?_
    refine A_getf (v := .ref (q_h G + 27)) hg fl_RX10_118 dX10_needPart_9 hc1 (by omega) rfl ?_
    refine A_eV (kc2 := 0) (ks2 := 0) (As := []) (rest := [.int (nI (v))]) hg lk_RX10_121 in_X6_many se_X6_many rfl dX10_needPart_12 ⟨by decide, by decide⟩ rfl rfl ⟨by decide, by decide⟩ hc2 (by omega) rfl rfl (Nat.le_of_ble_eq_true rfl) (c_X6_many G ex n σ 27 b sk hc2 (by omega)) ?_
    refine A_icmp_ltN (tgt := 29) hg dX10_needPart_15 (by omega) (by omega) (by decide) (fun c15 => ?_) (fun c15 => ?_)
    · skip
      rw [hQ]
      exact A_return hg (by decide) (by decide) rfl dX10_needPart_29 ⟨rfl, ⟨rfl, v, rfl, rfl, c15⟩⟩
    · skip
      rw [hQ]
      exact A_throwSW (text := "there is no such part") (names := ["java/lang/RuntimeException", "java/lang/Exception"]) hg (by decide +kernel) (by decide +kernel) tw_IndexOutOfBoundsException.2.2.1 tw_IndexOutOfBoundsException.2.2.2 (q_mt 1043 (by decide +kernel)) tw_IndexOutOfBoundsException.1 tw_IndexOutOfBoundsException.2.1 dX10_needPart_18 dX10_needPart_21 dX10_needPart_22 dX10_needPart_25 dX10_needPart_28 ⟨by decide, by decide, by decide, by decide⟩ (by decide) (by decide) ⟨rfl, ⟨rfl, (fun i h1 e => by have := q_nI_inj hv31 (by omega) e; omega)⟩⟩
set_option maxRecDepth 100000 in
set_option maxHeartbeats 4000000 in
theorem c_X10_needHeaps (G : GL) (ex : Bool) (n : Nat) (σ : Nat → va_E) (k : Int32) (l : Int32)   : CtX G yX10_needHeaps cX10_needHeaps 2 none ⟨7, 2, 12, 112⟩ [.int (k), .int (l)] ex n σ (fun v9 σ2 => σ2 = σ ∧ ∃ (a : Nat), ∃ (b : Nat), v9 = none ∧ (k = nI a) ∧ (l = nI b) ∧ (a ≤ 40) ∧ (b ≤ 40)) (fun E σ2 => σ2 = σ ∧ ((E = "java/lang/IllegalArgumentException" ∧ (∀ a b : Nat, a ≤ 40 → b ≤ 40 → k = nI a → l = nI b → False)))) := by
  refine q_enter [some (.int (k)), some (.int (l))] (by decide) (Nat.le_of_ble_eq_true rfl) rfl ?_
  intro K hg
  obtain ⟨Q, hQ⟩ : ∃ Q, Q = q_Q G K ex n 2 12 (fun v9 n' σ' => n' = n ∧ (fun v9 σ2 => σ2 = σ ∧ ∃ (a : Nat), ∃ (b : Nat), v9 = none ∧ (k = nI a) ∧ (l = nI b) ∧ (a ≤ 40) ∧ (b ≤ 40)) v9 σ') (fun E σ2 => σ2 = σ ∧ ((E = "java/lang/IllegalArgumentException" ∧ (∀ a b : Nat, a ≤ 40 → b ≤ 40 → k = nI a → l = nI b → False)))) := ⟨_, rfl⟩
  refine (?_ : AJ G K (q_Q G K ex n 2 12 _ _) 0 0 ex n 0 _ _ σ)
  rw [← hQ]
  refine A_iload_n hg dX10_needHeaps_0 rfl rfl ?_
  refine A_iconst (v := (nI (0))) hg dX10_needHeaps_1 (by decide) ?_
  refine A_bipush (v := (nI (40))) hg dX10_needHeaps_2 (by decide) ?_
  refine A_pSX (kc2 := 1) (ks2 := 6) (As := [.int (k), .int (nI (0)), .int (nI (40))]) (rest := []) hg lk_RX10_179 st_X10_needRange dX10_needHeaps_4 ⟨by decide, by decide⟩ rfl rfl ⟨by decide, by decide⟩ rfl rfl (Nat.le_of_ble_eq_true rfl) (c_X10_needRange G ex n σ k 0 40 (by omega) (by omega)) (fun E σx hx => by rw [hQ]; exact A_out hg (by decide) (by decide) (by obtain ⟨hs, hE, hx⟩ := hx; exact ⟨hs, hE, fun a b h1 h2 e1 e2 => hx a (Nat.zero_le _) h1 e1⟩)) ?_
  rintro _ ⟨a, rfl, hke, ha1, ha2⟩
  refine (?_ : AJ G K Q 1 6 ex n 7 [some (.int (k)), some (.int (l))] [] σ)
  refine A_iload_n hg dX10_needHeaps_7 rfl rfl ?_
  refine A_iconst (v := (nI (0))) hg dX10_needHeaps_8 (by decide) ?_
  refine A_bipush (v := (nI (40))) hg dX10_needHeaps_9 (by decide) ?_
  refine A_pSX (kc2 := 2) (ks2 := 12) (As := [.int (l), .int (nI (0)), .int (nI (40))]) (rest := []) hg lk_RX10_179 st_X10_needRange dX10_needHeaps_11 ⟨by decide, by decide⟩ rfl rfl ⟨by decide, by decide⟩ rfl rfl (Nat.le_of_ble_eq_true rfl) (c_X10_needRange G ex n σ l 0 40 (by omega) (by omega)) (fun E σx hx => by rw [hQ]; exact A_out hg (by decide) (by decide) (by obtain ⟨hs, hE, hx⟩ := hx; exact ⟨hs, hE, fun a b h1 h2 e1 e2 => hx b (Nat.zero_le _) h2 e2⟩)) ?_
  rintro _ ⟨b, rfl, hle, hb1, hb2⟩
  refine (?_ : AJ G K Q 2 12 ex n 14 [some (.int (k)), some (.int (l))] [] σ)
  rw [hQ]
  exact A_return hg (by decide) (by decide) rfl dX10_needHeaps_14 ⟨rfl, ⟨rfl, a, b, rfl, hke, hle, ha2, hb2⟩⟩
set_option maxRecDepth 100000 in
set_option maxHeartbeats 4000000 in
theorem c_X10_needMove (G : GL) (ex : Bool) (n : Nat) (σ : Nat → va_E) (k : Int32) (l : Int32)   : CtX G yX10_needMove cX10_needMove 2 none ⟨8, 3, 18, 133⟩ [.int (k), .int (l)] ex n σ (fun v9 σ2 => σ2 = σ ∧ ∃ (a : Nat), ∃ (b : Nat), v9 = none ∧ (k = nI a) ∧ (l = nI b) ∧ (a ≤ 40) ∧ (b ≤ 40) ∧ (0 < a + b)) (fun E σ2 => σ2 = σ ∧ ((E = "java/lang/IllegalArgumentException" ∧ (∀ a b : Nat, a ≤ 40 → b ≤ 40 → 0 < a + b → k = nI a → l = nI b → False)))) := by
  refine q_enter [some (.int (k)), some (.int (l))] (by decide) (Nat.le_of_ble_eq_true rfl) rfl ?_
  intro K hg
  obtain ⟨Q, hQ⟩ : ∃ Q, Q = q_Q G K ex n 3 18 (fun v9 n' σ' => n' = n ∧ (fun v9 σ2 => σ2 = σ ∧ ∃ (a : Nat), ∃ (b : Nat), v9 = none ∧ (k = nI a) ∧ (l = nI b) ∧ (a ≤ 40) ∧ (b ≤ 40) ∧ (0 < a + b)) v9 σ') (fun E σ2 => σ2 = σ ∧ ((E = "java/lang/IllegalArgumentException" ∧ (∀ a b : Nat, a ≤ 40 → b ≤ 40 → 0 < a + b → k = nI a → l = nI b → False)))) := ⟨_, rfl⟩
  refine (?_ : AJ G K (q_Q G K ex n 3 18 _ _) 0 0 ex n 0 _ _ σ)
  rw [← hQ]
  refine A_iload_n hg dX10_needMove_0 rfl rfl ?_
  refine A_iload_n hg dX10_needMove_1 rfl rfl ?_
  refine A_pSX (kc2 := 2) (ks2 := 12) (As := [.int (k), .int (l)]) (rest := []) hg lk_RX10_292 st_X10_needHeaps dX10_needMove_2 ⟨by decide, by decide⟩ rfl rfl ⟨by decide, by decide⟩ rfl rfl (Nat.le_of_ble_eq_true rfl) (c_X10_needHeaps G ex n σ k l) (fun E σx hx => by rw [hQ]; exact A_out hg (by decide) (by decide) (by obtain ⟨hs, hE, hx⟩ := hx; exact ⟨hs, hE, fun a b h1 h2 _ e1 e2 => hx a b h1 h2 e1 e2⟩)) ?_
  rintro _ ⟨a, b, rfl, hke, hle, ha, hb⟩
  refine (?_ : AJ G K Q 2 12 ex n 5 [some (.int (k)), some (.int (l))] [] σ)
  subst hke
  subst hle
  refine A_iload_n hg dX10_needMove_5 rfl rfl ?_
  refine A_if_neN (tgt := 24) hg dX10_needMove_6 (by omega) (by decide) (fun c6 => ?_) (fun c6 => ?_)
  · skip
    rw [hQ]
    exact A_return hg (by decide) (by decide) rfl dX10_needMove_24 ⟨rfl, ⟨rfl, a, b, rfl, rfl, rfl, by omega, by omega, (by omega)⟩⟩
  · skip
    refine A_iload_n hg dX10_needMove_9 rfl rfl ?_
    refine A_if_neN (tgt := 24) hg dX10_needMove_10 (by omega) (by decide) (fun c10 => ?_) (fun c10 => ?_)
    · skip
      rw [hQ]
      exact A_return hg (by decide) (by decide) rfl dX10_needMove_24 ⟨rfl, ⟨rfl, a, b, rfl, rfl, rfl, by omega, by omega, (by omega)⟩⟩
    · skip
      rw [hQ]
      exact A_throwSW (text := "a move takes at least one unit") (names := ["java/lang/RuntimeException", "java/lang/Exception"]) hg (by decide +kernel) (by decide +kernel) tw_IllegalArgumentException.2.2.1 tw_IllegalArgumentException.2.2.2 (q_mt 1208 (by decide +kernel)) tw_IllegalArgumentException.1 tw_IllegalArgumentException.2.1 dX10_needMove_13 dX10_needMove_16 dX10_needMove_17 dX10_needMove_20 dX10_needMove_23 ⟨by decide, by decide, by decide, by decide⟩ (by decide) (by decide) ⟨rfl, ⟨rfl, (fun a2 b2 h1 h2 h3 e1 e2 => by have := q_nI_inj (show a < 2 ^ 31 by omega) (by omega) e1; have := q_nI_inj (show b < 2 ^ 31 by omega) (by omega) e2; omega)⟩⟩
end
