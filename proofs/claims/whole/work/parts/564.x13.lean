section
set_option maxRecDepth 100000 in
set_option maxHeartbeats 4000000 in
theorem c_X4_valueOf (G : GL) (ex : Bool) (n : Nat) (σ : Nat → va_E) (pb : Nat) (g : Nat → Nat) (kd : Nat → Nat) (fi : Nat → Nat) (se : Nat → Nat) (flA : Nat → Nat) (n0A : Nat → Nat) (gvA : Nat → Nat) (gsA : Nat → Nat) (lmA : Nat → Nat) (vsA : Nat → Nat) (nmA : Nat → Nat) (onA : Nat → Nat) (slA : Nat → Nat) (moA : Nat → Nat) (nbA : Nat → Nat) (bmA : Nat → Nat → Nat) (skA : Nat → Nat → Nat) (s2A : Nat → Nat → Nat) (vaA : Nat → Nat → Nat) (spA : Nat → Nat → Nat) (rfA : Nat → Nat → Nat) (p : Nat) (hc0 : σ 43 = o4 G (43) ) (hc1 : σ 44 = q_rn G 4 4 (fun j => some (46 + 8 * j))) (hc2 : σ pb = o6 G (pb) (nI (g 1)) (nI (g 2))) (hc3 : σ (pb + 1) = q_an G 8 kd) (hc4 : σ (pb + 2) = q_an G 8 fi) (hc5 : σ (pb + 3) = q_an G 8 se) (hc6 : ∀ j9 : Nat, j9 < 4 → σ (46 + 8 * j9) = o8 G (46 + 8 * j9) (nI (flA j9)) (nI (n0A j9)) (nI (gvA j9)) (nI (gsA j9)) (nI (lmA j9)) (nI (vsA j9))) (hc7 : ∀ j9 : Nat, j9 < 4 → σ (46 + 8 * j9 + 1) = o7 G (46 + 8 * j9 + 1) (lN (nmA j9)) (lN (onA j9)) (nI (slA j9)) (nI (moA j9)) (nI (nbA j9))) (hc8 : ∀ j9 : Nat, j9 < 4 → σ (46 + 8 * j9 + 2) = q_an G 5 (bmA j9)) (hc9 : ∀ j9 : Nat, j9 < 4 → σ (46 + 8 * j9 + 3) = q_an G 1681 (skA j9)) (hc10 : ∀ j9 : Nat, j9 < 4 → σ (46 + 8 * j9 + 4) = q_an G 1681 (s2A j9)) (hc11 : ∀ j9 : Nat, j9 < 4 → σ (46 + 8 * j9 + 5) = q_an G 1681 (vaA j9)) (hc12 : ∀ j9 : Nat, j9 < 4 → σ (46 + 8 * j9 + 6) = q_an G 1681 (spA j9)) (hc13 : ∀ j9 : Nat, j9 < 4 → σ (46 + 8 * j9 + 7) = q_an G 1681 (rfA j9)) (hn9 : 279 ≤ n) (hpb : pb = 27 ∨ pb = 236) (hgw : s_gwf g) (hxp : x_p g kd fi se) (hTF : x_TF g (g 1) onA slA moA nbA n0A gvA gsA lmA vsA bmA skA s2A vaA spA) (hpp : p < s_np g) : Ct G yX4_valueOf cX4_valueOf 5 (some .int) ⟨2, 0, 0, 44⟩ [.ref (q_h G + 43), .ref (q_h G + pb), .int (nI (p))] ex n σ (fun v9 σ2 => σ2 = σ ∧ v9 = some (.int (nI (s_pv g p 0 0)))) := by
  refine q_enter [some (.ref (q_h G + 43)), some (.ref (q_h G + pb)), some (.int (nI (p))), none, none] (by decide) (Nat.le_of_ble_eq_true rfl) rfl ?_
  intro K hg
  obtain ⟨Q, hQ⟩ : ∃ Q, Q = q_Q G K ex n 0 0 (fun v9 n' σ' => n' = n ∧ (fun v9 σ2 => σ2 = σ ∧ v9 = some (.int (nI (s_pv g p 0 0)))) v9 σ') q_noX := ⟨_, rfl⟩
  refine (?_ : AJ G K (q_Q G K ex n 0 0 _ _) 0 0 ex n 0 _ _ σ)
  rw [← hQ]
  have hpart := s_part hgw hpp
  have hg1 := hgw.2.1
  have hg2 := hgw.2.2.1
  have hg0 := hgw.1
  have hnp : s_np g = g 1 + g 2 := rfl
  have hva : p < g 1 → ∀ j : Nat, j < 1681 → vaA (s_kind g p) j = s_V (s_rule g (s_kind g p)) j := fun e j hj => by rw [s_kind_b e]; exact x_TF_v hTF e hj
  refine A_aload_n hg dX4_valueOf_0 rfl rfl ?_
  refine A_iload_n hg dX4_valueOf_1 rfl rfl ?_
  refine A_eV (kc2 := 0) (ks2 := 0) (As := [.int (nI (p))]) (rest := []) hg lk_RX4_53 in_X6_firstOf se_X6_firstOf rfl dX4_valueOf_2 ⟨by decide, by decide⟩ rfl rfl ⟨by decide, by decide⟩ hc2 (by omega) rfl rfl (Nat.le_of_ble_eq_true rfl) (c_X6_firstOf G ex n σ pb (g 1) (g 2) fi p hc2 hc4 (by omega) (by omega) (by omega)) ?_
  refine A_top (w := .int (nI (s_x g p))) (by rw [x_p_x hxp hpp]) ?_
  refine A_istore_n hg dX4_valueOf_5 rfl (by decide) (q_c1d rfl) ?_
  refine A_eq (ls2 := [some (.ref (q_h G + 43)), some (.ref (q_h G + pb)), some (.int (nI (p))), some (.int (nI (s_x g p))), none]) (st2 := []) (pc2 := 0) rfl rfl ?_
  refine A_aload_n hg dX4_valueOf_6 rfl rfl ?_
  refine A_iload_n hg dX4_valueOf_7 rfl rfl ?_
  refine A_eV (kc2 := 0) (ks2 := 0) (As := [.int (nI (p))]) (rest := []) hg lk_RX4_37 in_X6_kindOf se_X6_kindOf rfl dX4_valueOf_8 ⟨by decide, by decide⟩ rfl rfl ⟨by decide, by decide⟩ hc2 (by omega) rfl rfl (Nat.le_of_ble_eq_true rfl) (c_X6_kindOf G ex n σ pb (g 1) (g 2) kd p hc2 hc3 (by omega) (by omega) (by omega)) ?_
  refine A_top (w := .int (nI (s_kind g p))) (by rw [x_p_k hxp hpp]) ?_
  refine A_istore hg dX4_valueOf_11 (by decide) (q_c1d rfl) ?_
  refine A_eq (ls2 := [some (.ref (q_h G + 43)), some (.ref (q_h G + pb)), some (.int (nI (p))), some (.int (nI (s_x g p))), some (.int (nI (s_kind g p)))]) (st2 := []) (pc2 := 0) rfl rfl ?_
  refine A_aload_n hg dX4_valueOf_13 rfl rfl ?_
  refine A_iload_n hg dX4_valueOf_14 rfl rfl ?_
  refine A_eV (kc2 := 0) (ks2 := 0) (As := [.int (nI (p))]) (rest := []) hg lk_RX4_56 in_X6_isBoard se_X6_isBoard rfl dX4_valueOf_15 ⟨by decide, by decide⟩ rfl rfl ⟨by decide, by decide⟩ hc2 (by omega) rfl rfl (Nat.le_of_ble_eq_true rfl) (c_X6_isBoard G ex n σ pb (g 1) (g 2) p hc2 (by omega) (by omega) (by omega)) ?_
  refine A_if_eqB (tgt := 39) hg dX4_valueOf_18 (by decide) (fun c18 => ?_) (fun c18 => ?_)
  · skip
    have hpb0 := x_of_ndec c18
    refine A_iload_n hg dX4_valueOf_39 rfl rfl ?_
    refine A_iload hg dX4_valueOf_40 rfl ?_
    refine A_eS (kc2 := 0) (ks2 := 0) (As := [.int (nI (s_x g p)), .int (nI (s_kind g p))]) (rest := []) hg lk_RX4_67 st_X4_stickValue dX4_valueOf_42 ⟨by decide, by decide⟩ rfl rfl ⟨by decide, by decide⟩ rfl rfl (Nat.le_of_ble_eq_true rfl) (c_X4_stickValue G ex n σ (s_x g p) (s_kind g p) (by omega) (by omega)) ?_
    rw [hQ]
    exact A_ireturn hg (by decide) (by decide) rfl dX4_valueOf_45 ⟨rfl, ⟨rfl, (by rw [x_pv_s hpb0])⟩⟩
  · skip
    have hpb1 := x_of_dec c18
    have hkb := (hpart.2.2.2.1 hpb1).2
    have hxb := (hpart.2.2.2.1 hpb1).1
    refine A_aload_n hg dX4_valueOf_21 rfl rfl ?_
    refine A_iload hg dX4_valueOf_22 rfl ?_
    refine A_eV (kc2 := 0) (ks2 := 0) (As := [.int (nI (s_kind g p))]) (rest := []) hg lk_RX4_41 in_X4_tableAt se_X4_tableAt rfl dX4_valueOf_24 ⟨by decide, by decide⟩ rfl rfl ⟨by decide, by decide⟩ hc0 (by omega) rfl rfl (Nat.le_of_ble_eq_true rfl) (c_X4_tableAt G ex n σ (s_kind g p) hc0 hc1 (by omega) (by omega)) ?_
    refine A_iload_n hg dX4_valueOf_27 rfl rfl ?_
    refine A_aload_n hg dX4_valueOf_28 rfl rfl ?_
    refine A_iload_n hg dX4_valueOf_29 rfl rfl ?_
    refine A_eV (kc2 := 0) (ks2 := 0) (As := [.int (nI (p))]) (rest := [.int (nI (s_x g p)), .ref (q_h G + (46 + 8 * (s_kind g p)))]) hg lk_RX4_60 in_X6_secondOf se_X6_secondOf rfl dX4_valueOf_30 ⟨by decide, by decide⟩ rfl rfl ⟨by decide, by decide⟩ hc2 (by omega) rfl rfl (Nat.le_of_ble_eq_true rfl) (c_X6_secondOf G ex n σ pb (g 1) (g 2) se p hc2 hc5 (by omega) (by omega) (by omega)) ?_
    refine A_top (w := .int (nI (s_y g p))) (by rw [x_p_y hxp hpp]) ?_
    refine A_eV (kc2 := 0) (ks2 := 0) (As := [.int (nI (s_x g p)), .int (nI (s_y g p))]) (rest := []) hg lk_RX4_63 in_X8_valueAt se_X8_valueAt rfl dX4_valueOf_33 ⟨by decide, by decide⟩ rfl rfl ⟨by decide, by decide⟩ (hc6 (s_kind g p) (by omega)) (by omega) rfl rfl (Nat.le_of_ble_eq_true rfl) (c_X8_valueAt G ex n σ (46 + 8 * (s_kind g p)) (flA (s_kind g p)) (n0A (s_kind g p)) (gvA (s_kind g p)) (gsA (s_kind g p)) (lmA (s_kind g p)) (vsA (s_kind g p)) (vaA (s_kind g p)) (s_x g p) (s_y g p) (hc6 (s_kind g p) (by omega)) (hc11 (s_kind g p) (by omega)) (by omega) (by omega) (by omega)) ?_
    refine A_goto (tgt := 45) hg dX4_valueOf_36 (by decide) ?_
    rw [hQ]
    exact A_ireturn hg (by decide) (by decide) rfl dX4_valueOf_45 ⟨rfl, ⟨rfl, (by rw [x_pv_b hgw hpp hpb1 (hva hpb1)])⟩⟩
set_option maxRecDepth 100000 in
set_option maxHeartbeats 4000000 in
theorem c_X4_totalOf (G : GL) (ex : Bool) (n : Nat) (σ : Nat → va_E) (pb : Nat) (g : Nat → Nat) (kd : Nat → Nat) (fi : Nat → Nat) (se : Nat → Nat) (flA : Nat → Nat) (n0A : Nat → Nat) (gvA : Nat → Nat) (gsA : Nat → Nat) (lmA : Nat → Nat) (vsA : Nat → Nat) (nmA : Nat → Nat) (onA : Nat → Nat) (slA : Nat → Nat) (moA : Nat → Nat) (nbA : Nat → Nat) (bmA : Nat → Nat → Nat) (skA : Nat → Nat → Nat) (s2A : Nat → Nat → Nat) (vaA : Nat → Nat → Nat) (spA : Nat → Nat → Nat) (rfA : Nat → Nat → Nat) (hc0 : σ 43 = o4 G (43) ) (hc1 : σ 44 = q_rn G 4 4 (fun j => some (46 + 8 * j))) (hc2 : σ pb = o6 G (pb) (nI (g 1)) (nI (g 2))) (hc3 : σ (pb + 1) = q_an G 8 kd) (hc4 : σ (pb + 2) = q_an G 8 fi) (hc5 : σ (pb + 3) = q_an G 8 se) (hc6 : ∀ j9 : Nat, j9 < 4 → σ (46 + 8 * j9) = o8 G (46 + 8 * j9) (nI (flA j9)) (nI (n0A j9)) (nI (gvA j9)) (nI (gsA j9)) (nI (lmA j9)) (nI (vsA j9))) (hc7 : ∀ j9 : Nat, j9 < 4 → σ (46 + 8 * j9 + 1) = o7 G (46 + 8 * j9 + 1) (lN (nmA j9)) (lN (onA j9)) (nI (slA j9)) (nI (moA j9)) (nI (nbA j9))) (hc8 : ∀ j9 : Nat, j9 < 4 → σ (46 + 8 * j9 + 2) = q_an G 5 (bmA j9)) (hc9 : ∀ j9 : Nat, j9 < 4 → σ (46 + 8 * j9 + 3) = q_an G 1681 (skA j9)) (hc10 : ∀ j9 : Nat, j9 < 4 → σ (46 + 8 * j9 + 4) = q_an G 1681 (s2A j9)) (hc11 : ∀ j9 : Nat, j9 < 4 → σ (46 + 8 * j9 + 5) = q_an G 1681 (vaA j9)) (hc12 : ∀ j9 : Nat, j9 < 4 → σ (46 + 8 * j9 + 6) = q_an G 1681 (spA j9)) (hc13 : ∀ j9 : Nat, j9 < 4 → σ (46 + 8 * j9 + 7) = q_an G 1681 (rfA j9)) (hn9 : 279 ≤ n) (hpb : pb = 27 ∨ pb = 236) (hgw : s_gwf g) (hxp : x_p g kd fi se) (hTF : x_TF g (g 1) onA slA moA nbA n0A gvA gsA lmA vsA bmA skA s2A vaA spA) : Ct G yX4_totalOf cX4_totalOf 4 (some .int) ⟨3, 0, 0, 68⟩ [.ref (q_h G + 43), .ref (q_h G + pb)] ex n σ (fun v9 σ2 => σ2 = σ ∧ v9 = some (.int (nI (s_tot g)))) := by
  refine q_enter [some (.ref (q_h G + 43)), some (.ref (q_h G + pb)), none, none] (by decide) (Nat.le_of_ble_eq_true rfl) rfl ?_
  intro K hg
  obtain ⟨Q, hQ⟩ : ∃ Q, Q = q_Q G K ex n 0 0 (fun v9 n' σ' => n' = n ∧ (fun v9 σ2 => σ2 = σ ∧ v9 = some (.int (nI (s_tot g)))) v9 σ') q_noX := ⟨_, rfl⟩
  refine (?_ : AJ G K (q_Q G K ex n 0 0 _ _) 0 0 ex n 0 _ _ σ)
  rw [← hQ]
  have hg1 := hgw.2.1
  have hg2 := hgw.2.2.1
  have hnp : s_np g = g 1 + g 2 := rfl
  refine A_iconst (v := (nI (0))) hg dX4_totalOf_0 (by decide) ?_
  refine A_istore_n hg dX4_totalOf_1 rfl (by decide) (q_c1d rfl) ?_
  refine A_eq (ls2 := [some (.ref (q_h G + 43)), some (.ref (q_h G + pb)), some (.int (nI (0))), none]) (st2 := []) (pc2 := 0) rfl rfl ?_
  refine A_iconst (v := (nI (0))) hg dX4_totalOf_2 (by decide) ?_
  refine A_istore_n hg dX4_totalOf_3 rfl (by decide) (q_c1d rfl) ?_
  refine A_eq (ls2 := [some (.ref (q_h G + 43)), some (.ref (q_h G + pb)), some (.int (nI (0))), some (.int (nI (0)))]) (st2 := []) (pc2 := 0) rfl rfl ?_
  have hL4 : ∀ (fu : Nat) (p : Nat) (a : Nat), (p ≤ s_np g) → (a = s_xs g p) → (s_np g - p) < fu → AJ G K Q 0 0 ex n 4 [some (.ref (q_h G + 43)), some (.ref (q_h G + pb)), some (.int (nI (a))), some (.int (nI (p)))] [] σ := by
    intro fu
    induction fu with
    | zero => intro p a hp ha hm; exact absurd hm (Nat.not_lt_zero _)
    | succ fu ih4 =>
      intro p a hp ha hm4
      refine A_iload_n hg dX4_totalOf_4 rfl rfl ?_
      refine A_aload_n hg dX4_totalOf_5 rfl rfl ?_
      refine A_eV (kc2 := 0) (ks2 := 0) (As := []) (rest := [.int (nI (p))]) hg lk_RX4_70 in_X6_many se_X6_many rfl dX4_totalOf_6 ⟨by decide, by decide⟩ rfl rfl ⟨by decide, by decide⟩ hc2 (by omega) rfl rfl (Nat.le_of_ble_eq_true rfl) (c_X6_many G ex n σ pb (g 1) (g 2) hc2 (by omega)) ?_
      refine A_icmp_geN (tgt := 27) hg dX4_totalOf_9 (by omega) (by omega) (by decide) (fun c9 => ?_) (fun c9 => ?_)
      · skip
        refine A_iload_n hg dX4_totalOf_27 rfl rfl ?_
        rw [hQ]
        exact A_ireturn hg (by decide) (by decide) rfl dX4_totalOf_28 ⟨rfl, ⟨rfl, (by rw [ha, show p = s_np g by omega]; rfl)⟩⟩
      · skip
        refine A_iload_n hg dX4_totalOf_12 rfl rfl ?_
        refine A_aload_n hg dX4_totalOf_13 rfl rfl ?_
        refine A_aload_n hg dX4_totalOf_14 rfl rfl ?_
        refine A_iload_n hg dX4_totalOf_15 rfl rfl ?_
        refine A_eV (kc2 := 0) (ks2 := 0) (As := [.ref (q_h G + pb), .int (nI (p))]) (rest := [.int (nI (a))]) hg lk_RX4_74 in_X4_valueOf se_X4_valueOf rfl dX4_totalOf_16 ⟨by decide, by decide⟩ rfl rfl ⟨by decide, by decide⟩ hc0 (by omega) rfl rfl (Nat.le_of_ble_eq_true rfl) (c_X4_valueOf G ex n σ pb g kd fi se flA n0A gvA gsA lmA vsA nmA onA slA moA nbA bmA skA s2A vaA spA rfA p hc0 hc1 hc2 hc3 hc4 hc5 hc6 hc7 hc8 hc9 hc10 hc11 hc12 hc13 (by omega) (by omega) hgw hxp hTF (by omega)) ?_
        refine A_ixorN hg dX4_totalOf_19 ?_
        refine A_istore_n hg dX4_totalOf_20 rfl (by decide) (q_c1d rfl) ?_
        refine A_eq (ls2 := [some (.ref (q_h G + 43)), some (.ref (q_h G + pb)), some (.int (nI (a ^^^ (s_pv g p 0 0)))), some (.int (nI (p)))]) (st2 := []) (pc2 := 0) rfl rfl ?_
        refine A_iincN (k' := 1) hg dX4_totalOf_21 (by decide) rfl (by decide) (q_c1d rfl) ?_
        refine A_eq (ls2 := [some (.ref (q_h G + 43)), some (.ref (q_h G + pb)), some (.int (nI (a ^^^ (s_pv g p 0 0)))), some (.int (nI (p + 1)))]) (st2 := []) (pc2 := 0) rfl rfl ?_
        refine A_goto (tgt := 4) hg dX4_totalOf_24 (by decide) ?_
        exact ih4 (p + 1) (a ^^^ (s_pv g p 0 0)) (by omega) (by rw [ha]; rfl) (by omega)
  exact hL4 _ 0 0 (Nat.zero_le _) rfl (Nat.lt_succ_self _)
set_option maxRecDepth 100000 in
set_option maxHeartbeats 4000000 in
theorem c_X4_movesTo (G : GL) (ex : Bool) (n : Nat) (σ : Nat → va_E) (pb : Nat) (g : Nat → Nat) (kd : Nat → Nat) (fi : Nat → Nat) (se : Nat → Nat) (flA : Nat → Nat) (n0A : Nat → Nat) (gvA : Nat → Nat) (gsA : Nat → Nat) (lmA : Nat → Nat) (vsA : Nat → Nat) (nmA : Nat → Nat) (onA : Nat → Nat) (slA : Nat → Nat) (moA : Nat → Nat) (nbA : Nat → Nat) (bmA : Nat → Nat → Nat) (skA : Nat → Nat → Nat) (s2A : Nat → Nat → Nat) (vaA : Nat → Nat → Nat) (spA : Nat → Nat → Nat) (rfA : Nat → Nat → Nat) (t : Nat) (p : Nat) (hc0 : σ 43 = o4 G (43) ) (hc1 : σ 44 = q_rn G 4 4 (fun j => some (46 + 8 * j))) (hc2 : σ pb = o6 G (pb) (nI (g 1)) (nI (g 2))) (hc3 : σ (pb + 1) = q_an G 8 kd) (hc4 : σ (pb + 2) = q_an G 8 fi) (hc5 : σ (pb + 3) = q_an G 8 se) (hc6 : ∀ j9 : Nat, j9 < 4 → σ (46 + 8 * j9) = o8 G (46 + 8 * j9) (nI (flA j9)) (nI (n0A j9)) (nI (gvA j9)) (nI (gsA j9)) (nI (lmA j9)) (nI (vsA j9))) (hc7 : ∀ j9 : Nat, j9 < 4 → σ (46 + 8 * j9 + 1) = o7 G (46 + 8 * j9 + 1) (lN (nmA j9)) (lN (onA j9)) (nI (slA j9)) (nI (moA j9)) (nI (nbA j9))) (hc8 : ∀ j9 : Nat, j9 < 4 → σ (46 + 8 * j9 + 2) = q_an G 5 (bmA j9)) (hc9 : ∀ j9 : Nat, j9 < 4 → σ (46 + 8 * j9 + 3) = q_an G 1681 (skA j9)) (hc10 : ∀ j9 : Nat, j9 < 4 → σ (46 + 8 * j9 + 4) = q_an G 1681 (s2A j9)) (hc11 : ∀ j9 : Nat, j9 < 4 → σ (46 + 8 * j9 + 5) = q_an G 1681 (vaA j9)) (hc12 : ∀ j9 : Nat, j9 < 4 → σ (46 + 8 * j9 + 6) = q_an G 1681 (spA j9)) (hc13 : ∀ j9 : Nat, j9 < 4 → σ (46 + 8 * j9 + 7) = q_an G 1681 (rfA j9)) (hn9 : 279 ≤ n) (hpb : pb = 27 ∨ pb = 236) (hgw : s_gwf g) (hxp : x_p g kd fi se) (hTF : x_TF g (g 1) onA slA moA nbA n0A gvA gsA lmA vsA bmA skA s2A vaA spA) (hpp : p < s_np g) (ht30 : t < 2 ^ 31) : Ct G yX4_movesTo cX4_movesTo 8 (some .int) ⟨3, 0, 0, 71⟩ [.ref (q_h G + 43), .ref (q_h G + pb), .int (nI (p)), .int (q_d (t))] ex n σ (fun v9 σ2 => σ2 = σ ∧ v9 = some (.int (nI (s_cc (x_okt g p t) (s_x g p + 1) (s_y g p + 1))))) := by
  refine q_enter [some (.ref (q_h G + 43)), some (.ref (q_h G + pb)), some (.int (nI (p))), some (.int (q_d (t))), none, none, none, none] (by decide) (Nat.le_of_ble_eq_true rfl) rfl ?_
  intro K hg
  obtain ⟨Q, hQ⟩ : ∃ Q, Q = q_Q G K ex n 0 0 (fun v9 n' σ' => n' = n ∧ (fun v9 σ2 => σ2 = σ ∧ v9 = some (.int (nI (s_cc (x_okt g p t) (s_x g p + 1) (s_y g p + 1))))) v9 σ') q_noX := ⟨_, rfl⟩
  refine (?_ : AJ G K (q_Q G K ex n 0 0 _ _) 0 0 ex n 0 _ _ σ)
  rw [← hQ]
  have hpart := s_part hgw hpp
  have hg1 := hgw.2.1
  have hg2 := hgw.2.2.1
  have hg0 := hgw.1
  have hnp : s_np g = g 1 + g 2 := rfl
  have hva : p < g 1 → ∀ j : Nat, j < 1681 → vaA (s_kind g p) j = s_V (s_rule g (s_kind g p)) j := fun e j hj => by rw [s_kind_b e]; exact x_TF_v hTF e hj
  refine A_aload_n hg dX4_movesTo_0 rfl rfl ?_
  refine A_iload_n hg dX4_movesTo_1 rfl rfl ?_
  refine A_eV (kc2 := 0) (ks2 := 0) (As := [.int (nI (p))]) (rest := []) hg lk_RX4_53 in_X6_firstOf se_X6_firstOf rfl dX4_movesTo_2 ⟨by decide, by decide⟩ rfl rfl ⟨by decide, by decide⟩ hc2 (by omega) rfl rfl (Nat.le_of_ble_eq_true rfl) (c_X6_firstOf G ex n σ pb (g 1) (g 2) fi p hc2 hc4 (by omega) (by omega) (by omega)) ?_
  refine A_top (w := .int (nI (s_x g p))) (by rw [x_p_x hxp hpp]) ?_
  refine A_istore hg dX4_movesTo_5 (by decide) (q_c1d rfl) ?_
  refine A_eq (ls2 := [some (.ref (q_h G + 43)), some (.ref (q_h G + pb)), some (.int (nI (p))), some (.int (q_d (t))), some (.int (nI (s_x g p))), none, none, none]) (st2 := []) (pc2 := 0) rfl rfl ?_
  refine A_aload_n hg dX4_movesTo_7 rfl rfl ?_
  refine A_iload_n hg dX4_movesTo_8 rfl rfl ?_
  refine A_eV (kc2 := 0) (ks2 := 0) (As := [.int (nI (p))]) (rest := []) hg lk_RX4_37 in_X6_kindOf se_X6_kindOf rfl dX4_movesTo_9 ⟨by decide, by decide⟩ rfl rfl ⟨by decide, by decide⟩ hc2 (by omega) rfl rfl (Nat.le_of_ble_eq_true rfl) (c_X6_kindOf G ex n σ pb (g 1) (g 2) kd p hc2 hc3 (by omega) (by omega) (by omega)) ?_
  refine A_top (w := .int (nI (s_kind g p))) (by rw [x_p_k hxp hpp]) ?_
  refine A_istore hg dX4_movesTo_12 (by decide) (q_c1d rfl) ?_
  refine A_eq (ls2 := [some (.ref (q_h G + 43)), some (.ref (q_h G + pb)), some (.int (nI (p))), some (.int (q_d (t))), some (.int (nI (s_x g p))), some (.int (nI (s_kind g p))), none, none]) (st2 := []) (pc2 := 0) rfl rfl ?_
  refine A_aload_n hg dX4_movesTo_14 rfl rfl ?_
  refine A_iload_n hg dX4_movesTo_15 rfl rfl ?_
  refine A_eV (kc2 := 0) (ks2 := 0) (As := [.int (nI (p))]) (rest := []) hg lk_RX4_56 in_X6_isBoard se_X6_isBoard rfl dX4_movesTo_16 ⟨by decide, by decide⟩ rfl rfl ⟨by decide, by decide⟩ hc2 (by omega) rfl rfl (Nat.le_of_ble_eq_true rfl) (c_X6_isBoard G ex n σ pb (g 1) (g 2) p hc2 (by omega) (by omega) (by omega)) ?_
  refine A_if_eqB (tgt := 40) hg dX4_movesTo_19 (by decide) (fun c19 => ?_) (fun c19 => ?_)
  · skip
    have hpb0 := x_of_ndec c19
    refine A_iconst (v := (nI (0))) hg dX4_movesTo_40 (by decide) ?_
    refine A_istore hg dX4_movesTo_41 (by decide) (q_c1d rfl) ?_
    refine A_eq (ls2 := [some (.ref (q_h G + 43)), some (.ref (q_h G + pb)), some (.int (nI (p))), some (.int (q_d (t))), some (.int (nI (s_x g p))), some (.int (nI (s_kind g p))), some (.int (nI (0))), none]) (st2 := []) (pc2 := 0) rfl rfl ?_
    refine A_iconst (v := (nI (1))) hg dX4_movesTo_43 (by decide) ?_
    refine A_istore hg dX4_movesTo_44 (by decide) (q_c1d rfl) ?_
    refine A_eq (ls2 := [some (.ref (q_h G + 43)), some (.ref (q_h G + pb)), some (.int (nI (p))), some (.int (q_d (t))), some (.int (nI (s_x g p))), some (.int (nI (s_kind g p))), some (.int (nI (0))), some (.int (nI (1)))]) (st2 := []) (pc2 := 0) rfl rfl ?_
    have hL46 : ∀ (fu : Nat) (k : Nat) (a : Nat), (1 ≤ k ∧ k ≤ s_x g p + 1) → (a = s_cnt (fun k => x_okt g p t k 0) k) → (a ≤ k) → (s_x g p + 1 - k) < fu → AJ G K Q 0 0 ex n 46 [some (.ref (q_h G + 43)), some (.ref (q_h G + pb)), some (.int (nI (p))), some (.int (q_d (t))), some (.int (nI (s_x g p))), some (.int (nI (s_kind g p))), some (.int (nI (a))), some (.int (nI (k)))] [] σ := by
      intro fu
      induction fu with
      | zero => intro k a hk ha hal hm; exact absurd hm (Nat.not_lt_zero _)
      | succ fu ih46 =>
        intro k a hk ha hal hm46
        refine A_iload hg dX4_movesTo_46 rfl ?_
        refine A_iload hg dX4_movesTo_48 rfl ?_
        refine A_icmp_gtN (tgt := 88) hg dX4_movesTo_50 (by omega) (by omega) (by decide) (fun c50 => ?_) (fun c50 => ?_)
        · skip
          refine A_iload hg dX4_movesTo_88 rfl ?_
          rw [hQ]
          exact A_ireturn hg (by decide) (by decide) rfl dX4_movesTo_90 ⟨rfl, ⟨rfl, (by rw [ha, x_moves_s hpb0 hk.1 hk.2 (by omega)])⟩⟩
        · skip
          refine A_iload hg dX4_movesTo_53 rfl ?_
          refine A_iload hg dX4_movesTo_55 rfl ?_
          refine A_icmp_gtN (tgt := 88) hg dX4_movesTo_57 (by omega) (by omega) (by decide) (fun c57 => ?_) (fun c57 => ?_)
          · skip
            refine A_iload hg dX4_movesTo_88 rfl ?_
            rw [hQ]
            exact A_ireturn hg (by decide) (by decide) rfl dX4_movesTo_90 ⟨rfl, ⟨rfl, (by rw [ha, x_moves_s hpb0 hk.1 hk.2 (by omega)])⟩⟩
          · skip
            have hok : x_okt g p t k 0 = (decide (t = 0) || ((s_x g p - k) % (s_kind g p + 1) + 1 == t)) := by rw [x_okt_s hpb0 (by omega), decide_eq_true ⟨by omega, by omega⟩, Bool.true_and]
            have hml : (s_x g p - k) % (s_kind g p + 1) < 2 ^ 30 := Nat.lt_of_le_of_lt (Nat.mod_le _ _) (by omega)
            refine A_iload_n hg dX4_movesTo_60 rfl rfl ?_
            refine A_iconst (v := (q_d (0))) hg dX4_movesTo_61 (by decide) ?_
            refine A_icmp_eqM (tgt := 79) hg dX4_movesTo_62 (by omega) (by decide) (by decide) (fun c62 => ?_) (fun c62 => ?_)
            · skip
              have hokt : x_okt g p t k 0 = true := hok.trans (by first | rw [decide_eq_true c62, Bool.true_or] | rw [beq_iff_eq.mpr c76, Bool.or_true])
              refine A_iincN (k' := 1) hg dX4_movesTo_79 (by decide) rfl (by decide) (q_c1d rfl) ?_
              refine A_eq (ls2 := [some (.ref (q_h G + 43)), some (.ref (q_h G + pb)), some (.int (nI (p))), some (.int (q_d (t))), some (.int (nI (s_x g p))), some (.int (nI (s_kind g p))), some (.int (nI (a + 1))), some (.int (nI (k)))]) (st2 := []) (pc2 := 0) rfl rfl ?_
              refine A_iincN (k' := 1) hg dX4_movesTo_82 (by decide) rfl (by decide) (q_c1d rfl) ?_
              refine A_eq (ls2 := [some (.ref (q_h G + 43)), some (.ref (q_h G + pb)), some (.int (nI (p))), some (.int (q_d (t))), some (.int (nI (s_x g p))), some (.int (nI (s_kind g p))), some (.int (nI (a + 1))), some (.int (nI (k + 1)))]) (st2 := []) (pc2 := 0) rfl rfl ?_
              refine A_goto (tgt := 46) hg dX4_movesTo_85 (by decide) ?_
              exact ih46 (k + 1) (a + 1) (by omega) (by rw [s_cnt_t (P := fun k => x_okt g p t k 0) hokt, ha]) (by omega) (by omega)
            · skip
              refine A_iload hg dX4_movesTo_65 rfl ?_
              refine A_iload hg dX4_movesTo_67 rfl ?_
              refine A_isubN hg dX4_movesTo_69 (by omega) ?_
              refine A_iload hg dX4_movesTo_70 rfl ?_
              refine A_eS (kc2 := 0) (ks2 := 0) (As := [.int (nI ((s_x g p) - k)), .int (nI (s_kind g p))]) (rest := []) hg lk_RX4_67 st_X4_stickValue dX4_movesTo_72 ⟨by decide, by decide⟩ rfl rfl ⟨by decide, by decide⟩ rfl rfl (Nat.le_of_ble_eq_true rfl) (c_X4_stickValue G ex n σ ((s_x g p) - k) (s_kind g p) (by omega) (by omega)) ?_
              refine A_top (w := .int (q_d ((((s_x g p) - k) % ((s_kind g p) + 1)) + 1))) (congrArg Value.int (q_dS _).symm) ?_
              refine A_iload_n hg dX4_movesTo_75 rfl rfl ?_
              refine A_icmp_neM (tgt := 82) hg dX4_movesTo_76 (by omega) (by omega) (by decide) (fun c76 => ?_) (fun c76 => ?_)
              · skip
                have hokf : x_okt g p t k 0 = false := hok.trans (by rw [decide_eq_false c62, beq_eq_false_iff_ne.mpr c76]; rfl)
                refine A_iincN (k' := 1) hg dX4_movesTo_82 (by decide) rfl (by decide) (q_c1d rfl) ?_
                refine A_eq (ls2 := [some (.ref (q_h G + 43)), some (.ref (q_h G + pb)), some (.int (nI (p))), some (.int (q_d (t))), some (.int (nI (s_x g p))), some (.int (nI (s_kind g p))), some (.int (nI (a))), some (.int (nI (k + 1)))]) (st2 := []) (pc2 := 0) rfl rfl ?_
                refine A_goto (tgt := 46) hg dX4_movesTo_85 (by decide) ?_
                exact ih46 (k + 1) a (by omega) (by rw [s_cnt_f (P := fun k => x_okt g p t k 0) hokf]; exact ha) (by omega) (by omega)
              · skip
                have hokt : x_okt g p t k 0 = true := hok.trans (by first | rw [decide_eq_true c62, Bool.true_or] | rw [beq_iff_eq.mpr c76, Bool.or_true])
                refine A_iincN (k' := 1) hg dX4_movesTo_79 (by decide) rfl (by decide) (q_c1d rfl) ?_
                refine A_eq (ls2 := [some (.ref (q_h G + 43)), some (.ref (q_h G + pb)), some (.int (nI (p))), some (.int (q_d (t))), some (.int (nI (s_x g p))), some (.int (nI (s_kind g p))), some (.int (nI (a + 1))), some (.int (nI (k)))]) (st2 := []) (pc2 := 0) rfl rfl ?_
                refine A_iincN (k' := 1) hg dX4_movesTo_82 (by decide) rfl (by decide) (q_c1d rfl) ?_
                refine A_eq (ls2 := [some (.ref (q_h G + 43)), some (.ref (q_h G + pb)), some (.int (nI (p))), some (.int (q_d (t))), some (.int (nI (s_x g p))), some (.int (nI (s_kind g p))), some (.int (nI (a + 1))), some (.int (nI (k + 1)))]) (st2 := []) (pc2 := 0) rfl rfl ?_
                refine A_goto (tgt := 46) hg dX4_movesTo_85 (by decide) ?_
                exact ih46 (k + 1) (a + 1) (by omega) (by rw [s_cnt_t (P := fun k => x_okt g p t k 0) hokt, ha]) (by omega) (by omega)
    exact hL46 _ 1 0 (⟨Nat.le_refl _, by omega⟩) (by rw [s_cnt_f (P := fun k => x_okt g p t k 0) (by show x_okt g p t 0 0 = false; rw [x_okt_s hpb0 (Nat.zero_le _), decide_eq_false (by omega), Bool.false_and])]; rfl) (by decide) (Nat.lt_succ_self _)
  · skip
    have hpb1 := x_of_dec c19
    have hkb := (hpart.2.2.2.1 hpb1).2
    have hxb := (hpart.2.2.2.1 hpb1).1
    refine A_aload_n hg dX4_movesTo_22 rfl rfl ?_
    refine A_iload hg dX4_movesTo_23 rfl ?_
    refine A_eV (kc2 := 0) (ks2 := 0) (As := [.int (nI (s_kind g p))]) (rest := []) hg lk_RX4_41 in_X4_tableAt se_X4_tableAt rfl dX4_movesTo_25 ⟨by decide, by decide⟩ rfl rfl ⟨by decide, by decide⟩ hc0 (by omega) rfl rfl (Nat.le_of_ble_eq_true rfl) (c_X4_tableAt G ex n σ (s_kind g p) hc0 hc1 (by omega) (by omega)) ?_
    refine A_iload hg dX4_movesTo_28 rfl ?_
    refine A_aload_n hg dX4_movesTo_30 rfl rfl ?_
    refine A_iload_n hg dX4_movesTo_31 rfl rfl ?_
    refine A_eV (kc2 := 0) (ks2 := 0) (As := [.int (nI (p))]) (rest := [.int (nI (s_x g p)), .ref (q_h G + (46 + 8 * (s_kind g p)))]) hg lk_RX4_60 in_X6_secondOf se_X6_secondOf rfl dX4_movesTo_32 ⟨by decide, by decide⟩ rfl rfl ⟨by decide, by decide⟩ hc2 (by omega) rfl rfl (Nat.le_of_ble_eq_true rfl) (c_X6_secondOf G ex n σ pb (g 1) (g 2) se p hc2 hc5 (by omega) (by omega) (by omega)) ?_
    refine A_top (w := .int (nI (s_y g p))) (by rw [x_p_y hxp hpp]) ?_
    refine A_iload_n hg dX4_movesTo_35 rfl rfl ?_
    refine A_eV (kc2 := 0) (ks2 := 0) (As := [.int (nI (s_x g p)), .int (nI (s_y g p)), .int (q_d (t))]) (rest := []) hg lk_RX4_78 in_X8_movesTo se_X8_movesTo rfl dX4_movesTo_36 ⟨by decide, by decide⟩ rfl rfl ⟨by decide, by decide⟩ (hc6 (s_kind g p) (by omega)) (by omega) rfl rfl (Nat.le_of_ble_eq_true rfl) (c_X8_movesTo G ex n σ (46 + 8 * (s_kind g p)) (flA (s_kind g p)) (n0A (s_kind g p)) (gvA (s_kind g p)) (gsA (s_kind g p)) (lmA (s_kind g p)) (vsA (s_kind g p)) (s_A (s_rule g (s_kind g p))) (skA (s_kind g p)) (s2A (s_kind g p)) (vaA (s_kind g p)) t (s_x g p) (s_y g p) (hc6 (s_kind g p) (by omega)) (hc9 (s_kind g p) (by omega)) (hc10 (s_kind g p) (by omega)) (hc11 (s_kind g p) (by omega)) (by omega) (s_A0 _) (by rw [s_kind_b hpb1]; exact (x_TF_n hTF hpb1).1) (by rw [s_kind_b hpb1]; exact (x_TF_n hTF hpb1).2) (by omega) (by omega) (fun j hj => by rw [hva hpb1 j (by omega)]; have := s_V_le (s_rule g (s_kind g p)) (p := j) (by omega); omega) (by omega)) ?_
    rw [hQ]
    exact A_ireturn hg (by decide) (by decide) rfl dX4_movesTo_39 ⟨rfl, ⟨rfl, (by rw [x_moves_b hgw hpp hpb1 (hva hpb1)])⟩⟩
set_option maxRecDepth 100000 in
set_option maxHeartbeats 4000000 in
theorem c_X4_winningMoves (G : GL) (ex : Bool) (n : Nat) (σ : Nat → va_E) (pb : Nat) (g : Nat → Nat) (kd : Nat → Nat) (fi : Nat → Nat) (se : Nat → Nat) (flA : Nat → Nat) (n0A : Nat → Nat) (gvA : Nat → Nat) (gsA : Nat → Nat) (lmA : Nat → Nat) (vsA : Nat → Nat) (nmA : Nat → Nat) (onA : Nat → Nat) (slA : Nat → Nat) (moA : Nat → Nat) (nbA : Nat → Nat) (bmA : Nat → Nat → Nat) (skA : Nat → Nat → Nat) (s2A : Nat → Nat → Nat) (vaA : Nat → Nat → Nat) (spA : Nat → Nat → Nat) (rfA : Nat → Nat → Nat) (p : Nat) (hc0 : σ 43 = o4 G (43) ) (hc1 : σ 44 = q_rn G 4 4 (fun j => some (46 + 8 * j))) (hc2 : σ pb = o6 G (pb) (nI (g 1)) (nI (g 2))) (hc3 : σ (pb + 1) = q_an G 8 kd) (hc4 : σ (pb + 2) = q_an G 8 fi) (hc5 : σ (pb + 3) = q_an G 8 se) (hc6 : ∀ j9 : Nat, j9 < 4 → σ (46 + 8 * j9) = o8 G (46 + 8 * j9) (nI (flA j9)) (nI (n0A j9)) (nI (gvA j9)) (nI (gsA j9)) (nI (lmA j9)) (nI (vsA j9))) (hc7 : ∀ j9 : Nat, j9 < 4 → σ (46 + 8 * j9 + 1) = o7 G (46 + 8 * j9 + 1) (lN (nmA j9)) (lN (onA j9)) (nI (slA j9)) (nI (moA j9)) (nI (nbA j9))) (hc8 : ∀ j9 : Nat, j9 < 4 → σ (46 + 8 * j9 + 2) = q_an G 5 (bmA j9)) (hc9 : ∀ j9 : Nat, j9 < 4 → σ (46 + 8 * j9 + 3) = q_an G 1681 (skA j9)) (hc10 : ∀ j9 : Nat, j9 < 4 → σ (46 + 8 * j9 + 4) = q_an G 1681 (s2A j9)) (hc11 : ∀ j9 : Nat, j9 < 4 → σ (46 + 8 * j9 + 5) = q_an G 1681 (vaA j9)) (hc12 : ∀ j9 : Nat, j9 < 4 → σ (46 + 8 * j9 + 6) = q_an G 1681 (spA j9)) (hc13 : ∀ j9 : Nat, j9 < 4 → σ (46 + 8 * j9 + 7) = q_an G 1681 (rfA j9)) (hn9 : 279 ≤ n) (hpb : pb = 27 ∨ pb = 236) (hgw : s_gwf g) (hxp : x_p g kd fi se) (hTF : x_TF g (g 1) onA slA moA nbA n0A gvA gsA lmA vsA bmA skA s2A vaA spA) (hpp : p < s_np g) : Ct G yX4_winningMoves cX4_winningMoves 3 (some .int) ⟨4, 0, 0, 98⟩ [.ref (q_h G + 43), .ref (q_h G + pb), .int (nI (p))] ex n σ (fun v9 σ2 => σ2 = σ ∧ v9 = some (.int (nI (s_mvs g p true)))) := by
  refine q_enter [some (.ref (q_h G + 43)), some (.ref (q_h G + pb)), some (.int (nI (p)))] (by decide) (Nat.le_of_ble_eq_true rfl) rfl ?_
  intro K hg
  obtain ⟨Q, hQ⟩ : ∃ Q, Q = q_Q G K ex n 0 0 (fun v9 n' σ' => n' = n ∧ (fun v9 σ2 => σ2 = σ ∧ v9 = some (.int (nI (s_mvs g p true)))) v9 σ') q_noX := ⟨_, rfl⟩
  refine (?_ : AJ G K (q_Q G K ex n 0 0 _ _) 0 0 ex n 0 _ _ σ)
  rw [← hQ]
  have hrl := s_rest_lt hgw hpp
  refine A_aload_n hg dX4_winningMoves_0 rfl rfl ?_
  refine A_aload_n hg dX4_winningMoves_1 rfl rfl ?_
  refine A_iload_n hg dX4_winningMoves_2 rfl rfl ?_
  refine A_aload_n hg dX4_winningMoves_3 rfl rfl ?_
  refine A_aload_n hg dX4_winningMoves_4 rfl rfl ?_
  refine A_eV (kc2 := 0) (ks2 := 0) (As := [.ref (q_h G + pb)]) (rest := [.int (nI (p)), .ref (q_h G + pb), .ref (q_h G + 43)]) hg lk_RX4_82 in_X4_totalOf se_X4_totalOf rfl dX4_winningMoves_5 ⟨by decide, by decide⟩ rfl rfl ⟨by decide, by decide⟩ hc0 (by omega) rfl rfl (Nat.le_of_ble_eq_true rfl) (c_X4_totalOf G ex n σ pb g kd fi se flA n0A gvA gsA lmA vsA nmA onA slA moA nbA bmA skA s2A vaA spA rfA hc0 hc1 hc2 hc3 hc4 hc5 hc6 hc7 hc8 hc9 hc10 hc11 hc12 hc13 (by omega) (by omega) hgw hxp hTF) ?_
  refine A_aload_n hg dX4_winningMoves_8 rfl rfl ?_
  refine A_aload_n hg dX4_winningMoves_9 rfl rfl ?_
  refine A_iload_n hg dX4_winningMoves_10 rfl rfl ?_
  refine A_eV (kc2 := 0) (ks2 := 0) (As := [.ref (q_h G + pb), .int (nI (p))]) (rest := [.int (nI (s_tot g)), .int (nI (p)), .ref (q_h G + pb), .ref (q_h G + 43)]) hg lk_RX4_74 in_X4_valueOf se_X4_valueOf rfl dX4_winningMoves_11 ⟨by decide, by decide⟩ rfl rfl ⟨by decide, by decide⟩ hc0 (by omega) rfl rfl (Nat.le_of_ble_eq_true rfl) (c_X4_valueOf G ex n σ pb g kd fi se flA n0A gvA gsA lmA vsA nmA onA slA moA nbA bmA skA s2A vaA spA rfA p hc0 hc1 hc2 hc3 hc4 hc5 hc6 hc7 hc8 hc9 hc10 hc11 hc12 hc13 (by omega) (by omega) hgw hxp hTF (by omega)) ?_
  refine A_ixorN hg dX4_winningMoves_14 ?_
  refine A_top (w := .int (q_d (((s_tot g) ^^^ (s_pv g p 0 0)) + 1))) (congrArg Value.int (q_dS _).symm) ?_
  refine A_eV (kc2 := 0) (ks2 := 0) (As := [.ref (q_h G + pb), .int (nI (p)), .int (q_d (((s_tot g) ^^^ (s_pv g p 0 0)) + 1))]) (rest := []) hg lk_RX4_86 in_X4_movesTo se_X4_movesTo rfl dX4_winningMoves_15 ⟨by decide, by decide⟩ rfl rfl ⟨by decide, by decide⟩ hc0 (by omega) rfl rfl (Nat.le_of_ble_eq_true rfl) (c_X4_movesTo G ex n σ pb g kd fi se flA n0A gvA gsA lmA vsA nmA onA slA moA nbA bmA skA s2A vaA spA rfA (((s_tot g) ^^^ (s_pv g p 0 0)) + 1) p hc0 hc1 hc2 hc3 hc4 hc5 hc6 hc7 hc8 hc9 hc10 hc11 hc12 hc13 (by omega) (by omega) hgw hxp hTF (by omega) (by omega)) ?_
  rw [hQ]
  exact A_ireturn hg (by decide) (by decide) rfl dX4_winningMoves_18 ⟨rfl, ⟨rfl, (by rw [x_okt_w]; rfl)⟩⟩
set_option maxRecDepth 100000 in
set_option maxHeartbeats 4000000 in
theorem c_X4_allMoves (G : GL) (ex : Bool) (n : Nat) (σ : Nat → va_E) (pb : Nat) (g : Nat → Nat) (kd : Nat → Nat) (fi : Nat → Nat) (se : Nat → Nat) (flA : Nat → Nat) (n0A : Nat → Nat) (gvA : Nat → Nat) (gsA : Nat → Nat) (lmA : Nat → Nat) (vsA : Nat → Nat) (nmA : Nat → Nat) (onA : Nat → Nat) (slA : Nat → Nat) (moA : Nat → Nat) (nbA : Nat → Nat) (bmA : Nat → Nat → Nat) (skA : Nat → Nat → Nat) (s2A : Nat → Nat → Nat) (vaA : Nat → Nat → Nat) (spA : Nat → Nat → Nat) (rfA : Nat → Nat → Nat) (hc0 : σ 43 = o4 G (43) ) (hc1 : σ 44 = q_rn G 4 4 (fun j => some (46 + 8 * j))) (hc2 : σ pb = o6 G (pb) (nI (g 1)) (nI (g 2))) (hc3 : σ (pb + 1) = q_an G 8 kd) (hc4 : σ (pb + 2) = q_an G 8 fi) (hc5 : σ (pb + 3) = q_an G 8 se) (hc6 : ∀ j9 : Nat, j9 < 4 → σ (46 + 8 * j9) = o8 G (46 + 8 * j9) (nI (flA j9)) (nI (n0A j9)) (nI (gvA j9)) (nI (gsA j9)) (nI (lmA j9)) (nI (vsA j9))) (hc7 : ∀ j9 : Nat, j9 < 4 → σ (46 + 8 * j9 + 1) = o7 G (46 + 8 * j9 + 1) (lN (nmA j9)) (lN (onA j9)) (nI (slA j9)) (nI (moA j9)) (nI (nbA j9))) (hc8 : ∀ j9 : Nat, j9 < 4 → σ (46 + 8 * j9 + 2) = q_an G 5 (bmA j9)) (hc9 : ∀ j9 : Nat, j9 < 4 → σ (46 + 8 * j9 + 3) = q_an G 1681 (skA j9)) (hc10 : ∀ j9 : Nat, j9 < 4 → σ (46 + 8 * j9 + 4) = q_an G 1681 (s2A j9)) (hc11 : ∀ j9 : Nat, j9 < 4 → σ (46 + 8 * j9 + 5) = q_an G 1681 (vaA j9)) (hc12 : ∀ j9 : Nat, j9 < 4 → σ (46 + 8 * j9 + 6) = q_an G 1681 (spA j9)) (hc13 : ∀ j9 : Nat, j9 < 4 → σ (46 + 8 * j9 + 7) = q_an G 1681 (rfA j9)) (hn9 : 279 ≤ n) (hpb : pb = 27 ∨ pb = 236) (hgw : s_gwf g) (hxp : x_p g kd fi se) (hTF : x_TF g (g 1) onA slA moA nbA n0A gvA gsA lmA vsA bmA skA s2A vaA spA) : Ct G yX4_allMoves cX4_allMoves 4 (some .int) ⟨4, 0, 0, 98⟩ [.ref (q_h G + 43), .ref (q_h G + pb)] ex n σ (fun v9 σ2 => σ2 = σ ∧ v9 = some (.int (nI (s_ms g false (s_np g))))) := by
  refine q_enter [some (.ref (q_h G + 43)), some (.ref (q_h G + pb)), none, none] (by decide) (Nat.le_of_ble_eq_true rfl) rfl ?_
  intro K hg
  obtain ⟨Q, hQ⟩ : ∃ Q, Q = q_Q G K ex n 0 0 (fun v9 n' σ' => n' = n ∧ (fun v9 σ2 => σ2 = σ ∧ v9 = some (.int (nI (s_ms g false (s_np g))))) v9 σ') q_noX := ⟨_, rfl⟩
  refine (?_ : AJ G K (q_Q G K ex n 0 0 _ _) 0 0 ex n 0 _ _ σ)
  rw [← hQ]
  have hg1 := hgw.2.1
  have hg2 := hgw.2.2.1
  have hnp : s_np g = g 1 + g 2 := rfl
  refine A_iconst (v := (nI (0))) hg dX4_allMoves_0 (by decide) ?_
  refine A_istore_n hg dX4_allMoves_1 rfl (by decide) (q_c1d rfl) ?_
  refine A_eq (ls2 := [some (.ref (q_h G + 43)), some (.ref (q_h G + pb)), some (.int (nI (0))), none]) (st2 := []) (pc2 := 0) rfl rfl ?_
  refine A_iconst (v := (nI (0))) hg dX4_allMoves_2 (by decide) ?_
  refine A_istore_n hg dX4_allMoves_3 rfl (by decide) (q_c1d rfl) ?_
  refine A_eq (ls2 := [some (.ref (q_h G + 43)), some (.ref (q_h G + pb)), some (.int (nI (0))), some (.int (nI (0)))]) (st2 := []) (pc2 := 0) rfl rfl ?_
  have hL4 : ∀ (fu : Nat) (p : Nat) (a : Nat), (p ≤ s_np g) → (a = s_ms g false p) → (s_np g - p) < fu → AJ G K Q 0 0 ex n 4 [some (.ref (q_h G + 43)), some (.ref (q_h G + pb)), some (.int (nI (a))), some (.int (nI (p)))] [] σ := by
    intro fu
    induction fu with
    | zero => intro p a hp ha hm; exact absurd hm (Nat.not_lt_zero _)
    | succ fu ih4 =>
      intro p a hp ha hm4
      refine A_iload_n hg dX4_allMoves_4 rfl rfl ?_
      refine A_aload_n hg dX4_allMoves_5 rfl rfl ?_
      refine A_eV (kc2 := 0) (ks2 := 0) (As := []) (rest := [.int (nI (p))]) hg lk_RX4_70 in_X6_many se_X6_many rfl dX4_allMoves_6 ⟨by decide, by decide⟩ rfl rfl ⟨by decide, by decide⟩ hc2 (by omega) rfl rfl (Nat.le_of_ble_eq_true rfl) (c_X6_many G ex n σ pb (g 1) (g 2) hc2 (by omega)) ?_
      refine A_icmp_geN (tgt := 28) hg dX4_allMoves_9 (by omega) (by omega) (by decide) (fun c9 => ?_) (fun c9 => ?_)
      · skip
        refine A_iload_n hg dX4_allMoves_28 rfl rfl ?_
        rw [hQ]
        exact A_ireturn hg (by decide) (by decide) rfl dX4_allMoves_29 ⟨rfl, ⟨rfl, (by rw [ha, show p = s_np g by omega])⟩⟩
      · skip
        refine A_iload_n hg dX4_allMoves_12 rfl rfl ?_
        refine A_aload_n hg dX4_allMoves_13 rfl rfl ?_
        refine A_aload_n hg dX4_allMoves_14 rfl rfl ?_
        refine A_iload_n hg dX4_allMoves_15 rfl rfl ?_
        refine A_iconst (v := (q_d (0))) hg dX4_allMoves_16 (by decide) ?_
        refine A_eV (kc2 := 0) (ks2 := 0) (As := [.ref (q_h G + pb), .int (nI (p)), .int (q_d (0))]) (rest := [.int (nI (a))]) hg lk_RX4_86 in_X4_movesTo se_X4_movesTo rfl dX4_allMoves_17 ⟨by decide, by decide⟩ rfl rfl ⟨by decide, by decide⟩ hc0 (by omega) rfl rfl (Nat.le_of_ble_eq_true rfl) (c_X4_movesTo G ex n σ pb g kd fi se flA n0A gvA gsA lmA vsA nmA onA slA moA nbA bmA skA s2A vaA spA rfA 0 p hc0 hc1 hc2 hc3 hc4 hc5 hc6 hc7 hc8 hc9 hc10 hc11 hc12 hc13 (by omega) (by omega) hgw hxp hTF (by omega) (by omega)) ?_
        refine A_iaddN hg dX4_allMoves_20 ?_
        refine A_istore_n hg dX4_allMoves_21 rfl (by decide) (q_c1d rfl) ?_
        refine A_eq (ls2 := [some (.ref (q_h G + 43)), some (.ref (q_h G + pb)), some (.int (nI (a + (s_cc (x_okt g p 0) (s_x g p + 1) (s_y g p + 1))))), some (.int (nI (p)))]) (st2 := []) (pc2 := 0) rfl rfl ?_
        refine A_iincN (k' := 1) hg dX4_allMoves_22 (by decide) rfl (by decide) (q_c1d rfl) ?_
        refine A_eq (ls2 := [some (.ref (q_h G + 43)), some (.ref (q_h G + pb)), some (.int (nI (a + (s_cc (x_okt g p 0) (s_x g p + 1) (s_y g p + 1))))), some (.int (nI (p + 1)))]) (st2 := []) (pc2 := 0) rfl rfl ?_
        refine A_goto (tgt := 4) hg dX4_allMoves_25 (by decide) ?_
        exact ih4 (p + 1) (a + (s_cc (x_okt g p 0) (s_x g p + 1) (s_y g p + 1))) (by omega) (by rw [ha]; show _ + s_cc (x_okt g p 0) _ _ = _; rw [x_okt_0]; rfl) (by omega)
  exact hL4 _ 0 0 (Nat.zero_le _) rfl (Nat.lt_succ_self _)
set_option maxRecDepth 100000 in
set_option maxHeartbeats 4000000 in
theorem c_X4_allWinningMoves (G : GL) (ex : Bool) (n : Nat) (σ : Nat → va_E) (pb : Nat) (g : Nat → Nat) (kd : Nat → Nat) (fi : Nat → Nat) (se : Nat → Nat) (flA : Nat → Nat) (n0A : Nat → Nat) (gvA : Nat → Nat) (gsA : Nat → Nat) (lmA : Nat → Nat) (vsA : Nat → Nat) (nmA : Nat → Nat) (onA : Nat → Nat) (slA : Nat → Nat) (moA : Nat → Nat) (nbA : Nat → Nat) (bmA : Nat → Nat → Nat) (skA : Nat → Nat → Nat) (s2A : Nat → Nat → Nat) (vaA : Nat → Nat → Nat) (spA : Nat → Nat → Nat) (rfA : Nat → Nat → Nat) (hc0 : σ 43 = o4 G (43) ) (hc1 : σ 44 = q_rn G 4 4 (fun j => some (46 + 8 * j))) (hc2 : σ pb = o6 G (pb) (nI (g 1)) (nI (g 2))) (hc3 : σ (pb + 1) = q_an G 8 kd) (hc4 : σ (pb + 2) = q_an G 8 fi) (hc5 : σ (pb + 3) = q_an G 8 se) (hc6 : ∀ j9 : Nat, j9 < 4 → σ (46 + 8 * j9) = o8 G (46 + 8 * j9) (nI (flA j9)) (nI (n0A j9)) (nI (gvA j9)) (nI (gsA j9)) (nI (lmA j9)) (nI (vsA j9))) (hc7 : ∀ j9 : Nat, j9 < 4 → σ (46 + 8 * j9 + 1) = o7 G (46 + 8 * j9 + 1) (lN (nmA j9)) (lN (onA j9)) (nI (slA j9)) (nI (moA j9)) (nI (nbA j9))) (hc8 : ∀ j9 : Nat, j9 < 4 → σ (46 + 8 * j9 + 2) = q_an G 5 (bmA j9)) (hc9 : ∀ j9 : Nat, j9 < 4 → σ (46 + 8 * j9 + 3) = q_an G 1681 (skA j9)) (hc10 : ∀ j9 : Nat, j9 < 4 → σ (46 + 8 * j9 + 4) = q_an G 1681 (s2A j9)) (hc11 : ∀ j9 : Nat, j9 < 4 → σ (46 + 8 * j9 + 5) = q_an G 1681 (vaA j9)) (hc12 : ∀ j9 : Nat, j9 < 4 → σ (46 + 8 * j9 + 6) = q_an G 1681 (spA j9)) (hc13 : ∀ j9 : Nat, j9 < 4 → σ (46 + 8 * j9 + 7) = q_an G 1681 (rfA j9)) (hn9 : 279 ≤ n) (hpb : pb = 27 ∨ pb = 236) (hgw : s_gwf g) (hxp : x_p g kd fi se) (hTF : x_TF g (g 1) onA slA moA nbA n0A gvA gsA lmA vsA bmA skA s2A vaA spA) : Ct G yX4_allWinningMoves cX4_allWinningMoves 4 (some .int) ⟨5, 0, 0, 120⟩ [.ref (q_h G + 43), .ref (q_h G + pb)] ex n σ (fun v9 σ2 => σ2 = σ ∧ v9 = some (.int (nI (s_ms g true (s_np g))))) := by
  refine q_enter [some (.ref (q_h G + 43)), some (.ref (q_h G + pb)), none, none] (by decide) (Nat.le_of_ble_eq_true rfl) rfl ?_
  intro K hg
  obtain ⟨Q, hQ⟩ : ∃ Q, Q = q_Q G K ex n 0 0 (fun v9 n' σ' => n' = n ∧ (fun v9 σ2 => σ2 = σ ∧ v9 = some (.int (nI (s_ms g true (s_np g))))) v9 σ') q_noX := ⟨_, rfl⟩
  refine (?_ : AJ G K (q_Q G K ex n 0 0 _ _) 0 0 ex n 0 _ _ σ)
  rw [← hQ]
  have hg1 := hgw.2.1
  have hg2 := hgw.2.2.1
  have hnp : s_np g = g 1 + g 2 := rfl
  refine A_iconst (v := (nI (0))) hg dX4_allWinningMoves_0 (by decide) ?_
  refine A_istore_n hg dX4_allWinningMoves_1 rfl (by decide) (q_c1d rfl) ?_
  refine A_eq (ls2 := [some (.ref (q_h G + 43)), some (.ref (q_h G + pb)), some (.int (nI (0))), none]) (st2 := []) (pc2 := 0) rfl rfl ?_
  refine A_iconst (v := (nI (0))) hg dX4_allWinningMoves_2 (by decide) ?_
  refine A_istore_n hg dX4_allWinningMoves_3 rfl (by decide) (q_c1d rfl) ?_
  refine A_eq (ls2 := [some (.ref (q_h G + 43)), some (.ref (q_h G + pb)), some (.int (nI (0))), some (.int (nI (0)))]) (st2 := []) (pc2 := 0) rfl rfl ?_
  have hL4 : ∀ (fu : Nat) (p : Nat) (a : Nat), (p ≤ s_np g) → (a = s_ms g true p) → (s_np g - p) < fu → AJ G K Q 0 0 ex n 4 [some (.ref (q_h G + 43)), some (.ref (q_h G + pb)), some (.int (nI (a))), some (.int (nI (p)))] [] σ := by
    intro fu
    induction fu with
    | zero => intro p a hp ha hm; exact absurd hm (Nat.not_lt_zero _)
    | succ fu ih4 =>
      intro p a hp ha hm4
      refine A_iload_n hg dX4_allWinningMoves_4 rfl rfl ?_
      refine A_aload_n hg dX4_allWinningMoves_5 rfl rfl ?_
      refine A_eV (kc2 := 0) (ks2 := 0) (As := []) (rest := [.int (nI (p))]) hg lk_RX4_70 in_X6_many se_X6_many rfl dX4_allWinningMoves_6 ⟨by decide, by decide⟩ rfl rfl ⟨by decide, by decide⟩ hc2 (by omega) rfl rfl (Nat.le_of_ble_eq_true rfl) (c_X6_many G ex n σ pb (g 1) (g 2) hc2 (by omega)) ?_
      refine A_icmp_geN (tgt := 27) hg dX4_allWinningMoves_9 (by omega) (by omega) (by decide) (fun c9 => ?_) (fun c9 => ?_)
      · skip
        refine A_iload_n hg dX4_allWinningMoves_27 rfl rfl ?_
        rw [hQ]
        exact A_ireturn hg (by decide) (by decide) rfl dX4_allWinningMoves_28 ⟨rfl, ⟨rfl, (by rw [ha, show p = s_np g by omega])⟩⟩
      · skip
        refine A_iload_n hg dX4_allWinningMoves_12 rfl rfl ?_
        refine A_aload_n hg dX4_allWinningMoves_13 rfl rfl ?_
        refine A_aload_n hg dX4_allWinningMoves_14 rfl rfl ?_
        refine A_iload_n hg dX4_allWinningMoves_15 rfl rfl ?_
        refine A_eV (kc2 := 0) (ks2 := 0) (As := [.ref (q_h G + pb), .int (nI (p))]) (rest := [.int (nI (a))]) hg lk_RX4_89 in_X4_winningMoves se_X4_winningMoves rfl dX4_allWinningMoves_16 ⟨by decide, by decide⟩ rfl rfl ⟨by decide, by decide⟩ hc0 (by omega) rfl rfl (Nat.le_of_ble_eq_true rfl) (c_X4_winningMoves G ex n σ pb g kd fi se flA n0A gvA gsA lmA vsA nmA onA slA moA nbA bmA skA s2A vaA spA rfA p hc0 hc1 hc2 hc3 hc4 hc5 hc6 hc7 hc8 hc9 hc10 hc11 hc12 hc13 (by omega) (by omega) hgw hxp hTF (by omega)) ?_
        refine A_iaddN hg dX4_allWinningMoves_19 ?_
        refine A_istore_n hg dX4_allWinningMoves_20 rfl (by decide) (q_c1d rfl) ?_
        refine A_eq (ls2 := [some (.ref (q_h G + 43)), some (.ref (q_h G + pb)), some (.int (nI (a + (s_mvs g p true)))), some (.int (nI (p)))]) (st2 := []) (pc2 := 0) rfl rfl ?_
        refine A_iincN (k' := 1) hg dX4_allWinningMoves_21 (by decide) rfl (by decide) (q_c1d rfl) ?_
        refine A_eq (ls2 := [some (.ref (q_h G + 43)), some (.ref (q_h G + pb)), some (.int (nI (a + (s_mvs g p true)))), some (.int (nI (p + 1)))]) (st2 := []) (pc2 := 0) rfl rfl ?_
        refine A_goto (tgt := 4) hg dX4_allWinningMoves_24 (by decide) ?_
        exact ih4 (p + 1) (a + (s_mvs g p true)) (by omega) (by rw [ha]; rfl) (by omega)
  exact hL4 _ 0 0 (Nat.zero_le _) rfl (Nat.lt_succ_self _)
set_option maxRecDepth 100000 in
set_option maxHeartbeats 4000000 in
theorem c_X4_findMove (G : GL) (ex : Bool) (n : Nat) (σ : Nat → va_E) (pb : Nat) (g : Nat → Nat) (kd : Nat → Nat) (fi : Nat → Nat) (se : Nat → Nat) (flA : Nat → Nat) (n0A : Nat → Nat) (gvA : Nat → Nat) (gsA : Nat → Nat) (lmA : Nat → Nat) (vsA : Nat → Nat) (nmA : Nat → Nat) (onA : Nat → Nat) (slA : Nat → Nat) (moA : Nat → Nat) (nbA : Nat → Nat) (bmA : Nat → Nat → Nat) (skA : Nat → Nat → Nat) (s2A : Nat → Nat → Nat) (vaA : Nat → Nat → Nat) (spA : Nat → Nat → Nat) (rfA : Nat → Nat → Nat) (t : Nat) (p : Nat) (hb : Nat) (h0 : Int32) (h1 : Int32) (h2 : Int32) (h3 : Int32) (h4 : Int32) (hc0 : σ 43 = o4 G (43) ) (hc1 : σ 44 = q_rn G 4 4 (fun j => some (46 + 8 * j))) (hc2 : σ pb = o6 G (pb) (nI (g 1)) (nI (g 2))) (hc3 : σ (pb + 1) = q_an G 8 kd) (hc4 : σ (pb + 2) = q_an G 8 fi) (hc5 : σ (pb + 3) = q_an G 8 se) (hc6 : ∀ j9 : Nat, j9 < 4 → σ (46 + 8 * j9) = o8 G (46 + 8 * j9) (nI (flA j9)) (nI (n0A j9)) (nI (gvA j9)) (nI (gsA j9)) (nI (lmA j9)) (nI (vsA j9))) (hc7 : ∀ j9 : Nat, j9 < 4 → σ (46 + 8 * j9 + 1) = o7 G (46 + 8 * j9 + 1) (lN (nmA j9)) (lN (onA j9)) (nI (slA j9)) (nI (moA j9)) (nI (nbA j9))) (hc8 : ∀ j9 : Nat, j9 < 4 → σ (46 + 8 * j9 + 2) = q_an G 5 (bmA j9)) (hc9 : ∀ j9 : Nat, j9 < 4 → σ (46 + 8 * j9 + 3) = q_an G 1681 (skA j9)) (hc10 : ∀ j9 : Nat, j9 < 4 → σ (46 + 8 * j9 + 4) = q_an G 1681 (s2A j9)) (hc11 : ∀ j9 : Nat, j9 < 4 → σ (46 + 8 * j9 + 5) = q_an G 1681 (vaA j9)) (hc12 : ∀ j9 : Nat, j9 < 4 → σ (46 + 8 * j9 + 6) = q_an G 1681 (spA j9)) (hc13 : ∀ j9 : Nat, j9 < 4 → σ (46 + 8 * j9 + 7) = q_an G 1681 (rfA j9)) (hc14 : σ hb = o1 G (h0) (h1) (h2) (h3) (h4)) (hn9 : 279 ≤ n) (hpb : pb = 27 ∨ pb = 236) (hgw : s_gwf g) (hxp : x_p g kd fi se) (hTF : x_TF g (g 1) onA slA moA nbA n0A gvA gsA lmA vsA bmA skA s2A vaA spA) (hpp : p < s_np g) (ht30 : t < 2 ^ 31) (hhb : hb = 45 ∨ hb = 242) : Ct G yX4_findMove cX4_findMove 8 (some .boolean) ⟨3, 0, 0, 71⟩ [.ref (q_h G + 43), .ref (q_h G + pb), .int (nI (p)), .int (q_d (t)), .ref (q_h G + hb)] ex n σ (fun v9 σ2 => (v9 = some (.int (nI (0))) ∧ (x_hm g p t = false) ∧ σ2 = σ) ∨ (v9 = some (.int (nI (1))) ∧ (x_hm g p t = true) ∧ σ2 hb = o1 G (h0) (h1) (h2) (nI (x_hk g p t)) (nI (x_hl g p t)) ∧ (∀ i : Nat, i ≠ hb → σ2 i = σ i))) := by
  refine q_enter [some (.ref (q_h G + 43)), some (.ref (q_h G + pb)), some (.int (nI (p))), some (.int (q_d (t))), some (.ref (q_h G + hb)), none, none, none] (by decide) (Nat.le_of_ble_eq_true rfl) rfl ?_
  intro K hg
  obtain ⟨Q, hQ⟩ : ∃ Q, Q = q_Q G K ex n 0 0 (fun v9 n' σ' => n' = n ∧ (fun v9 σ2 => (v9 = some (.int (nI (0))) ∧ (x_hm g p t = false) ∧ σ2 = σ) ∨ (v9 = some (.int (nI (1))) ∧ (x_hm g p t = true) ∧ σ2 hb = o1 G (h0) (h1) (h2) (nI (x_hk g p t)) (nI (x_hl g p t)) ∧ (∀ i : Nat, i ≠ hb → σ2 i = σ i))) v9 σ') q_noX := ⟨_, rfl⟩
  refine (?_ : AJ G K (q_Q G K ex n 0 0 _ _) 0 0 ex n 0 _ _ σ)
  rw [← hQ]
  have hpart := s_part hgw hpp
  have hg1 := hgw.2.1
  have hg2 := hgw.2.2.1
  have hg0 := hgw.1
  have hnp : s_np g = g 1 + g 2 := rfl
  have hva : p < g 1 → ∀ j : Nat, j < 1681 → vaA (s_kind g p) j = s_V (s_rule g (s_kind g p)) j := fun e j hj => by rw [s_kind_b e]; exact x_TF_v hTF e hj
  refine A_aload_n hg dX4_findMove_0 rfl rfl ?_
  refine A_iload_n hg dX4_findMove_1 rfl rfl ?_
  refine A_eV (kc2 := 0) (ks2 := 0) (As := [.int (nI (p))]) (rest := []) hg lk_RX4_53 in_X6_firstOf se_X6_firstOf rfl dX4_findMove_2 ⟨by decide, by decide⟩ rfl rfl ⟨by decide, by decide⟩ hc2 (by omega) rfl rfl (Nat.le_of_ble_eq_true rfl) (c_X6_firstOf G ex n σ pb (g 1) (g 2) fi p hc2 hc4 (by omega) (by omega) (by omega)) ?_
  refine A_top (w := .int (nI (s_x g p))) (by rw [x_p_x hxp hpp]) ?_
  refine A_istore hg dX4_findMove_5 (by decide) (q_c1d rfl) ?_
  refine A_eq (ls2 := [some (.ref (q_h G + 43)), some (.ref (q_h G + pb)), some (.int (nI (p))), some (.int (q_d (t))), some (.ref (q_h G + hb)), some (.int (nI (s_x g p))), none, none]) (st2 := []) (pc2 := 0) rfl rfl ?_
  refine A_aload_n hg dX4_findMove_7 rfl rfl ?_
  refine A_iload_n hg dX4_findMove_8 rfl rfl ?_
  refine A_eV (kc2 := 0) (ks2 := 0) (As := [.int (nI (p))]) (rest := []) hg lk_RX4_37 in_X6_kindOf se_X6_kindOf rfl dX4_findMove_9 ⟨by decide, by decide⟩ rfl rfl ⟨by decide, by decide⟩ hc2 (by omega) rfl rfl (Nat.le_of_ble_eq_true rfl) (c_X6_kindOf G ex n σ pb (g 1) (g 2) kd p hc2 hc3 (by omega) (by omega) (by omega)) ?_
  refine A_top (w := .int (nI (s_kind g p))) (by rw [x_p_k hxp hpp]) ?_
  refine A_istore hg dX4_findMove_12 (by decide) (q_c1d rfl) ?_
  refine A_eq (ls2 := [some (.ref (q_h G + 43)), some (.ref (q_h G + pb)), some (.int (nI (p))), some (.int (q_d (t))), some (.ref (q_h G + hb)), some (.int (nI (s_x g p))), some (.int (nI (s_kind g p))), none]) (st2 := []) (pc2 := 0) rfl rfl ?_
  refine A_aload_n hg dX4_findMove_14 rfl rfl ?_
  refine A_iload_n hg dX4_findMove_15 rfl rfl ?_
  refine A_eV (kc2 := 0) (ks2 := 0) (As := [.int (nI (p))]) (rest := []) hg lk_RX4_56 in_X6_isBoard se_X6_isBoard rfl dX4_findMove_16 ⟨by decide, by decide⟩ rfl rfl ⟨by decide, by decide⟩ hc2 (by omega) rfl rfl (Nat.le_of_ble_eq_true rfl) (c_X6_isBoard G ex n σ pb (g 1) (g 2) p hc2 (by omega) (by omega) (by omega)) ?_
  refine A_if_eqB (tgt := 42) hg dX4_findMove_19 (by decide) (fun c19 => ?_) (fun c19 => ?_)
  · skip
    have hpb0 := x_of_ndec c19
    refine A_iconst (v := (nI (1))) hg dX4_findMove_42 (by decide) ?_
    refine A_istore hg dX4_findMove_43 (by decide) (q_c1d rfl) ?_
    refine A_eq (ls2 := [some (.ref (q_h G + 43)), some (.ref (q_h G + pb)), some (.int (nI (p))), some (.int (q_d (t))), some (.ref (q_h G + hb)), some (.int (nI (s_x g p))), some (.int (nI (s_kind g p))), some (.int (nI (1)))]) (st2 := []) (pc2 := 0) rfl rfl ?_
    have hL45 : ∀ (fu : Nat) (k : Nat), (1 ≤ k ∧ k ≤ s_x g p + 1) → (∀ q : Nat, q < k → x_okt g p t q 0 = false) → (s_x g p + 1 - k) < fu → AJ G K Q 0 0 ex n 45 [some (.ref (q_h G + 43)), some (.ref (q_h G + pb)), some (.int (nI (p))), some (.int (q_d (t))), some (.ref (q_h G + hb)), some (.int (nI (s_x g p))), some (.int (nI (s_kind g p))), some (.int (nI (k)))] [] σ := by
      intro fu
      induction fu with
      | zero => intro k hk hnk hm; exact absurd hm (Nat.not_lt_zero _)
      | succ fu ih45 =>
        intro k hk hnk hm45
        refine A_iload hg dX4_findMove_45 rfl ?_
        refine A_iload hg dX4_findMove_47 rfl ?_
        refine A_icmp_gtN (tgt := 99) hg dX4_findMove_49 (by omega) (by omega) (by decide) (fun c49 => ?_) (fun c49 => ?_)
        · skip
          refine A_iconst (v := (nI (0))) hg dX4_findMove_99 (by decide) ?_
          rw [hQ]
          exact A_zreturn hg (by decide) (by decide) rfl rfl dX4_findMove_100 ⟨rfl, Or.inl (⟨rfl, (x_find_s0 hpb0 hk.1 (by omega) hnk), rfl⟩)⟩
        · skip
          refine A_iload hg dX4_findMove_52 rfl ?_
          refine A_iload hg dX4_findMove_54 rfl ?_
          refine A_icmp_gtN (tgt := 99) hg dX4_findMove_56 (by omega) (by omega) (by decide) (fun c56 => ?_) (fun c56 => ?_)
          · skip
            refine A_iconst (v := (nI (0))) hg dX4_findMove_99 (by decide) ?_
            rw [hQ]
            exact A_zreturn hg (by decide) (by decide) rfl rfl dX4_findMove_100 ⟨rfl, Or.inl (⟨rfl, (x_find_s0 hpb0 hk.1 (by omega) hnk), rfl⟩)⟩
          · skip
            have hok : x_okt g p t k 0 = (decide (t = 0) || ((s_x g p - k) % (s_kind g p + 1) + 1 == t)) := by rw [x_okt_s hpb0 (by omega), decide_eq_true ⟨by omega, by omega⟩, Bool.true_and]
            have hml : (s_x g p - k) % (s_kind g p + 1) < 2 ^ 30 := Nat.lt_of_le_of_lt (Nat.mod_le _ _) (by omega)
            refine A_iload_n hg dX4_findMove_59 rfl rfl ?_
            refine A_iconst (v := (q_d (0))) hg dX4_findMove_60 (by decide) ?_
            refine A_icmp_eqM (tgt := 78) hg dX4_findMove_61 (by omega) (by decide) (by decide) (fun c61 => ?_) (fun c61 => ?_)
            · skip
              have hokt : x_okt g p t k 0 = true := hok.trans (by first | rw [decide_eq_true c61, Bool.true_or] | rw [beq_iff_eq.mpr c75, Bool.or_true])
              obtain ⟨hf1, hf2, hf3⟩ := x_find_s1 hpb0 (by omega) hokt hnk
              refine A_aload hg dX4_findMove_78 rfl ?_
              refine A_iload hg dX4_findMove_80 rfl ?_
              refine A_putf hg fl_RX4_99 dX4_findMove_82 hc14 (by omega) (Nat.le_of_ble_eq_true rfl) rfl rfl rfl (fun σ_1 hc_2 hf_3 => ?_)
              have hc_2 : σ_1 hb = o1 G (h0) (h1) (h2) (nI (k)) (h4) := hc_2
              have hc_4 : σ_1 43 = o4 G (43)  := (hf_3 _ (by omega)).trans hc0
              have hc_5 : σ_1 44 = q_rn G 4 4 (fun j => some (46 + 8 * j)) := (hf_3 _ (by omega)).trans hc1
              have hc_6 : σ_1 pb = o6 G (pb) (nI (g 1)) (nI (g 2)) := (hf_3 _ (by omega)).trans hc2
              have hc_7 : σ_1 (pb + 1) = q_an G 8 kd := (hf_3 _ (by omega)).trans hc3
              have hc_8 : σ_1 (pb + 2) = q_an G 8 fi := (hf_3 _ (by omega)).trans hc4
              have hc_9 : σ_1 (pb + 3) = q_an G 8 se := (hf_3 _ (by omega)).trans hc5
              have hc_10 : ∀ j9 : Nat, j9 < 4 → σ_1 (46 + 8 * j9) = o8 G (46 + 8 * j9) (nI (flA j9)) (nI (n0A j9)) (nI (gvA j9)) (nI (gsA j9)) (nI (lmA j9)) (nI (vsA j9)) := fun j9 hj0 => (hf_3 _ (by omega)).trans (hc6 j9 (by omega))
              have hc_11 : ∀ j9 : Nat, j9 < 4 → σ_1 (46 + 8 * j9 + 1) = o7 G (46 + 8 * j9 + 1) (lN (nmA j9)) (lN (onA j9)) (nI (slA j9)) (nI (moA j9)) (nI (nbA j9)) := fun j9 hj0 => (hf_3 _ (by omega)).trans (hc7 j9 (by omega))
              have hc_12 : ∀ j9 : Nat, j9 < 4 → σ_1 (46 + 8 * j9 + 2) = q_an G 5 (bmA j9) := fun j9 hj0 => (hf_3 _ (by omega)).trans (hc8 j9 (by omega))
              have hc_13 : ∀ j9 : Nat, j9 < 4 → σ_1 (46 + 8 * j9 + 3) = q_an G 1681 (skA j9) := fun j9 hj0 => (hf_3 _ (by omega)).trans (hc9 j9 (by omega))
              have hc_14 : ∀ j9 : Nat, j9 < 4 → σ_1 (46 + 8 * j9 + 4) = q_an G 1681 (s2A j9) := fun j9 hj0 => (hf_3 _ (by omega)).trans (hc10 j9 (by omega))
              have hc_15 : ∀ j9 : Nat, j9 < 4 → σ_1 (46 + 8 * j9 + 5) = q_an G 1681 (vaA j9) := fun j9 hj0 => (hf_3 _ (by omega)).trans (hc11 j9 (by omega))
              have hc_16 : ∀ j9 : Nat, j9 < 4 → σ_1 (46 + 8 * j9 + 6) = q_an G 1681 (spA j9) := fun j9 hj0 => (hf_3 _ (by omega)).trans (hc12 j9 (by omega))
              have hc_17 : ∀ j9 : Nat, j9 < 4 → σ_1 (46 + 8 * j9 + 7) = q_an G 1681 (rfA j9) := fun j9 hj0 => (hf_3 _ (by omega)).trans (hc13 j9 (by omega))
              refine A_aload hg dX4_findMove_85 rfl ?_
              refine A_iconst (v := (nI (0))) hg dX4_findMove_87 (by decide) ?_
              refine A_putf hg fl_RX4_102 dX4_findMove_88 hc_2 (by omega) (Nat.le_of_ble_eq_true rfl) rfl rfl rfl (fun σ_18 hc_19 hf_20 => ?_)
              have hc_19 : σ_18 hb = o1 G (h0) (h1) (h2) (nI (k)) (nI (0)) := hc_19
              have hc_21 : σ_18 43 = o4 G (43)  := (hf_20 _ (by omega)).trans hc_4
              have hc_22 : σ_18 44 = q_rn G 4 4 (fun j => some (46 + 8 * j)) := (hf_20 _ (by omega)).trans hc_5
              have hc_23 : σ_18 pb = o6 G (pb) (nI (g 1)) (nI (g 2)) := (hf_20 _ (by omega)).trans hc_6
              have hc_24 : σ_18 (pb + 1) = q_an G 8 kd := (hf_20 _ (by omega)).trans hc_7
              have hc_25 : σ_18 (pb + 2) = q_an G 8 fi := (hf_20 _ (by omega)).trans hc_8
              have hc_26 : σ_18 (pb + 3) = q_an G 8 se := (hf_20 _ (by omega)).trans hc_9
              have hc_27 : ∀ j9 : Nat, j9 < 4 → σ_18 (46 + 8 * j9) = o8 G (46 + 8 * j9) (nI (flA j9)) (nI (n0A j9)) (nI (gvA j9)) (nI (gsA j9)) (nI (lmA j9)) (nI (vsA j9)) := fun j9 hj0 => (hf_20 _ (by omega)).trans (hc_10 j9 (by omega))
              have hc_28 : ∀ j9 : Nat, j9 < 4 → σ_18 (46 + 8 * j9 + 1) = o7 G (46 + 8 * j9 + 1) (lN (nmA j9)) (lN (onA j9)) (nI (slA j9)) (nI (moA j9)) (nI (nbA j9)) := fun j9 hj0 => (hf_20 _ (by omega)).trans (hc_11 j9 (by omega))
              have hc_29 : ∀ j9 : Nat, j9 < 4 → σ_18 (46 + 8 * j9 + 2) = q_an G 5 (bmA j9) := fun j9 hj0 => (hf_20 _ (by omega)).trans (hc_12 j9 (by omega))
              have hc_30 : ∀ j9 : Nat, j9 < 4 → σ_18 (46 + 8 * j9 + 3) = q_an G 1681 (skA j9) := fun j9 hj0 => (hf_20 _ (by omega)).trans (hc_13 j9 (by omega))
              have hc_31 : ∀ j9 : Nat, j9 < 4 → σ_18 (46 + 8 * j9 + 4) = q_an G 1681 (s2A j9) := fun j9 hj0 => (hf_20 _ (by omega)).trans (hc_14 j9 (by omega))
              have hc_32 : ∀ j9 : Nat, j9 < 4 → σ_18 (46 + 8 * j9 + 5) = q_an G 1681 (vaA j9) := fun j9 hj0 => (hf_20 _ (by omega)).trans (hc_15 j9 (by omega))
              have hc_33 : ∀ j9 : Nat, j9 < 4 → σ_18 (46 + 8 * j9 + 6) = q_an G 1681 (spA j9) := fun j9 hj0 => (hf_20 _ (by omega)).trans (hc_16 j9 (by omega))
              have hc_34 : ∀ j9 : Nat, j9 < 4 → σ_18 (46 + 8 * j9 + 7) = q_an G 1681 (rfA j9) := fun j9 hj0 => (hf_20 _ (by omega)).trans (hc_17 j9 (by omega))
              refine A_iconst (v := (nI (1))) hg dX4_findMove_91 (by decide) ?_
              have hc_35 : σ_18 hb = o1 G (h0) (h1) (h2) (nI (x_hk g p t)) (nI (x_hl g p t)) := hc_19.trans (by rw [hf2, hf3])
              rw [hQ]
              exact A_zreturn hg (by decide) (by decide) rfl rfl dX4_findMove_92 ⟨rfl, Or.inr ((⟨rfl, hf1, hc_35, (fun i hi => ((hf_20 i (by omega)).trans (hf_3 i (by omega))))⟩))⟩
            · skip
              refine A_iload hg dX4_findMove_64 rfl ?_
              refine A_iload hg dX4_findMove_66 rfl ?_
              refine A_isubN hg dX4_findMove_68 (by omega) ?_
              refine A_iload hg dX4_findMove_69 rfl ?_
              refine A_eS (kc2 := 0) (ks2 := 0) (As := [.int (nI ((s_x g p) - k)), .int (nI (s_kind g p))]) (rest := []) hg lk_RX4_67 st_X4_stickValue dX4_findMove_71 ⟨by decide, by decide⟩ rfl rfl ⟨by decide, by decide⟩ rfl rfl (Nat.le_of_ble_eq_true rfl) (c_X4_stickValue G ex n σ ((s_x g p) - k) (s_kind g p) (by omega) (by omega)) ?_
              refine A_top (w := .int (q_d ((((s_x g p) - k) % ((s_kind g p) + 1)) + 1))) (congrArg Value.int (q_dS _).symm) ?_
              refine A_iload_n hg dX4_findMove_74 rfl rfl ?_
              refine A_icmp_neM (tgt := 93) hg dX4_findMove_75 (by omega) (by omega) (by decide) (fun c75 => ?_) (fun c75 => ?_)
              · skip
                have hokf : x_okt g p t k 0 = false := hok.trans (by rw [decide_eq_false c61, beq_eq_false_iff_ne.mpr c75]; rfl)
                refine A_iincN (k' := 1) hg dX4_findMove_93 (by decide) rfl (by decide) (q_c1d rfl) ?_
                refine A_eq (ls2 := [some (.ref (q_h G + 43)), some (.ref (q_h G + pb)), some (.int (nI (p))), some (.int (q_d (t))), some (.ref (q_h G + hb)), some (.int (nI (s_x g p))), some (.int (nI (s_kind g p))), some (.int (nI (k + 1)))]) (st2 := []) (pc2 := 0) rfl rfl ?_
                refine A_goto (tgt := 45) hg dX4_findMove_96 (by decide) ?_
                exact ih45 (k + 1) (by omega) (lt_s hnk hokf) (by omega)
              · skip
                have hokt : x_okt g p t k 0 = true := hok.trans (by first | rw [decide_eq_true c61, Bool.true_or] | rw [beq_iff_eq.mpr c75, Bool.or_true])
                obtain ⟨hf1, hf2, hf3⟩ := x_find_s1 hpb0 (by omega) hokt hnk
                refine A_aload hg dX4_findMove_78 rfl ?_
                refine A_iload hg dX4_findMove_80 rfl ?_
                refine A_putf hg fl_RX4_99 dX4_findMove_82 hc14 (by omega) (Nat.le_of_ble_eq_true rfl) rfl rfl rfl (fun σ_36 hc_37 hf_38 => ?_)
                have hc_37 : σ_36 hb = o1 G (h0) (h1) (h2) (nI (k)) (h4) := hc_37
                have hc_39 : σ_36 43 = o4 G (43)  := (hf_38 _ (by omega)).trans hc0
                have hc_40 : σ_36 44 = q_rn G 4 4 (fun j => some (46 + 8 * j)) := (hf_38 _ (by omega)).trans hc1
                have hc_41 : σ_36 pb = o6 G (pb) (nI (g 1)) (nI (g 2)) := (hf_38 _ (by omega)).trans hc2
                have hc_42 : σ_36 (pb + 1) = q_an G 8 kd := (hf_38 _ (by omega)).trans hc3
                have hc_43 : σ_36 (pb + 2) = q_an G 8 fi := (hf_38 _ (by omega)).trans hc4
                have hc_44 : σ_36 (pb + 3) = q_an G 8 se := (hf_38 _ (by omega)).trans hc5
                have hc_45 : ∀ j9 : Nat, j9 < 4 → σ_36 (46 + 8 * j9) = o8 G (46 + 8 * j9) (nI (flA j9)) (nI (n0A j9)) (nI (gvA j9)) (nI (gsA j9)) (nI (lmA j9)) (nI (vsA j9)) := fun j9 hj0 => (hf_38 _ (by omega)).trans (hc6 j9 (by omega))
                have hc_46 : ∀ j9 : Nat, j9 < 4 → σ_36 (46 + 8 * j9 + 1) = o7 G (46 + 8 * j9 + 1) (lN (nmA j9)) (lN (onA j9)) (nI (slA j9)) (nI (moA j9)) (nI (nbA j9)) := fun j9 hj0 => (hf_38 _ (by omega)).trans (hc7 j9 (by omega))
                have hc_47 : ∀ j9 : Nat, j9 < 4 → σ_36 (46 + 8 * j9 + 2) = q_an G 5 (bmA j9) := fun j9 hj0 => (hf_38 _ (by omega)).trans (hc8 j9 (by omega))
                have hc_48 : ∀ j9 : Nat, j9 < 4 → σ_36 (46 + 8 * j9 + 3) = q_an G 1681 (skA j9) := fun j9 hj0 => (hf_38 _ (by omega)).trans (hc9 j9 (by omega))
                have hc_49 : ∀ j9 : Nat, j9 < 4 → σ_36 (46 + 8 * j9 + 4) = q_an G 1681 (s2A j9) := fun j9 hj0 => (hf_38 _ (by omega)).trans (hc10 j9 (by omega))
                have hc_50 : ∀ j9 : Nat, j9 < 4 → σ_36 (46 + 8 * j9 + 5) = q_an G 1681 (vaA j9) := fun j9 hj0 => (hf_38 _ (by omega)).trans (hc11 j9 (by omega))
                have hc_51 : ∀ j9 : Nat, j9 < 4 → σ_36 (46 + 8 * j9 + 6) = q_an G 1681 (spA j9) := fun j9 hj0 => (hf_38 _ (by omega)).trans (hc12 j9 (by omega))
                have hc_52 : ∀ j9 : Nat, j9 < 4 → σ_36 (46 + 8 * j9 + 7) = q_an G 1681 (rfA j9) := fun j9 hj0 => (hf_38 _ (by omega)).trans (hc13 j9 (by omega))
                refine A_aload hg dX4_findMove_85 rfl ?_
                refine A_iconst (v := (nI (0))) hg dX4_findMove_87 (by decide) ?_
                refine A_putf hg fl_RX4_102 dX4_findMove_88 hc_37 (by omega) (Nat.le_of_ble_eq_true rfl) rfl rfl rfl (fun σ_53 hc_54 hf_55 => ?_)
                have hc_54 : σ_53 hb = o1 G (h0) (h1) (h2) (nI (k)) (nI (0)) := hc_54
                have hc_56 : σ_53 43 = o4 G (43)  := (hf_55 _ (by omega)).trans hc_39
                have hc_57 : σ_53 44 = q_rn G 4 4 (fun j => some (46 + 8 * j)) := (hf_55 _ (by omega)).trans hc_40
                have hc_58 : σ_53 pb = o6 G (pb) (nI (g 1)) (nI (g 2)) := (hf_55 _ (by omega)).trans hc_41
                have hc_59 : σ_53 (pb + 1) = q_an G 8 kd := (hf_55 _ (by omega)).trans hc_42
                have hc_60 : σ_53 (pb + 2) = q_an G 8 fi := (hf_55 _ (by omega)).trans hc_43
                have hc_61 : σ_53 (pb + 3) = q_an G 8 se := (hf_55 _ (by omega)).trans hc_44
                have hc_62 : ∀ j9 : Nat, j9 < 4 → σ_53 (46 + 8 * j9) = o8 G (46 + 8 * j9) (nI (flA j9)) (nI (n0A j9)) (nI (gvA j9)) (nI (gsA j9)) (nI (lmA j9)) (nI (vsA j9)) := fun j9 hj0 => (hf_55 _ (by omega)).trans (hc_45 j9 (by omega))
                have hc_63 : ∀ j9 : Nat, j9 < 4 → σ_53 (46 + 8 * j9 + 1) = o7 G (46 + 8 * j9 + 1) (lN (nmA j9)) (lN (onA j9)) (nI (slA j9)) (nI (moA j9)) (nI (nbA j9)) := fun j9 hj0 => (hf_55 _ (by omega)).trans (hc_46 j9 (by omega))
                have hc_64 : ∀ j9 : Nat, j9 < 4 → σ_53 (46 + 8 * j9 + 2) = q_an G 5 (bmA j9) := fun j9 hj0 => (hf_55 _ (by omega)).trans (hc_47 j9 (by omega))
                have hc_65 : ∀ j9 : Nat, j9 < 4 → σ_53 (46 + 8 * j9 + 3) = q_an G 1681 (skA j9) := fun j9 hj0 => (hf_55 _ (by omega)).trans (hc_48 j9 (by omega))
                have hc_66 : ∀ j9 : Nat, j9 < 4 → σ_53 (46 + 8 * j9 + 4) = q_an G 1681 (s2A j9) := fun j9 hj0 => (hf_55 _ (by omega)).trans (hc_49 j9 (by omega))
                have hc_67 : ∀ j9 : Nat, j9 < 4 → σ_53 (46 + 8 * j9 + 5) = q_an G 1681 (vaA j9) := fun j9 hj0 => (hf_55 _ (by omega)).trans (hc_50 j9 (by omega))
                have hc_68 : ∀ j9 : Nat, j9 < 4 → σ_53 (46 + 8 * j9 + 6) = q_an G 1681 (spA j9) := fun j9 hj0 => (hf_55 _ (by omega)).trans (hc_51 j9 (by omega))
                have hc_69 : ∀ j9 : Nat, j9 < 4 → σ_53 (46 + 8 * j9 + 7) = q_an G 1681 (rfA j9) := fun j9 hj0 => (hf_55 _ (by omega)).trans (hc_52 j9 (by omega))
                refine A_iconst (v := (nI (1))) hg dX4_findMove_91 (by decide) ?_
                have hc_70 : σ_53 hb = o1 G (h0) (h1) (h2) (nI (x_hk g p t)) (nI (x_hl g p t)) := hc_54.trans (by rw [hf2, hf3])
                rw [hQ]
                exact A_zreturn hg (by decide) (by decide) rfl rfl dX4_findMove_92 ⟨rfl, Or.inr ((⟨rfl, hf1, hc_70, (fun i hi => ((hf_55 i (by omega)).trans (hf_38 i (by omega))))⟩))⟩
    exact hL45 _ 1 (⟨Nat.le_refl _, by omega⟩) (fun q hq => by rw [show q = 0 by omega, x_okt_s hpb0 (Nat.zero_le _), decide_eq_false (by omega), Bool.false_and]) (Nat.lt_succ_self _)
  · skip
    have hpb1 := x_of_dec c19
    have hkb := (hpart.2.2.2.1 hpb1).2
    have hxb := (hpart.2.2.2.1 hpb1).1
    refine A_aload_n hg dX4_findMove_22 rfl rfl ?_
    refine A_iload hg dX4_findMove_23 rfl ?_
    refine A_eV (kc2 := 0) (ks2 := 0) (As := [.int (nI (s_kind g p))]) (rest := []) hg lk_RX4_41 in_X4_tableAt se_X4_tableAt rfl dX4_findMove_25 ⟨by decide, by decide⟩ rfl rfl ⟨by decide, by decide⟩ hc0 (by omega) rfl rfl (Nat.le_of_ble_eq_true rfl) (c_X4_tableAt G ex n σ (s_kind g p) hc0 hc1 (by omega) (by omega)) ?_
    refine A_iload hg dX4_findMove_28 rfl ?_
    refine A_aload_n hg dX4_findMove_30 rfl rfl ?_
    refine A_iload_n hg dX4_findMove_31 rfl rfl ?_
    refine A_eV (kc2 := 0) (ks2 := 0) (As := [.int (nI (p))]) (rest := [.int (nI (s_x g p)), .ref (q_h G + (46 + 8 * (s_kind g p)))]) hg lk_RX4_60 in_X6_secondOf se_X6_secondOf rfl dX4_findMove_32 ⟨by decide, by decide⟩ rfl rfl ⟨by decide, by decide⟩ hc2 (by omega) rfl rfl (Nat.le_of_ble_eq_true rfl) (c_X6_secondOf G ex n σ pb (g 1) (g 2) se p hc2 hc5 (by omega) (by omega) (by omega)) ?_
    refine A_top (w := .int (nI (s_y g p))) (by rw [x_p_y hxp hpp]) ?_
    refine A_iload_n hg dX4_findMove_35 rfl rfl ?_
    refine A_aload hg dX4_findMove_36 rfl ?_
    refine A_hV (kc2 := 0) (ks2 := 0) (As := [.int (nI (s_x g p)), .int (nI (s_y g p)), .int (q_d (t)), .ref (q_h G + hb)]) (rest := []) hg lk_RX4_96 in_X8_findMove se_X8_findMove rfl dX4_findMove_38 ⟨by decide, by decide⟩ rfl rfl ⟨by decide, by decide⟩ (hc6 (s_kind g p) (by omega)) (by omega) rfl rfl (Nat.le_of_ble_eq_true rfl) (c_X8_findMove G ex n σ (46 + 8 * (s_kind g p)) (flA (s_kind g p)) (n0A (s_kind g p)) (gvA (s_kind g p)) (gsA (s_kind g p)) (lmA (s_kind g p)) (vsA (s_kind g p)) (s_A (s_rule g (s_kind g p))) (skA (s_kind g p)) (s2A (s_kind g p)) (vaA (s_kind g p)) t (s_x g p) (s_y g p) hb h0 h1 h2 h3 h4 (hc6 (s_kind g p) (by omega)) (hc9 (s_kind g p) (by omega)) (hc10 (s_kind g p) (by omega)) (hc11 (s_kind g p) (by omega)) hc14 (by omega) (by omega) (by omega) (s_A0 _) (by rw [s_kind_b hpb1]; exact (x_TF_n hTF hpb1).1) (by rw [s_kind_b hpb1]; exact (x_TF_n hTF hpb1).2) (by omega) (by omega) (fun j hj => by rw [hva hpb1 j (by omega)]; have := s_V_le (s_rule g (s_kind g p)) (p := j) (by omega); omega) (by omega)) ?_
    rintro _ σ_74 (⟨rfl, hnoq, he_71⟩ | ⟨j, rfl, hj, hyj, hfj, hc_72, hf_73⟩)
    · skip
      rw [he_71]
      refine (?_ : AJ G K Q 0 0 ex n 41 [some (.ref (q_h G + 43)), some (.ref (q_h G + pb)), some (.int (nI (p))), some (.int (q_d (t))), some (.ref (q_h G + hb)), some (.int (nI (s_x g p))), some (.int (nI (s_kind g p))), none] [.int (nI (0))] σ)
      rw [hQ]
      exact A_zreturn hg (by decide) (by decide) rfl rfl dX4_findMove_41 ⟨rfl, Or.inl (⟨rfl, (x_find_0 hgw hpp hpb1 (hva hpb1) hnoq), rfl⟩)⟩
    · skip
      refine (?_ : AJ G K Q 0 0 ex n 41 [some (.ref (q_h G + 43)), some (.ref (q_h G + pb)), some (.int (nI (p))), some (.int (q_d (t))), some (.ref (q_h G + hb)), some (.int (nI (s_x g p))), some (.int (nI (s_kind g p))), none] [.int (nI (1))] σ_74)
      have hc_75 : σ_74 43 = o4 G (43)  := (hf_73 _ (by omega)).trans hc0
      have hc_76 : σ_74 44 = q_rn G 4 4 (fun j => some (46 + 8 * j)) := (hf_73 _ (by omega)).trans hc1
      have hc_77 : σ_74 pb = o6 G (pb) (nI (g 1)) (nI (g 2)) := (hf_73 _ (by omega)).trans hc2
      have hc_78 : σ_74 (pb + 1) = q_an G 8 kd := (hf_73 _ (by omega)).trans hc3
      have hc_79 : σ_74 (pb + 2) = q_an G 8 fi := (hf_73 _ (by omega)).trans hc4
      have hc_80 : σ_74 (pb + 3) = q_an G 8 se := (hf_73 _ (by omega)).trans hc5
      have hc_81 : ∀ j9 : Nat, j9 < 4 → σ_74 (46 + 8 * j9) = o8 G (46 + 8 * j9) (nI (flA j9)) (nI (n0A j9)) (nI (gvA j9)) (nI (gsA j9)) (nI (lmA j9)) (nI (vsA j9)) := fun j9 hj0 => (hf_73 _ (by omega)).trans (hc6 j9 (by omega))
      have hc_82 : ∀ j9 : Nat, j9 < 4 → σ_74 (46 + 8 * j9 + 1) = o7 G (46 + 8 * j9 + 1) (lN (nmA j9)) (lN (onA j9)) (nI (slA j9)) (nI (moA j9)) (nI (nbA j9)) := fun j9 hj0 => (hf_73 _ (by omega)).trans (hc7 j9 (by omega))
      have hc_83 : ∀ j9 : Nat, j9 < 4 → σ_74 (46 + 8 * j9 + 2) = q_an G 5 (bmA j9) := fun j9 hj0 => (hf_73 _ (by omega)).trans (hc8 j9 (by omega))
      have hc_84 : ∀ j9 : Nat, j9 < 4 → σ_74 (46 + 8 * j9 + 3) = q_an G 1681 (skA j9) := fun j9 hj0 => (hf_73 _ (by omega)).trans (hc9 j9 (by omega))
      have hc_85 : ∀ j9 : Nat, j9 < 4 → σ_74 (46 + 8 * j9 + 4) = q_an G 1681 (s2A j9) := fun j9 hj0 => (hf_73 _ (by omega)).trans (hc10 j9 (by omega))
      have hc_86 : ∀ j9 : Nat, j9 < 4 → σ_74 (46 + 8 * j9 + 5) = q_an G 1681 (vaA j9) := fun j9 hj0 => (hf_73 _ (by omega)).trans (hc11 j9 (by omega))
      have hc_87 : ∀ j9 : Nat, j9 < 4 → σ_74 (46 + 8 * j9 + 6) = q_an G 1681 (spA j9) := fun j9 hj0 => (hf_73 _ (by omega)).trans (hc12 j9 (by omega))
      have hc_88 : ∀ j9 : Nat, j9 < 4 → σ_74 (46 + 8 * j9 + 7) = q_an G 1681 (rfA j9) := fun j9 hj0 => (hf_73 _ (by omega)).trans (hc13 j9 (by omega))
      obtain ⟨hf1, hf2, hf3⟩ := x_find_b hgw hpp hpb1 (hva hpb1) hj hyj hfj
      have hc_89 : σ_74 hb = o1 G (h0) (h1) (h2) (nI (x_hk g p t)) (nI (x_hl g p t)) := hc_72.trans (by rw [hf2, hf3])
      rw [hQ]
      exact A_zreturn hg (by decide) (by decide) rfl rfl dX4_findMove_41 ⟨rfl, Or.inr ((⟨rfl, hf1, hc_89, (fun i hi => (hf_73 i (by omega)))⟩))⟩
set_option maxRecDepth 100000 in
set_option maxHeartbeats 4000000 in
theorem c_X4_isOver (G : GL) (ex : Bool) (n : Nat) (σ : Nat → va_E) (pb : Nat) (g : Nat → Nat) (kd : Nat → Nat) (fi : Nat → Nat) (se : Nat → Nat) (flA : Nat → Nat) (n0A : Nat → Nat) (gvA : Nat → Nat) (gsA : Nat → Nat) (lmA : Nat → Nat) (vsA : Nat → Nat) (nmA : Nat → Nat) (onA : Nat → Nat) (slA : Nat → Nat) (moA : Nat → Nat) (nbA : Nat → Nat) (bmA : Nat → Nat → Nat) (skA : Nat → Nat → Nat) (s2A : Nat → Nat → Nat) (vaA : Nat → Nat → Nat) (spA : Nat → Nat → Nat) (rfA : Nat → Nat → Nat) (h0 : Int32) (h1 : Int32) (h2 : Int32) (h3 : Int32) (h4 : Int32) (hc0 : σ 43 = o4 G (43) ) (hc1 : σ 44 = q_rn G 4 4 (fun j => some (46 + 8 * j))) (hc2 : σ pb = o6 G (pb) (nI (g 1)) (nI (g 2))) (hc3 : σ (pb + 1) = q_an G 8 kd) (hc4 : σ (pb + 2) = q_an G 8 fi) (hc5 : σ (pb + 3) = q_an G 8 se) (hc6 : ∀ j9 : Nat, j9 < 4 → σ (46 + 8 * j9) = o8 G (46 + 8 * j9) (nI (flA j9)) (nI (n0A j9)) (nI (gvA j9)) (nI (gsA j9)) (nI (lmA j9)) (nI (vsA j9))) (hc7 : ∀ j9 : Nat, j9 < 4 → σ (46 + 8 * j9 + 1) = o7 G (46 + 8 * j9 + 1) (lN (nmA j9)) (lN (onA j9)) (nI (slA j9)) (nI (moA j9)) (nI (nbA j9))) (hc8 : ∀ j9 : Nat, j9 < 4 → σ (46 + 8 * j9 + 2) = q_an G 5 (bmA j9)) (hc9 : ∀ j9 : Nat, j9 < 4 → σ (46 + 8 * j9 + 3) = q_an G 1681 (skA j9)) (hc10 : ∀ j9 : Nat, j9 < 4 → σ (46 + 8 * j9 + 4) = q_an G 1681 (s2A j9)) (hc11 : ∀ j9 : Nat, j9 < 4 → σ (46 + 8 * j9 + 5) = q_an G 1681 (vaA j9)) (hc12 : ∀ j9 : Nat, j9 < 4 → σ (46 + 8 * j9 + 6) = q_an G 1681 (spA j9)) (hc13 : ∀ j9 : Nat, j9 < 4 → σ (46 + 8 * j9 + 7) = q_an G 1681 (rfA j9)) (hc14 : σ 45 = o1 G (h0) (h1) (h2) (h3) (h4)) (hn9 : 279 ≤ n) (hpb : pb = 27 ∨ pb = 236) (hgw : s_gwf g) (hxp : x_p g kd fi se) (hTF : x_TF g (g 1) onA slA moA nbA n0A gvA gsA lmA vsA bmA skA s2A vaA spA) : Ct G yX4_isOver cX4_isOver 3 (some .boolean) ⟨4, 0, 0, 98⟩ [.ref (q_h G + 43), .ref (q_h G + pb)] ex n σ (fun v9 σ2 => ∃ (h3x : Int32), ∃ (h4x : Int32), v9 = some (.int (q_b (s_over g))) ∧ σ2 45 = o1 G (h0) (h1) (h2) (h3x) (h4x) ∧ (∀ i : Nat, i ≠ 45 → σ2 i = σ i)) := by
  refine q_enter [some (.ref (q_h G + 43)), some (.ref (q_h G + pb)), none] (by decide) (Nat.le_of_ble_eq_true rfl) rfl ?_
  intro K hg
  obtain ⟨Q, hQ⟩ : ∃ Q, Q = q_Q G K ex n 0 0 (fun v9 n' σ' => n' = n ∧ (fun v9 σ2 => ∃ (h3x : Int32), ∃ (h4x : Int32), v9 = some (.int (q_b (s_over g))) ∧ σ2 45 = o1 G (h0) (h1) (h2) (h3x) (h4x) ∧ (∀ i : Nat, i ≠ 45 → σ2 i = σ i)) v9 σ') q_noX := ⟨_, rfl⟩
  refine (?_ : AJ G K (q_Q G K ex n 0 0 _ _) 0 0 ex n 0 _ _ σ)
  rw [← hQ]
  have hg1 := hgw.2.1
  have hg2 := hgw.2.2.1
  have hnp : s_np g = g 1 + g 2 := rfl
  refine A_iconst (v := (nI (0))) hg dX4_isOver_0 (by decide) ?_
  refine A_istore_n hg dX4_isOver_1 rfl (by decide) (q_c1d rfl) ?_
  refine A_eq (ls2 := [some (.ref (q_h G + 43)), some (.ref (q_h G + pb)), some (.int (nI (0)))]) (st2 := []) (pc2 := 0) rfl rfl ?_
  have hL2 : ∀ (fu : Nat) (p : Nat), (p ≤ s_np g) → (∀ q : Nat, q < p → s_has g false q = false) → (s_np g - p) < fu → AJ G K Q 0 0 ex n 2 [some (.ref (q_h G + 43)), some (.ref (q_h G + pb)), some (.int (nI (p)))] [] σ := by
    intro fu
    induction fu with
    | zero => intro p hp hno hm; exact absurd hm (Nat.not_lt_zero _)
    | succ fu ih2 =>
      intro p hp hno hm2
      refine A_iload_n hg dX4_isOver_2 rfl rfl ?_
      refine A_aload_n hg dX4_isOver_3 rfl rfl ?_
      refine A_eV (kc2 := 0) (ks2 := 0) (As := []) (rest := [.int (nI (p))]) hg lk_RX4_70 in_X6_many se_X6_many rfl dX4_isOver_4 ⟨by decide, by decide⟩ rfl rfl ⟨by decide, by decide⟩ hc2 (by omega) rfl rfl (Nat.le_of_ble_eq_true rfl) (c_X6_many G ex n σ pb (g 1) (g 2) hc2 (by omega)) ?_
      refine A_icmp_geN (tgt := 32) hg dX4_isOver_7 (by omega) (by omega) (by decide) (fun c7 => ?_) (fun c7 => ?_)
      · skip
        refine A_iconst (v := (nI (1))) hg dX4_isOver_32 (by decide) ?_
        rw [hQ]
        exact A_zreturn hg (by decide) (by decide) rfl rfl dX4_isOver_33 ⟨rfl, ⟨h3, h4, (q_rt (by unfold s_over s_hasAny; rw [s_any_f (fun q hq => hno q (by omega))]; rfl)), hc14, (fun _ _ => rfl)⟩⟩
      · skip
        refine A_aload_n hg dX4_isOver_10 rfl rfl ?_
        refine A_aload_n hg dX4_isOver_11 rfl rfl ?_
        refine A_iload_n hg dX4_isOver_12 rfl rfl ?_
        refine A_iconst (v := (q_d (0))) hg dX4_isOver_13 (by decide) ?_
        refine A_aload_n hg dX4_isOver_14 rfl rfl ?_
        refine A_getf (v := .ref (q_h G + 45)) hg fl_RX4_20 dX4_isOver_15 hc0 (by omega) rfl ?_
        refine A_hV (kc2 := 0) (ks2 := 0) (As := [.ref (q_h G + pb), .int (nI (p)), .int (q_d (0)), .ref (q_h G + 45)]) (rest := []) hg lk_RX4_92 in_X4_findMove se_X4_findMove rfl dX4_isOver_18 ⟨by decide, by decide⟩ rfl rfl ⟨by decide, by decide⟩ hc0 (by omega) rfl rfl (Nat.le_of_ble_eq_true rfl) (c_X4_findMove G ex n σ pb g kd fi se flA n0A gvA gsA lmA vsA nmA onA slA moA nbA bmA skA s2A vaA spA rfA 0 p 45 h0 h1 h2 h3 h4 hc0 hc1 hc2 hc3 hc4 hc5 hc6 hc7 hc8 hc9 hc10 hc11 hc12 hc13 hc14 (by omega) (by omega) hgw hxp hTF (by omega) (by omega) (Or.inl rfl)) ?_
        rintro _ σ_4 (⟨rfl, hm0, he_1⟩ | ⟨rfl, hm1, hc_2, hf_3⟩)
        · skip
          rw [he_1]
          refine (?_ : AJ G K Q 0 0 ex n 21 [some (.ref (q_h G + 43)), some (.ref (q_h G + pb)), some (.int (nI (p)))] [.int (nI (0))] σ)
          refine A_if_eqN (tgt := 26) hg dX4_isOver_21 (by decide) (by decide) (fun c21 => ?_) (fun c21 => absurd (by decide) c21)
          refine A_iincN (k' := 1) hg dX4_isOver_26 (by decide) rfl (by decide) (q_c1d rfl) ?_
          refine A_eq (ls2 := [some (.ref (q_h G + 43)), some (.ref (q_h G + pb)), some (.int (nI (p + 1)))]) (st2 := []) (pc2 := 0) rfl rfl ?_
          refine A_goto (tgt := 2) hg dX4_isOver_29 (by decide) ?_
          exact ih2 (p + 1) (by omega) (lt_s hno ((x_hm_0 g p).1.symm.trans hm0)) (by omega)
        · skip
          refine (?_ : AJ G K Q 0 0 ex n 21 [some (.ref (q_h G + 43)), some (.ref (q_h G + pb)), some (.int (nI (p)))] [.int (nI (1))] σ_4)
          have hc_5 : σ_4 43 = o4 G (43)  := (hf_3 _ (by omega)).trans hc0
          have hc_6 : σ_4 44 = q_rn G 4 4 (fun j => some (46 + 8 * j)) := (hf_3 _ (by omega)).trans hc1
          have hc_7 : σ_4 pb = o6 G (pb) (nI (g 1)) (nI (g 2)) := (hf_3 _ (by omega)).trans hc2
          have hc_8 : σ_4 (pb + 1) = q_an G 8 kd := (hf_3 _ (by omega)).trans hc3
          have hc_9 : σ_4 (pb + 2) = q_an G 8 fi := (hf_3 _ (by omega)).trans hc4
          have hc_10 : σ_4 (pb + 3) = q_an G 8 se := (hf_3 _ (by omega)).trans hc5
          have hc_11 : ∀ j9 : Nat, j9 < 4 → σ_4 (46 + 8 * j9) = o8 G (46 + 8 * j9) (nI (flA j9)) (nI (n0A j9)) (nI (gvA j9)) (nI (gsA j9)) (nI (lmA j9)) (nI (vsA j9)) := fun j9 hj0 => (hf_3 _ (by omega)).trans (hc6 j9 (by omega))
          have hc_12 : ∀ j9 : Nat, j9 < 4 → σ_4 (46 + 8 * j9 + 1) = o7 G (46 + 8 * j9 + 1) (lN (nmA j9)) (lN (onA j9)) (nI (slA j9)) (nI (moA j9)) (nI (nbA j9)) := fun j9 hj0 => (hf_3 _ (by omega)).trans (hc7 j9 (by omega))
          have hc_13 : ∀ j9 : Nat, j9 < 4 → σ_4 (46 + 8 * j9 + 2) = q_an G 5 (bmA j9) := fun j9 hj0 => (hf_3 _ (by omega)).trans (hc8 j9 (by omega))
          have hc_14 : ∀ j9 : Nat, j9 < 4 → σ_4 (46 + 8 * j9 + 3) = q_an G 1681 (skA j9) := fun j9 hj0 => (hf_3 _ (by omega)).trans (hc9 j9 (by omega))
          have hc_15 : ∀ j9 : Nat, j9 < 4 → σ_4 (46 + 8 * j9 + 4) = q_an G 1681 (s2A j9) := fun j9 hj0 => (hf_3 _ (by omega)).trans (hc10 j9 (by omega))
          have hc_16 : ∀ j9 : Nat, j9 < 4 → σ_4 (46 + 8 * j9 + 5) = q_an G 1681 (vaA j9) := fun j9 hj0 => (hf_3 _ (by omega)).trans (hc11 j9 (by omega))
          have hc_17 : ∀ j9 : Nat, j9 < 4 → σ_4 (46 + 8 * j9 + 6) = q_an G 1681 (spA j9) := fun j9 hj0 => (hf_3 _ (by omega)).trans (hc12 j9 (by omega))
          have hc_18 : ∀ j9 : Nat, j9 < 4 → σ_4 (46 + 8 * j9 + 7) = q_an G 1681 (rfA j9) := fun j9 hj0 => (hf_3 _ (by omega)).trans (hc13 j9 (by omega))
          refine A_if_eqN (tgt := 26) hg dX4_isOver_21 (by decide) (by decide) (fun c21 => absurd c21 (by decide)) (fun c21 => ?_)
          refine A_iconst (v := (nI (0))) hg dX4_isOver_24 (by decide) ?_
          rw [hQ]
          exact A_zreturn hg (by decide) (by decide) rfl rfl dX4_isOver_25 ⟨rfl, ⟨_, _, (q_rf (by unfold s_over s_hasAny; rw [s_any_t (show p < s_np g by omega) ((x_hm_0 g p).1.symm.trans hm1)]; rfl)), hc_2, (fun i hi => (hf_3 i (by omega)))⟩⟩
  exact hL2 _ 0 (Nat.zero_le _) (fun q h => absurd h (Nat.not_lt_zero q)) (Nat.lt_succ_self _)
set_option maxRecDepth 100000 in
set_option maxHeartbeats 4000000 in
theorem c_X4_advise (G : GL) (ex : Bool) (n : Nat) (σ : Nat → va_E) (pb : Nat) (g : Nat → Nat) (kd : Nat → Nat) (fi : Nat → Nat) (se : Nat → Nat) (flA : Nat → Nat) (n0A : Nat → Nat) (gvA : Nat → Nat) (gsA : Nat → Nat) (lmA : Nat → Nat) (vsA : Nat → Nat) (nmA : Nat → Nat) (onA : Nat → Nat) (slA : Nat → Nat) (moA : Nat → Nat) (nbA : Nat → Nat) (bmA : Nat → Nat → Nat) (skA : Nat → Nat → Nat) (s2A : Nat → Nat → Nat) (vaA : Nat → Nat → Nat) (spA : Nat → Nat → Nat) (rfA : Nat → Nat → Nat) (hb : Nat) (h0 : Int32) (h1 : Int32) (h2 : Int32) (h3 : Int32) (h4 : Int32) (hc0 : σ 43 = o4 G (43) ) (hc1 : σ 44 = q_rn G 4 4 (fun j => some (46 + 8 * j))) (hc2 : σ pb = o6 G (pb) (nI (g 1)) (nI (g 2))) (hc3 : σ (pb + 1) = q_an G 8 kd) (hc4 : σ (pb + 2) = q_an G 8 fi) (hc5 : σ (pb + 3) = q_an G 8 se) (hc6 : ∀ j9 : Nat, j9 < 4 → σ (46 + 8 * j9) = o8 G (46 + 8 * j9) (nI (flA j9)) (nI (n0A j9)) (nI (gvA j9)) (nI (gsA j9)) (nI (lmA j9)) (nI (vsA j9))) (hc7 : ∀ j9 : Nat, j9 < 4 → σ (46 + 8 * j9 + 1) = o7 G (46 + 8 * j9 + 1) (lN (nmA j9)) (lN (onA j9)) (nI (slA j9)) (nI (moA j9)) (nI (nbA j9))) (hc8 : ∀ j9 : Nat, j9 < 4 → σ (46 + 8 * j9 + 2) = q_an G 5 (bmA j9)) (hc9 : ∀ j9 : Nat, j9 < 4 → σ (46 + 8 * j9 + 3) = q_an G 1681 (skA j9)) (hc10 : ∀ j9 : Nat, j9 < 4 → σ (46 + 8 * j9 + 4) = q_an G 1681 (s2A j9)) (hc11 : ∀ j9 : Nat, j9 < 4 → σ (46 + 8 * j9 + 5) = q_an G 1681 (vaA j9)) (hc12 : ∀ j9 : Nat, j9 < 4 → σ (46 + 8 * j9 + 6) = q_an G 1681 (spA j9)) (hc13 : ∀ j9 : Nat, j9 < 4 → σ (46 + 8 * j9 + 7) = q_an G 1681 (rfA j9)) (hc14 : σ hb = o1 G (h0) (h1) (h2) (h3) (h4)) (hn9 : 279 ≤ n) (hpb : pb = 27 ∨ pb = 236) (hgw : s_gwf g) (hxp : x_p g kd fi se) (hTF : x_TF g (g 1) onA slA moA nbA n0A gvA gsA lmA vsA bmA skA s2A vaA spA) (hhb : hb = 45 ∨ hb = 242) : Ct G yX4_advise cX4_advise 6 none ⟨4, 0, 0, 98⟩ [.ref (q_h G + 43), .ref (q_h G + pb), .ref (q_h G + hb)] ex n σ (fun v9 σ2 => v9 = none ∧ ∃ (hpx : Int32), ∃ (hkx : Int32), ∃ (hlx : Int32), (s_adv g = true → hpx = nI (s_ap g) ∧ hkx = nI (s_ak g) ∧ hlx = nI (s_al2 g)) ∧ σ2 hb = o1 G (q_b (s_adv g)) (q_b (s_aw g)) (hpx) (hkx) (hlx) ∧ (∀ i : Nat, i ≠ hb → σ2 i = σ i)) := by
  refine q_enter [some (.ref (q_h G + 43)), some (.ref (q_h G + pb)), some (.ref (q_h G + hb)), none, none, none] (by decide) (Nat.le_of_ble_eq_true rfl) rfl ?_
  intro K hg
  obtain ⟨Q, hQ⟩ : ∃ Q, Q = q_Q G K ex n 0 0 (fun v9 n' σ' => n' = n ∧ (fun v9 σ2 => v9 = none ∧ ∃ (hpx : Int32), ∃ (hkx : Int32), ∃ (hlx : Int32), (s_adv g = true → hpx = nI (s_ap g) ∧ hkx = nI (s_ak g) ∧ hlx = nI (s_al2 g)) ∧ σ2 hb = o1 G (q_b (s_adv g)) (q_b (s_aw g)) (hpx) (hkx) (hlx) ∧ (∀ i : Nat, i ≠ hb → σ2 i = σ i)) v9 σ') q_noX := ⟨_, rfl⟩
  refine (?_ : AJ G K (q_Q G K ex n 0 0 _ _) 0 0 ex n 0 _ _ σ)
  rw [← hQ]
  have hg1 := hgw.2.1
  have hg2 := hgw.2.2.1
  have hnp : s_np g = g 1 + g 2 := rfl
  have htl := s_tot_lt hgw
  refine A_aload_n hg dX4_advise_0 rfl rfl ?_
  refine A_aload_n hg dX4_advise_1 rfl rfl ?_
  refine A_eV (kc2 := 0) (ks2 := 0) (As := [.ref (q_h G + pb)]) (rest := []) hg lk_RX4_82 in_X4_totalOf se_X4_totalOf rfl dX4_advise_2 ⟨by decide, by decide⟩ rfl rfl ⟨by decide, by decide⟩ hc0 (by omega) rfl rfl (Nat.le_of_ble_eq_true rfl) (c_X4_totalOf G ex n σ pb g kd fi se flA n0A gvA gsA lmA vsA nmA onA slA moA nbA bmA skA s2A vaA spA rfA hc0 hc1 hc2 hc3 hc4 hc5 hc6 hc7 hc8 hc9 hc10 hc11 hc12 hc13 (by omega) (by omega) hgw hxp hTF) ?_
  refine A_istore_n hg dX4_advise_5 rfl (by decide) (q_c1d rfl) ?_
  refine A_eq (ls2 := [some (.ref (q_h G + 43)), some (.ref (q_h G + pb)), some (.ref (q_h G + hb)), some (.int (nI (s_tot g))), none, none]) (st2 := []) (pc2 := 0) rfl rfl ?_
  refine A_aload_n hg dX4_advise_6 rfl rfl ?_
  refine A_iconst (v := (nI (0))) hg dX4_advise_7 (by decide) ?_
  refine A_putf hg fl_RX4_105 dX4_advise_8 hc14 (by omega) (Nat.le_of_ble_eq_true rfl) rfl rfl rfl (fun σ_1 hc_2 hf_3 => ?_)
  have hc_2 : σ_1 hb = o1 G (nI (0)) (h1) (h2) (h3) (h4) := hc_2
  have hc_4 : σ_1 43 = o4 G (43)  := (hf_3 _ (by omega)).trans hc0
  have hc_5 : σ_1 44 = q_rn G 4 4 (fun j => some (46 + 8 * j)) := (hf_3 _ (by omega)).trans hc1
  have hc_6 : σ_1 pb = o6 G (pb) (nI (g 1)) (nI (g 2)) := (hf_3 _ (by omega)).trans hc2
  have hc_7 : σ_1 (pb + 1) = q_an G 8 kd := (hf_3 _ (by omega)).trans hc3
  have hc_8 : σ_1 (pb + 2) = q_an G 8 fi := (hf_3 _ (by omega)).trans hc4
  have hc_9 : σ_1 (pb + 3) = q_an G 8 se := (hf_3 _ (by omega)).trans hc5
  have hc_10 : ∀ j9 : Nat, j9 < 4 → σ_1 (46 + 8 * j9) = o8 G (46 + 8 * j9) (nI (flA j9)) (nI (n0A j9)) (nI (gvA j9)) (nI (gsA j9)) (nI (lmA j9)) (nI (vsA j9)) := fun j9 hj0 => (hf_3 _ (by omega)).trans (hc6 j9 (by omega))
  have hc_11 : ∀ j9 : Nat, j9 < 4 → σ_1 (46 + 8 * j9 + 1) = o7 G (46 + 8 * j9 + 1) (lN (nmA j9)) (lN (onA j9)) (nI (slA j9)) (nI (moA j9)) (nI (nbA j9)) := fun j9 hj0 => (hf_3 _ (by omega)).trans (hc7 j9 (by omega))
  have hc_12 : ∀ j9 : Nat, j9 < 4 → σ_1 (46 + 8 * j9 + 2) = q_an G 5 (bmA j9) := fun j9 hj0 => (hf_3 _ (by omega)).trans (hc8 j9 (by omega))
  have hc_13 : ∀ j9 : Nat, j9 < 4 → σ_1 (46 + 8 * j9 + 3) = q_an G 1681 (skA j9) := fun j9 hj0 => (hf_3 _ (by omega)).trans (hc9 j9 (by omega))
  have hc_14 : ∀ j9 : Nat, j9 < 4 → σ_1 (46 + 8 * j9 + 4) = q_an G 1681 (s2A j9) := fun j9 hj0 => (hf_3 _ (by omega)).trans (hc10 j9 (by omega))
  have hc_15 : ∀ j9 : Nat, j9 < 4 → σ_1 (46 + 8 * j9 + 5) = q_an G 1681 (vaA j9) := fun j9 hj0 => (hf_3 _ (by omega)).trans (hc11 j9 (by omega))
  have hc_16 : ∀ j9 : Nat, j9 < 4 → σ_1 (46 + 8 * j9 + 6) = q_an G 1681 (spA j9) := fun j9 hj0 => (hf_3 _ (by omega)).trans (hc12 j9 (by omega))
  have hc_17 : ∀ j9 : Nat, j9 < 4 → σ_1 (46 + 8 * j9 + 7) = q_an G 1681 (rfA j9) := fun j9 hj0 => (hf_3 _ (by omega)).trans (hc13 j9 (by omega))
  refine A_aload_n hg dX4_advise_11 rfl rfl ?_
  refine A_iload_n hg dX4_advise_12 rfl rfl ?_
  refine A_if_eqN (tgt := 20) hg dX4_advise_13 (by omega) (by decide) (fun c13 => ?_) (fun c13 => ?_)
  · skip
    refine A_iconst (v := (nI (0))) hg dX4_advise_20 (by decide) ?_
    refine A_putf hg fl_RX4_109 dX4_advise_21 hc_2 (by omega) (Nat.le_of_ble_eq_true rfl) rfl rfl rfl (fun σ_18 hc_19 hf_20 => ?_)
    have hc_19 : σ_18 hb = o1 G (nI (0)) (nI (0)) (h2) (h3) (h4) := hc_19
    have hc_21 : σ_18 43 = o4 G (43)  := (hf_20 _ (by omega)).trans hc_4
    have hc_22 : σ_18 44 = q_rn G 4 4 (fun j => some (46 + 8 * j)) := (hf_20 _ (by omega)).trans hc_5
    have hc_23 : σ_18 pb = o6 G (pb) (nI (g 1)) (nI (g 2)) := (hf_20 _ (by omega)).trans hc_6
    have hc_24 : σ_18 (pb + 1) = q_an G 8 kd := (hf_20 _ (by omega)).trans hc_7
    have hc_25 : σ_18 (pb + 2) = q_an G 8 fi := (hf_20 _ (by omega)).trans hc_8
    have hc_26 : σ_18 (pb + 3) = q_an G 8 se := (hf_20 _ (by omega)).trans hc_9
    have hc_27 : ∀ j9 : Nat, j9 < 4 → σ_18 (46 + 8 * j9) = o8 G (46 + 8 * j9) (nI (flA j9)) (nI (n0A j9)) (nI (gvA j9)) (nI (gsA j9)) (nI (lmA j9)) (nI (vsA j9)) := fun j9 hj0 => (hf_20 _ (by omega)).trans (hc_10 j9 (by omega))
    have hc_28 : ∀ j9 : Nat, j9 < 4 → σ_18 (46 + 8 * j9 + 1) = o7 G (46 + 8 * j9 + 1) (lN (nmA j9)) (lN (onA j9)) (nI (slA j9)) (nI (moA j9)) (nI (nbA j9)) := fun j9 hj0 => (hf_20 _ (by omega)).trans (hc_11 j9 (by omega))
    have hc_29 : ∀ j9 : Nat, j9 < 4 → σ_18 (46 + 8 * j9 + 2) = q_an G 5 (bmA j9) := fun j9 hj0 => (hf_20 _ (by omega)).trans (hc_12 j9 (by omega))
    have hc_30 : ∀ j9 : Nat, j9 < 4 → σ_18 (46 + 8 * j9 + 3) = q_an G 1681 (skA j9) := fun j9 hj0 => (hf_20 _ (by omega)).trans (hc_13 j9 (by omega))
    have hc_31 : ∀ j9 : Nat, j9 < 4 → σ_18 (46 + 8 * j9 + 4) = q_an G 1681 (s2A j9) := fun j9 hj0 => (hf_20 _ (by omega)).trans (hc_14 j9 (by omega))
    have hc_32 : ∀ j9 : Nat, j9 < 4 → σ_18 (46 + 8 * j9 + 5) = q_an G 1681 (vaA j9) := fun j9 hj0 => (hf_20 _ (by omega)).trans (hc_15 j9 (by omega))
    have hc_33 : ∀ j9 : Nat, j9 < 4 → σ_18 (46 + 8 * j9 + 6) = q_an G 1681 (spA j9) := fun j9 hj0 => (hf_20 _ (by omega)).trans (hc_16 j9 (by omega))
    have hc_34 : ∀ j9 : Nat, j9 < 4 → σ_18 (46 + 8 * j9 + 7) = q_an G 1681 (rfA j9) := fun j9 hj0 => (hf_20 _ (by omega)).trans (hc_17 j9 (by omega))
    refine A_iconst (v := (nI (0))) hg dX4_advise_24 (by decide) ?_
    refine A_istore hg dX4_advise_25 (by decide) (q_c1d rfl) ?_
    refine A_eq (ls2 := [some (.ref (q_h G + 43)), some (.ref (q_h G + pb)), some (.ref (q_h G + hb)), some (.int (nI (s_tot g))), some (.int (nI (0))), none]) (st2 := []) (pc2 := 0) rfl rfl ?_
    have haw : s_aw g = false := by rw [x_aw hgw]; exact decide_eq_false (fun z => z c13)
    have hL27 : ∀ (fu : Nat) (p : Nat) (it : Nat) (hp1 : Int32) (hk1 : Int32) (hl1 : Int32) (σ_35 : Nat → va_E), (σ_35 43 = o4 G (43) ) → (σ_35 44 = q_rn G 4 4 (fun j => some (46 + 8 * j))) → (σ_35 pb = o6 G (pb) (nI (g 1)) (nI (g 2))) → (σ_35 (pb + 1) = q_an G 8 kd) → (σ_35 (pb + 2) = q_an G 8 fi) → (σ_35 (pb + 3) = q_an G 8 se) → (∀ j9 : Nat, j9 < 4 → σ_35 (46 + 8 * j9) = o8 G (46 + 8 * j9) (nI (flA j9)) (nI (n0A j9)) (nI (gvA j9)) (nI (gsA j9)) (nI (lmA j9)) (nI (vsA j9))) → (∀ j9 : Nat, j9 < 4 → σ_35 (46 + 8 * j9 + 1) = o7 G (46 + 8 * j9 + 1) (lN (nmA j9)) (lN (onA j9)) (nI (slA j9)) (nI (moA j9)) (nI (nbA j9))) → (∀ j9 : Nat, j9 < 4 → σ_35 (46 + 8 * j9 + 2) = q_an G 5 (bmA j9)) → (∀ j9 : Nat, j9 < 4 → σ_35 (46 + 8 * j9 + 3) = q_an G 1681 (skA j9)) → (∀ j9 : Nat, j9 < 4 → σ_35 (46 + 8 * j9 + 4) = q_an G 1681 (s2A j9)) → (∀ j9 : Nat, j9 < 4 → σ_35 (46 + 8 * j9 + 5) = q_an G 1681 (vaA j9)) → (∀ j9 : Nat, j9 < 4 → σ_35 (46 + 8 * j9 + 6) = q_an G 1681 (spA j9)) → (∀ j9 : Nat, j9 < 4 → σ_35 (46 + 8 * j9 + 7) = q_an G 1681 (rfA j9)) → (σ_35 hb = o1 G (nI (it)) (nI (0)) (hp1) (hk1) (hl1)) → (∀ i : Nat, i ≠ hb → σ_35 i = σ i) → (p ≤ s_np g) → (x_ad g false p it hp1 hk1 hl1) → (it ≤ 1) → (s_np g - p) < fu → AJ G K Q 0 0 ex n 27 [some (.ref (q_h G + 43)), some (.ref (q_h G + pb)), some (.ref (q_h G + hb)), some (.int (nI (s_tot g))), some (.int (nI (p))), none] [] σ_35 := by
      intro fu
      induction fu with
      | zero => intro p it hp1 hk1 hl1 σ_35 hc_36 hc_37 hc_38 hc_39 hc_40 hc_41 hc_42 hc_43 hc_44 hc_45 hc_46 hc_47 hc_48 hc_49 hc_50 hf_51 hp had hit hm; exact absurd hm (Nat.not_lt_zero _)
      | succ fu ih27 =>
        intro p it hp1 hk1 hl1 σ_35 hc_36 hc_37 hc_38 hc_39 hc_40 hc_41 hc_42 hc_43 hc_44 hc_45 hc_46 hc_47 hc_48 hc_49 hc_50 hf_51 hp had hit hm27
        refine A_iload hg dX4_advise_27 rfl ?_
        refine A_aload_n hg dX4_advise_29 rfl rfl ?_
        refine A_eV (kc2 := 0) (ks2 := 0) (As := []) (rest := [.int (nI (p))]) hg lk_RX4_70 in_X6_many se_X6_many rfl dX4_advise_30 ⟨by decide, by decide⟩ rfl rfl ⟨by decide, by decide⟩ hc_38 (by omega) rfl rfl (Nat.le_of_ble_eq_true rfl) (c_X6_many G ex n σ_35 pb (g 1) (g 2) hc_38 (by omega)) ?_
        refine A_icmp_geN (tgt := 88) hg dX4_advise_33 (by omega) (by omega) (by decide) (fun c33 => ?_) (fun c33 => ?_)
        · skip
          have hen := x_ad_e had hit haw (by first | exact Or.inl (by omega) | exact Or.inr c40)
          have hc_52 : σ_35 hb = o1 G (q_b (s_adv g)) (q_b (s_aw g)) (hp1) (hk1) (hl1) := hc_50.trans (by rw [haw, ← hen.1]; rfl)
          rw [hQ]
          exact A_return hg (by decide) (by decide) rfl dX4_advise_88 ⟨rfl, ⟨rfl, hp1, hk1, hl1, hen.2, hc_52, (fun i hi => (hf_51 i (by omega)))⟩⟩
        · skip
          refine A_aload_n hg dX4_advise_36 rfl rfl ?_
          refine A_getf (v := .int (nI (it))) hg fl_RX4_105 dX4_advise_37 hc_50 (by omega) rfl ?_
          refine A_if_neN (tgt := 88) hg dX4_advise_40 (by omega) (by decide) (fun c40 => ?_) (fun c40 => ?_)
          · skip
            have hen := x_ad_e had hit haw (by first | exact Or.inl (by omega) | exact Or.inr c40)
            have hc_53 : σ_35 hb = o1 G (q_b (s_adv g)) (q_b (s_aw g)) (hp1) (hk1) (hl1) := hc_50.trans (by rw [haw, ← hen.1]; rfl)
            rw [hQ]
            exact A_return hg (by decide) (by decide) rfl dX4_advise_88 ⟨rfl, ⟨rfl, hp1, hk1, hl1, hen.2, hc_53, (fun i hi => (hf_51 i (by omega)))⟩⟩
          · skip
            refine A_iload_n hg dX4_advise_43 rfl rfl ?_
            refine A_if_neN (tgt := 51) hg dX4_advise_44 (by omega) (by decide) (fun c44 => absurd c13 c44) (fun c44 => ?_)
            refine A_iconst (v := (q_d (0))) hg dX4_advise_47 (by decide) ?_
            refine A_goto (tgt := 60) hg dX4_advise_48 (by decide) ?_
            refine A_istore hg dX4_advise_60 (by decide) (q_c1d rfl) ?_
            refine A_eq (ls2 := [some (.ref (q_h G + 43)), some (.ref (q_h G + pb)), some (.ref (q_h G + hb)), some (.int (nI (s_tot g))), some (.int (nI (p))), some (.int (q_d (0)))]) (st2 := []) (pc2 := 0) rfl rfl ?_
            have hrl := s_rest_lt hgw (show p < s_np g by omega)
            refine A_aload_n hg dX4_advise_62 rfl rfl ?_
            refine A_iload hg dX4_advise_63 rfl ?_
            refine A_putf hg fl_RX4_112 dX4_advise_65 hc_50 (by omega) (Nat.le_of_ble_eq_true rfl) rfl rfl rfl (fun σ_54 hc_55 hf_56 => ?_)
            have hc_55 : σ_54 hb = o1 G (nI (it)) (nI (0)) (nI (p)) (hk1) (hl1) := hc_55
            have hc_57 : σ_54 43 = o4 G (43)  := (hf_56 _ (by omega)).trans hc_36
            have hc_58 : σ_54 44 = q_rn G 4 4 (fun j => some (46 + 8 * j)) := (hf_56 _ (by omega)).trans hc_37
            have hc_59 : σ_54 pb = o6 G (pb) (nI (g 1)) (nI (g 2)) := (hf_56 _ (by omega)).trans hc_38
            have hc_60 : σ_54 (pb + 1) = q_an G 8 kd := (hf_56 _ (by omega)).trans hc_39
            have hc_61 : σ_54 (pb + 2) = q_an G 8 fi := (hf_56 _ (by omega)).trans hc_40
            have hc_62 : σ_54 (pb + 3) = q_an G 8 se := (hf_56 _ (by omega)).trans hc_41
            have hc_63 : ∀ j9 : Nat, j9 < 4 → σ_54 (46 + 8 * j9) = o8 G (46 + 8 * j9) (nI (flA j9)) (nI (n0A j9)) (nI (gvA j9)) (nI (gsA j9)) (nI (lmA j9)) (nI (vsA j9)) := fun j9 hj0 => (hf_56 _ (by omega)).trans (hc_42 j9 (by omega))
            have hc_64 : ∀ j9 : Nat, j9 < 4 → σ_54 (46 + 8 * j9 + 1) = o7 G (46 + 8 * j9 + 1) (lN (nmA j9)) (lN (onA j9)) (nI (slA j9)) (nI (moA j9)) (nI (nbA j9)) := fun j9 hj0 => (hf_56 _ (by omega)).trans (hc_43 j9 (by omega))
            have hc_65 : ∀ j9 : Nat, j9 < 4 → σ_54 (46 + 8 * j9 + 2) = q_an G 5 (bmA j9) := fun j9 hj0 => (hf_56 _ (by omega)).trans (hc_44 j9 (by omega))
            have hc_66 : ∀ j9 : Nat, j9 < 4 → σ_54 (46 + 8 * j9 + 3) = q_an G 1681 (skA j9) := fun j9 hj0 => (hf_56 _ (by omega)).trans (hc_45 j9 (by omega))
            have hc_67 : ∀ j9 : Nat, j9 < 4 → σ_54 (46 + 8 * j9 + 4) = q_an G 1681 (s2A j9) := fun j9 hj0 => (hf_56 _ (by omega)).trans (hc_46 j9 (by omega))
            have hc_68 : ∀ j9 : Nat, j9 < 4 → σ_54 (46 + 8 * j9 + 5) = q_an G 1681 (vaA j9) := fun j9 hj0 => (hf_56 _ (by omega)).trans (hc_47 j9 (by omega))
            have hc_69 : ∀ j9 : Nat, j9 < 4 → σ_54 (46 + 8 * j9 + 6) = q_an G 1681 (spA j9) := fun j9 hj0 => (hf_56 _ (by omega)).trans (hc_48 j9 (by omega))
            have hc_70 : ∀ j9 : Nat, j9 < 4 → σ_54 (46 + 8 * j9 + 7) = q_an G 1681 (rfA j9) := fun j9 hj0 => (hf_56 _ (by omega)).trans (hc_49 j9 (by omega))
            refine A_aload_n hg dX4_advise_68 rfl rfl ?_
            refine A_aload_n hg dX4_advise_69 rfl rfl ?_
            refine A_aload_n hg dX4_advise_70 rfl rfl ?_
            refine A_iload hg dX4_advise_71 rfl ?_
            refine A_iload hg dX4_advise_73 rfl ?_
            refine A_aload_n hg dX4_advise_75 rfl rfl ?_
            refine A_hV (kc2 := 0) (ks2 := 0) (As := [.ref (q_h G + pb), .int (nI (p)), .int (q_d (0)), .ref (q_h G + hb)]) (rest := [.ref (q_h G + hb)]) hg lk_RX4_92 in_X4_findMove se_X4_findMove rfl dX4_advise_76 ⟨by decide, by decide⟩ rfl rfl ⟨by decide, by decide⟩ hc_57 (by omega) rfl rfl (Nat.le_of_ble_eq_true rfl) (c_X4_findMove G ex n σ_54 pb g kd fi se flA n0A gvA gsA lmA vsA nmA onA slA moA nbA bmA skA s2A vaA spA rfA 0 p hb (nI (it)) (nI (0)) (nI (p)) hk1 hl1 hc_57 hc_58 hc_59 hc_60 hc_61 hc_62 hc_63 hc_64 hc_65 hc_66 hc_67 hc_68 hc_69 hc_70 hc_55 (by omega) (by omega) hgw hxp hTF (by omega) (by omega) (by omega)) ?_
            rintro _ σ_74 (⟨rfl, hm0, he_71⟩ | ⟨rfl, hm1, hc_72, hf_73⟩)
            · skip
              rw [he_71]
              refine (?_ : AJ G K Q 0 0 ex n 79 [some (.ref (q_h G + 43)), some (.ref (q_h G + pb)), some (.ref (q_h G + hb)), some (.int (nI (s_tot g))), some (.int (nI (p))), some (.int (q_d (0)))] [.int (nI (0)), .ref (q_h G + hb)] σ_54)
              refine A_putf hg fl_RX4_105 dX4_advise_79 hc_55 (by omega) (Nat.le_of_ble_eq_true rfl) rfl rfl rfl (fun σ_75 hc_76 hf_77 => ?_)
              have hc_76 : σ_75 hb = o1 G (nI (0)) (nI (0)) (nI (p)) (hk1) (hl1) := hc_76
              have hc_78 : σ_75 43 = o4 G (43)  := (hf_77 _ (by omega)).trans hc_57
              have hc_79 : σ_75 44 = q_rn G 4 4 (fun j => some (46 + 8 * j)) := (hf_77 _ (by omega)).trans hc_58
              have hc_80 : σ_75 pb = o6 G (pb) (nI (g 1)) (nI (g 2)) := (hf_77 _ (by omega)).trans hc_59
              have hc_81 : σ_75 (pb + 1) = q_an G 8 kd := (hf_77 _ (by omega)).trans hc_60
              have hc_82 : σ_75 (pb + 2) = q_an G 8 fi := (hf_77 _ (by omega)).trans hc_61
              have hc_83 : σ_75 (pb + 3) = q_an G 8 se := (hf_77 _ (by omega)).trans hc_62
              have hc_84 : ∀ j9 : Nat, j9 < 4 → σ_75 (46 + 8 * j9) = o8 G (46 + 8 * j9) (nI (flA j9)) (nI (n0A j9)) (nI (gvA j9)) (nI (gsA j9)) (nI (lmA j9)) (nI (vsA j9)) := fun j9 hj0 => (hf_77 _ (by omega)).trans (hc_63 j9 (by omega))
              have hc_85 : ∀ j9 : Nat, j9 < 4 → σ_75 (46 + 8 * j9 + 1) = o7 G (46 + 8 * j9 + 1) (lN (nmA j9)) (lN (onA j9)) (nI (slA j9)) (nI (moA j9)) (nI (nbA j9)) := fun j9 hj0 => (hf_77 _ (by omega)).trans (hc_64 j9 (by omega))
              have hc_86 : ∀ j9 : Nat, j9 < 4 → σ_75 (46 + 8 * j9 + 2) = q_an G 5 (bmA j9) := fun j9 hj0 => (hf_77 _ (by omega)).trans (hc_65 j9 (by omega))
              have hc_87 : ∀ j9 : Nat, j9 < 4 → σ_75 (46 + 8 * j9 + 3) = q_an G 1681 (skA j9) := fun j9 hj0 => (hf_77 _ (by omega)).trans (hc_66 j9 (by omega))
              have hc_88 : ∀ j9 : Nat, j9 < 4 → σ_75 (46 + 8 * j9 + 4) = q_an G 1681 (s2A j9) := fun j9 hj0 => (hf_77 _ (by omega)).trans (hc_67 j9 (by omega))
              have hc_89 : ∀ j9 : Nat, j9 < 4 → σ_75 (46 + 8 * j9 + 5) = q_an G 1681 (vaA j9) := fun j9 hj0 => (hf_77 _ (by omega)).trans (hc_68 j9 (by omega))
              have hc_90 : ∀ j9 : Nat, j9 < 4 → σ_75 (46 + 8 * j9 + 6) = q_an G 1681 (spA j9) := fun j9 hj0 => (hf_77 _ (by omega)).trans (hc_69 j9 (by omega))
              have hc_91 : ∀ j9 : Nat, j9 < 4 → σ_75 (46 + 8 * j9 + 7) = q_an G 1681 (rfA j9) := fun j9 hj0 => (hf_77 _ (by omega)).trans (hc_70 j9 (by omega))
              refine A_iincN (k' := 1) hg dX4_advise_82 (by decide) rfl (by decide) (q_c1d rfl) ?_
              refine A_eq (ls2 := [some (.ref (q_h G + 43)), some (.ref (q_h G + pb)), some (.ref (q_h G + hb)), some (.int (nI (s_tot g))), some (.int (nI (p + 1))), some (.int (q_d (0)))]) (st2 := []) (pc2 := 0) rfl rfl ?_
              refine A_goto (tgt := 27) hg dX4_advise_85 (by decide) ?_
              refine A_drop 5 ?_
              exact ih27 (p + 1) 0 (nI (p)) hk1 hl1 σ_75 hc_78 hc_79 hc_80 hc_81 hc_82 hc_83 hc_84 hc_85 hc_86 hc_87 hc_88 hc_89 hc_90 hc_91 hc_76 (fun i hi => ((hf_77 i (by omega)).trans ((hf_56 i (by omega)).trans (hf_51 i (by omega))))) (by omega) (x_ad_f had c40 ((x_hm_0 g p).1.symm.trans hm0)) (by omega) (by omega)
            · skip
              refine (?_ : AJ G K Q 0 0 ex n 79 [some (.ref (q_h G + 43)), some (.ref (q_h G + pb)), some (.ref (q_h G + hb)), some (.int (nI (s_tot g))), some (.int (nI (p))), some (.int (q_d (0)))] [.int (nI (1)), .ref (q_h G + hb)] σ_74)
              have hc_92 : σ_74 43 = o4 G (43)  := (hf_73 _ (by omega)).trans hc_57
              have hc_93 : σ_74 44 = q_rn G 4 4 (fun j => some (46 + 8 * j)) := (hf_73 _ (by omega)).trans hc_58
              have hc_94 : σ_74 pb = o6 G (pb) (nI (g 1)) (nI (g 2)) := (hf_73 _ (by omega)).trans hc_59
              have hc_95 : σ_74 (pb + 1) = q_an G 8 kd := (hf_73 _ (by omega)).trans hc_60
              have hc_96 : σ_74 (pb + 2) = q_an G 8 fi := (hf_73 _ (by omega)).trans hc_61
              have hc_97 : σ_74 (pb + 3) = q_an G 8 se := (hf_73 _ (by omega)).trans hc_62
              have hc_98 : ∀ j9 : Nat, j9 < 4 → σ_74 (46 + 8 * j9) = o8 G (46 + 8 * j9) (nI (flA j9)) (nI (n0A j9)) (nI (gvA j9)) (nI (gsA j9)) (nI (lmA j9)) (nI (vsA j9)) := fun j9 hj0 => (hf_73 _ (by omega)).trans (hc_63 j9 (by omega))
              have hc_99 : ∀ j9 : Nat, j9 < 4 → σ_74 (46 + 8 * j9 + 1) = o7 G (46 + 8 * j9 + 1) (lN (nmA j9)) (lN (onA j9)) (nI (slA j9)) (nI (moA j9)) (nI (nbA j9)) := fun j9 hj0 => (hf_73 _ (by omega)).trans (hc_64 j9 (by omega))
              have hc_100 : ∀ j9 : Nat, j9 < 4 → σ_74 (46 + 8 * j9 + 2) = q_an G 5 (bmA j9) := fun j9 hj0 => (hf_73 _ (by omega)).trans (hc_65 j9 (by omega))
              have hc_101 : ∀ j9 : Nat, j9 < 4 → σ_74 (46 + 8 * j9 + 3) = q_an G 1681 (skA j9) := fun j9 hj0 => (hf_73 _ (by omega)).trans (hc_66 j9 (by omega))
              have hc_102 : ∀ j9 : Nat, j9 < 4 → σ_74 (46 + 8 * j9 + 4) = q_an G 1681 (s2A j9) := fun j9 hj0 => (hf_73 _ (by omega)).trans (hc_67 j9 (by omega))
              have hc_103 : ∀ j9 : Nat, j9 < 4 → σ_74 (46 + 8 * j9 + 5) = q_an G 1681 (vaA j9) := fun j9 hj0 => (hf_73 _ (by omega)).trans (hc_68 j9 (by omega))
              have hc_104 : ∀ j9 : Nat, j9 < 4 → σ_74 (46 + 8 * j9 + 6) = q_an G 1681 (spA j9) := fun j9 hj0 => (hf_73 _ (by omega)).trans (hc_69 j9 (by omega))
              have hc_105 : ∀ j9 : Nat, j9 < 4 → σ_74 (46 + 8 * j9 + 7) = q_an G 1681 (rfA j9) := fun j9 hj0 => (hf_73 _ (by omega)).trans (hc_70 j9 (by omega))
              refine A_putf hg fl_RX4_105 dX4_advise_79 hc_72 (by omega) (Nat.le_of_ble_eq_true rfl) rfl rfl rfl (fun σ_106 hc_107 hf_108 => ?_)
              have hc_107 : σ_106 hb = o1 G (nI (1)) (nI (0)) (nI (p)) (nI (x_hk g p 0)) (nI (x_hl g p 0)) := hc_107
              have hc_109 : σ_106 43 = o4 G (43)  := (hf_108 _ (by omega)).trans hc_92
              have hc_110 : σ_106 44 = q_rn G 4 4 (fun j => some (46 + 8 * j)) := (hf_108 _ (by omega)).trans hc_93
              have hc_111 : σ_106 pb = o6 G (pb) (nI (g 1)) (nI (g 2)) := (hf_108 _ (by omega)).trans hc_94
              have hc_112 : σ_106 (pb + 1) = q_an G 8 kd := (hf_108 _ (by omega)).trans hc_95
              have hc_113 : σ_106 (pb + 2) = q_an G 8 fi := (hf_108 _ (by omega)).trans hc_96
              have hc_114 : σ_106 (pb + 3) = q_an G 8 se := (hf_108 _ (by omega)).trans hc_97
              have hc_115 : ∀ j9 : Nat, j9 < 4 → σ_106 (46 + 8 * j9) = o8 G (46 + 8 * j9) (nI (flA j9)) (nI (n0A j9)) (nI (gvA j9)) (nI (gsA j9)) (nI (lmA j9)) (nI (vsA j9)) := fun j9 hj0 => (hf_108 _ (by omega)).trans (hc_98 j9 (by omega))
              have hc_116 : ∀ j9 : Nat, j9 < 4 → σ_106 (46 + 8 * j9 + 1) = o7 G (46 + 8 * j9 + 1) (lN (nmA j9)) (lN (onA j9)) (nI (slA j9)) (nI (moA j9)) (nI (nbA j9)) := fun j9 hj0 => (hf_108 _ (by omega)).trans (hc_99 j9 (by omega))
              have hc_117 : ∀ j9 : Nat, j9 < 4 → σ_106 (46 + 8 * j9 + 2) = q_an G 5 (bmA j9) := fun j9 hj0 => (hf_108 _ (by omega)).trans (hc_100 j9 (by omega))
              have hc_118 : ∀ j9 : Nat, j9 < 4 → σ_106 (46 + 8 * j9 + 3) = q_an G 1681 (skA j9) := fun j9 hj0 => (hf_108 _ (by omega)).trans (hc_101 j9 (by omega))
              have hc_119 : ∀ j9 : Nat, j9 < 4 → σ_106 (46 + 8 * j9 + 4) = q_an G 1681 (s2A j9) := fun j9 hj0 => (hf_108 _ (by omega)).trans (hc_102 j9 (by omega))
              have hc_120 : ∀ j9 : Nat, j9 < 4 → σ_106 (46 + 8 * j9 + 5) = q_an G 1681 (vaA j9) := fun j9 hj0 => (hf_108 _ (by omega)).trans (hc_103 j9 (by omega))
              have hc_121 : ∀ j9 : Nat, j9 < 4 → σ_106 (46 + 8 * j9 + 6) = q_an G 1681 (spA j9) := fun j9 hj0 => (hf_108 _ (by omega)).trans (hc_104 j9 (by omega))
              have hc_122 : ∀ j9 : Nat, j9 < 4 → σ_106 (46 + 8 * j9 + 7) = q_an G 1681 (rfA j9) := fun j9 hj0 => (hf_108 _ (by omega)).trans (hc_105 j9 (by omega))
              refine A_iincN (k' := 1) hg dX4_advise_82 (by decide) rfl (by decide) (q_c1d rfl) ?_
              refine A_eq (ls2 := [some (.ref (q_h G + 43)), some (.ref (q_h G + pb)), some (.ref (q_h G + hb)), some (.int (nI (s_tot g))), some (.int (nI (p + 1))), some (.int (q_d (0)))]) (st2 := []) (pc2 := 0) rfl rfl ?_
              refine A_goto (tgt := 27) hg dX4_advise_85 (by decide) ?_
              refine A_drop 5 ?_
              exact ih27 (p + 1) 1 (nI (p)) (nI (x_hk g p 0)) (nI (x_hl g p 0)) σ_106 hc_109 hc_110 hc_111 hc_112 hc_113 hc_114 hc_115 hc_116 hc_117 hc_118 hc_119 hc_120 hc_121 hc_122 hc_107 (fun i hi => ((hf_108 i (by omega)).trans ((hf_73 i (by omega)).trans ((hf_56 i (by omega)).trans (hf_51 i (by omega)))))) (by omega) (x_ad_t had c40 (by omega) ((x_hm_0 g p).1.symm.trans hm1) rfl (by rw [(x_hm_0 g p).2.1]) (by rw [(x_hm_0 g p).2.2])) (by omega) (by omega)
    exact hL27 _ 0 0 h2 h3 h4 σ_18 hc_21 hc_22 hc_23 hc_24 hc_25 hc_26 hc_27 hc_28 hc_29 hc_30 hc_31 hc_32 hc_33 hc_34 hc_19 (fun i hi => ((hf_20 i (by omega)).trans (hf_3 i (by omega)))) (Nat.zero_le _) (x_ad_0 g _ _ _ _) (by decide) (Nat.lt_succ_self _)
  · skip
    refine A_iconst (v := (nI (1))) hg dX4_advise_16 (by decide) ?_
    refine A_goto (tgt := 21) hg dX4_advise_17 (by decide) ?_
    refine A_putf hg fl_RX4_109 dX4_advise_21 hc_2 (by omega) (Nat.le_of_ble_eq_true rfl) rfl rfl rfl (fun σ_123 hc_124 hf_125 => ?_)
    have hc_124 : σ_123 hb = o1 G (nI (0)) (nI (1)) (h2) (h3) (h4) := hc_124
    have hc_126 : σ_123 43 = o4 G (43)  := (hf_125 _ (by omega)).trans hc_4
    have hc_127 : σ_123 44 = q_rn G 4 4 (fun j => some (46 + 8 * j)) := (hf_125 _ (by omega)).trans hc_5
    have hc_128 : σ_123 pb = o6 G (pb) (nI (g 1)) (nI (g 2)) := (hf_125 _ (by omega)).trans hc_6
    have hc_129 : σ_123 (pb + 1) = q_an G 8 kd := (hf_125 _ (by omega)).trans hc_7
    have hc_130 : σ_123 (pb + 2) = q_an G 8 fi := (hf_125 _ (by omega)).trans hc_8
    have hc_131 : σ_123 (pb + 3) = q_an G 8 se := (hf_125 _ (by omega)).trans hc_9
    have hc_132 : ∀ j9 : Nat, j9 < 4 → σ_123 (46 + 8 * j9) = o8 G (46 + 8 * j9) (nI (flA j9)) (nI (n0A j9)) (nI (gvA j9)) (nI (gsA j9)) (nI (lmA j9)) (nI (vsA j9)) := fun j9 hj0 => (hf_125 _ (by omega)).trans (hc_10 j9 (by omega))
    have hc_133 : ∀ j9 : Nat, j9 < 4 → σ_123 (46 + 8 * j9 + 1) = o7 G (46 + 8 * j9 + 1) (lN (nmA j9)) (lN (onA j9)) (nI (slA j9)) (nI (moA j9)) (nI (nbA j9)) := fun j9 hj0 => (hf_125 _ (by omega)).trans (hc_11 j9 (by omega))
    have hc_134 : ∀ j9 : Nat, j9 < 4 → σ_123 (46 + 8 * j9 + 2) = q_an G 5 (bmA j9) := fun j9 hj0 => (hf_125 _ (by omega)).trans (hc_12 j9 (by omega))
    have hc_135 : ∀ j9 : Nat, j9 < 4 → σ_123 (46 + 8 * j9 + 3) = q_an G 1681 (skA j9) := fun j9 hj0 => (hf_125 _ (by omega)).trans (hc_13 j9 (by omega))
    have hc_136 : ∀ j9 : Nat, j9 < 4 → σ_123 (46 + 8 * j9 + 4) = q_an G 1681 (s2A j9) := fun j9 hj0 => (hf_125 _ (by omega)).trans (hc_14 j9 (by omega))
    have hc_137 : ∀ j9 : Nat, j9 < 4 → σ_123 (46 + 8 * j9 + 5) = q_an G 1681 (vaA j9) := fun j9 hj0 => (hf_125 _ (by omega)).trans (hc_15 j9 (by omega))
    have hc_138 : ∀ j9 : Nat, j9 < 4 → σ_123 (46 + 8 * j9 + 6) = q_an G 1681 (spA j9) := fun j9 hj0 => (hf_125 _ (by omega)).trans (hc_16 j9 (by omega))
    have hc_139 : ∀ j9 : Nat, j9 < 4 → σ_123 (46 + 8 * j9 + 7) = q_an G 1681 (rfA j9) := fun j9 hj0 => (hf_125 _ (by omega)).trans (hc_17 j9 (by omega))
    refine A_iconst (v := (nI (0))) hg dX4_advise_24 (by decide) ?_
    refine A_istore hg dX4_advise_25 (by decide) (q_c1d rfl) ?_
    refine A_eq (ls2 := [some (.ref (q_h G + 43)), some (.ref (q_h G + pb)), some (.ref (q_h G + hb)), some (.int (nI (s_tot g))), some (.int (nI (0))), none]) (st2 := []) (pc2 := 0) rfl rfl ?_
    have haw : s_aw g = true := by rw [x_aw hgw]; exact decide_eq_true c13
    have hL27 : ∀ (fu : Nat) (p : Nat) (it : Nat) (hp1 : Int32) (hk1 : Int32) (hl1 : Int32) (σ_140 : Nat → va_E), (σ_140 43 = o4 G (43) ) → (σ_140 44 = q_rn G 4 4 (fun j => some (46 + 8 * j))) → (σ_140 pb = o6 G (pb) (nI (g 1)) (nI (g 2))) → (σ_140 (pb + 1) = q_an G 8 kd) → (σ_140 (pb + 2) = q_an G 8 fi) → (σ_140 (pb + 3) = q_an G 8 se) → (∀ j9 : Nat, j9 < 4 → σ_140 (46 + 8 * j9) = o8 G (46 + 8 * j9) (nI (flA j9)) (nI (n0A j9)) (nI (gvA j9)) (nI (gsA j9)) (nI (lmA j9)) (nI (vsA j9))) → (∀ j9 : Nat, j9 < 4 → σ_140 (46 + 8 * j9 + 1) = o7 G (46 + 8 * j9 + 1) (lN (nmA j9)) (lN (onA j9)) (nI (slA j9)) (nI (moA j9)) (nI (nbA j9))) → (∀ j9 : Nat, j9 < 4 → σ_140 (46 + 8 * j9 + 2) = q_an G 5 (bmA j9)) → (∀ j9 : Nat, j9 < 4 → σ_140 (46 + 8 * j9 + 3) = q_an G 1681 (skA j9)) → (∀ j9 : Nat, j9 < 4 → σ_140 (46 + 8 * j9 + 4) = q_an G 1681 (s2A j9)) → (∀ j9 : Nat, j9 < 4 → σ_140 (46 + 8 * j9 + 5) = q_an G 1681 (vaA j9)) → (∀ j9 : Nat, j9 < 4 → σ_140 (46 + 8 * j9 + 6) = q_an G 1681 (spA j9)) → (∀ j9 : Nat, j9 < 4 → σ_140 (46 + 8 * j9 + 7) = q_an G 1681 (rfA j9)) → (σ_140 hb = o1 G (nI (it)) (nI (1)) (hp1) (hk1) (hl1)) → (∀ i : Nat, i ≠ hb → σ_140 i = σ i) → (p ≤ s_np g) → (x_ad g true p it hp1 hk1 hl1) → (it ≤ 1) → (s_np g - p) < fu → AJ G K Q 0 0 ex n 27 [some (.ref (q_h G + 43)), some (.ref (q_h G + pb)), some (.ref (q_h G + hb)), some (.int (nI (s_tot g))), some (.int (nI (p))), none] [] σ_140 := by
      intro fu
      induction fu with
      | zero => intro p it hp1 hk1 hl1 σ_140 hc_141 hc_142 hc_143 hc_144 hc_145 hc_146 hc_147 hc_148 hc_149 hc_150 hc_151 hc_152 hc_153 hc_154 hc_155 hf_156 hp had hit hm; exact absurd hm (Nat.not_lt_zero _)
      | succ fu ih27 =>
        intro p it hp1 hk1 hl1 σ_140 hc_141 hc_142 hc_143 hc_144 hc_145 hc_146 hc_147 hc_148 hc_149 hc_150 hc_151 hc_152 hc_153 hc_154 hc_155 hf_156 hp had hit hm27
        refine A_iload hg dX4_advise_27 rfl ?_
        refine A_aload_n hg dX4_advise_29 rfl rfl ?_
        refine A_eV (kc2 := 0) (ks2 := 0) (As := []) (rest := [.int (nI (p))]) hg lk_RX4_70 in_X6_many se_X6_many rfl dX4_advise_30 ⟨by decide, by decide⟩ rfl rfl ⟨by decide, by decide⟩ hc_143 (by omega) rfl rfl (Nat.le_of_ble_eq_true rfl) (c_X6_many G ex n σ_140 pb (g 1) (g 2) hc_143 (by omega)) ?_
        refine A_icmp_geN (tgt := 88) hg dX4_advise_33 (by omega) (by omega) (by decide) (fun c33 => ?_) (fun c33 => ?_)
        · skip
          have hen := x_ad_e had hit haw (by first | exact Or.inl (by omega) | exact Or.inr c40)
          have hc_157 : σ_140 hb = o1 G (q_b (s_adv g)) (q_b (s_aw g)) (hp1) (hk1) (hl1) := hc_155.trans (by rw [haw, ← hen.1]; rfl)
          rw [hQ]
          exact A_return hg (by decide) (by decide) rfl dX4_advise_88 ⟨rfl, ⟨rfl, hp1, hk1, hl1, hen.2, hc_157, (fun i hi => (hf_156 i (by omega)))⟩⟩
        · skip
          refine A_aload_n hg dX4_advise_36 rfl rfl ?_
          refine A_getf (v := .int (nI (it))) hg fl_RX4_105 dX4_advise_37 hc_155 (by omega) rfl ?_
          refine A_if_neN (tgt := 88) hg dX4_advise_40 (by omega) (by decide) (fun c40 => ?_) (fun c40 => ?_)
          · skip
            have hen := x_ad_e had hit haw (by first | exact Or.inl (by omega) | exact Or.inr c40)
            have hc_158 : σ_140 hb = o1 G (q_b (s_adv g)) (q_b (s_aw g)) (hp1) (hk1) (hl1) := hc_155.trans (by rw [haw, ← hen.1]; rfl)
            rw [hQ]
            exact A_return hg (by decide) (by decide) rfl dX4_advise_88 ⟨rfl, ⟨rfl, hp1, hk1, hl1, hen.2, hc_158, (fun i hi => (hf_156 i (by omega)))⟩⟩
          · skip
            refine A_iload_n hg dX4_advise_43 rfl rfl ?_
            refine A_if_neN (tgt := 51) hg dX4_advise_44 (by omega) (by decide) (fun c44 => ?_) (fun c44 => absurd c44 c13)
            refine A_iload_n hg dX4_advise_51 rfl rfl ?_
            refine A_aload_n hg dX4_advise_52 rfl rfl ?_
            refine A_aload_n hg dX4_advise_53 rfl rfl ?_
            refine A_iload hg dX4_advise_54 rfl ?_
            refine A_eV (kc2 := 0) (ks2 := 0) (As := [.ref (q_h G + pb), .int (nI (p))]) (rest := [.int (nI (s_tot g))]) hg lk_RX4_74 in_X4_valueOf se_X4_valueOf rfl dX4_advise_56 ⟨by decide, by decide⟩ rfl rfl ⟨by decide, by decide⟩ hc_141 (by omega) rfl rfl (Nat.le_of_ble_eq_true rfl) (c_X4_valueOf G ex n σ_140 pb g kd fi se flA n0A gvA gsA lmA vsA nmA onA slA moA nbA bmA skA s2A vaA spA rfA p hc_141 hc_142 hc_143 hc_144 hc_145 hc_146 hc_147 hc_148 hc_149 hc_150 hc_151 hc_152 hc_153 hc_154 (by omega) (by omega) hgw hxp hTF (by omega)) ?_
            refine A_ixorN hg dX4_advise_59 ?_
            refine A_top (w := .int (q_d (((s_tot g) ^^^ (s_pv g p 0 0)) + 1))) (congrArg Value.int (q_dS _).symm) ?_
            refine A_istore hg dX4_advise_60 (by decide) (q_c1d rfl) ?_
            refine A_eq (ls2 := [some (.ref (q_h G + 43)), some (.ref (q_h G + pb)), some (.ref (q_h G + hb)), some (.int (nI (s_tot g))), some (.int (nI (p))), some (.int (q_d (((s_tot g) ^^^ (s_pv g p 0 0)) + 1)))]) (st2 := []) (pc2 := 0) rfl rfl ?_
            have hrl := s_rest_lt hgw (show p < s_np g by omega)
            refine A_aload_n hg dX4_advise_62 rfl rfl ?_
            refine A_iload hg dX4_advise_63 rfl ?_
            refine A_putf hg fl_RX4_112 dX4_advise_65 hc_155 (by omega) (Nat.le_of_ble_eq_true rfl) rfl rfl rfl (fun σ_159 hc_160 hf_161 => ?_)
            have hc_160 : σ_159 hb = o1 G (nI (it)) (nI (1)) (nI (p)) (hk1) (hl1) := hc_160
            have hc_162 : σ_159 43 = o4 G (43)  := (hf_161 _ (by omega)).trans hc_141
            have hc_163 : σ_159 44 = q_rn G 4 4 (fun j => some (46 + 8 * j)) := (hf_161 _ (by omega)).trans hc_142
            have hc_164 : σ_159 pb = o6 G (pb) (nI (g 1)) (nI (g 2)) := (hf_161 _ (by omega)).trans hc_143
            have hc_165 : σ_159 (pb + 1) = q_an G 8 kd := (hf_161 _ (by omega)).trans hc_144
            have hc_166 : σ_159 (pb + 2) = q_an G 8 fi := (hf_161 _ (by omega)).trans hc_145
            have hc_167 : σ_159 (pb + 3) = q_an G 8 se := (hf_161 _ (by omega)).trans hc_146
            have hc_168 : ∀ j9 : Nat, j9 < 4 → σ_159 (46 + 8 * j9) = o8 G (46 + 8 * j9) (nI (flA j9)) (nI (n0A j9)) (nI (gvA j9)) (nI (gsA j9)) (nI (lmA j9)) (nI (vsA j9)) := fun j9 hj0 => (hf_161 _ (by omega)).trans (hc_147 j9 (by omega))
            have hc_169 : ∀ j9 : Nat, j9 < 4 → σ_159 (46 + 8 * j9 + 1) = o7 G (46 + 8 * j9 + 1) (lN (nmA j9)) (lN (onA j9)) (nI (slA j9)) (nI (moA j9)) (nI (nbA j9)) := fun j9 hj0 => (hf_161 _ (by omega)).trans (hc_148 j9 (by omega))
            have hc_170 : ∀ j9 : Nat, j9 < 4 → σ_159 (46 + 8 * j9 + 2) = q_an G 5 (bmA j9) := fun j9 hj0 => (hf_161 _ (by omega)).trans (hc_149 j9 (by omega))
            have hc_171 : ∀ j9 : Nat, j9 < 4 → σ_159 (46 + 8 * j9 + 3) = q_an G 1681 (skA j9) := fun j9 hj0 => (hf_161 _ (by omega)).trans (hc_150 j9 (by omega))
            have hc_172 : ∀ j9 : Nat, j9 < 4 → σ_159 (46 + 8 * j9 + 4) = q_an G 1681 (s2A j9) := fun j9 hj0 => (hf_161 _ (by omega)).trans (hc_151 j9 (by omega))
            have hc_173 : ∀ j9 : Nat, j9 < 4 → σ_159 (46 + 8 * j9 + 5) = q_an G 1681 (vaA j9) := fun j9 hj0 => (hf_161 _ (by omega)).trans (hc_152 j9 (by omega))
            have hc_174 : ∀ j9 : Nat, j9 < 4 → σ_159 (46 + 8 * j9 + 6) = q_an G 1681 (spA j9) := fun j9 hj0 => (hf_161 _ (by omega)).trans (hc_153 j9 (by omega))
            have hc_175 : ∀ j9 : Nat, j9 < 4 → σ_159 (46 + 8 * j9 + 7) = q_an G 1681 (rfA j9) := fun j9 hj0 => (hf_161 _ (by omega)).trans (hc_154 j9 (by omega))
            refine A_aload_n hg dX4_advise_68 rfl rfl ?_
            refine A_aload_n hg dX4_advise_69 rfl rfl ?_
            refine A_aload_n hg dX4_advise_70 rfl rfl ?_
            refine A_iload hg dX4_advise_71 rfl ?_
            refine A_iload hg dX4_advise_73 rfl ?_
            refine A_aload_n hg dX4_advise_75 rfl rfl ?_
            refine A_hV (kc2 := 0) (ks2 := 0) (As := [.ref (q_h G + pb), .int (nI (p)), .int (q_d (((s_tot g) ^^^ (s_pv g p 0 0)) + 1)), .ref (q_h G + hb)]) (rest := [.ref (q_h G + hb)]) hg lk_RX4_92 in_X4_findMove se_X4_findMove rfl dX4_advise_76 ⟨by decide, by decide⟩ rfl rfl ⟨by decide, by decide⟩ hc_162 (by omega) rfl rfl (Nat.le_of_ble_eq_true rfl) (c_X4_findMove G ex n σ_159 pb g kd fi se flA n0A gvA gsA lmA vsA nmA onA slA moA nbA bmA skA s2A vaA spA rfA (((s_tot g) ^^^ (s_pv g p 0 0)) + 1) p hb (nI (it)) (nI (1)) (nI (p)) hk1 hl1 hc_162 hc_163 hc_164 hc_165 hc_166 hc_167 hc_168 hc_169 hc_170 hc_171 hc_172 hc_173 hc_174 hc_175 hc_160 (by omega) (by omega) hgw hxp hTF (by omega) (by omega) (by omega)) ?_
            rintro _ σ_179 (⟨rfl, hm0, he_176⟩ | ⟨rfl, hm1, hc_177, hf_178⟩)
            · skip
              rw [he_176]
              refine (?_ : AJ G K Q 0 0 ex n 79 [some (.ref (q_h G + 43)), some (.ref (q_h G + pb)), some (.ref (q_h G + hb)), some (.int (nI (s_tot g))), some (.int (nI (p))), some (.int (q_d (((s_tot g) ^^^ (s_pv g p 0 0)) + 1)))] [.int (nI (0)), .ref (q_h G + hb)] σ_159)
              refine A_putf hg fl_RX4_105 dX4_advise_79 hc_160 (by omega) (Nat.le_of_ble_eq_true rfl) rfl rfl rfl (fun σ_180 hc_181 hf_182 => ?_)
              have hc_181 : σ_180 hb = o1 G (nI (0)) (nI (1)) (nI (p)) (hk1) (hl1) := hc_181
              have hc_183 : σ_180 43 = o4 G (43)  := (hf_182 _ (by omega)).trans hc_162
              have hc_184 : σ_180 44 = q_rn G 4 4 (fun j => some (46 + 8 * j)) := (hf_182 _ (by omega)).trans hc_163
              have hc_185 : σ_180 pb = o6 G (pb) (nI (g 1)) (nI (g 2)) := (hf_182 _ (by omega)).trans hc_164
              have hc_186 : σ_180 (pb + 1) = q_an G 8 kd := (hf_182 _ (by omega)).trans hc_165
              have hc_187 : σ_180 (pb + 2) = q_an G 8 fi := (hf_182 _ (by omega)).trans hc_166
              have hc_188 : σ_180 (pb + 3) = q_an G 8 se := (hf_182 _ (by omega)).trans hc_167
              have hc_189 : ∀ j9 : Nat, j9 < 4 → σ_180 (46 + 8 * j9) = o8 G (46 + 8 * j9) (nI (flA j9)) (nI (n0A j9)) (nI (gvA j9)) (nI (gsA j9)) (nI (lmA j9)) (nI (vsA j9)) := fun j9 hj0 => (hf_182 _ (by omega)).trans (hc_168 j9 (by omega))
              have hc_190 : ∀ j9 : Nat, j9 < 4 → σ_180 (46 + 8 * j9 + 1) = o7 G (46 + 8 * j9 + 1) (lN (nmA j9)) (lN (onA j9)) (nI (slA j9)) (nI (moA j9)) (nI (nbA j9)) := fun j9 hj0 => (hf_182 _ (by omega)).trans (hc_169 j9 (by omega))
              have hc_191 : ∀ j9 : Nat, j9 < 4 → σ_180 (46 + 8 * j9 + 2) = q_an G 5 (bmA j9) := fun j9 hj0 => (hf_182 _ (by omega)).trans (hc_170 j9 (by omega))
              have hc_192 : ∀ j9 : Nat, j9 < 4 → σ_180 (46 + 8 * j9 + 3) = q_an G 1681 (skA j9) := fun j9 hj0 => (hf_182 _ (by omega)).trans (hc_171 j9 (by omega))
              have hc_193 : ∀ j9 : Nat, j9 < 4 → σ_180 (46 + 8 * j9 + 4) = q_an G 1681 (s2A j9) := fun j9 hj0 => (hf_182 _ (by omega)).trans (hc_172 j9 (by omega))
              have hc_194 : ∀ j9 : Nat, j9 < 4 → σ_180 (46 + 8 * j9 + 5) = q_an G 1681 (vaA j9) := fun j9 hj0 => (hf_182 _ (by omega)).trans (hc_173 j9 (by omega))
              have hc_195 : ∀ j9 : Nat, j9 < 4 → σ_180 (46 + 8 * j9 + 6) = q_an G 1681 (spA j9) := fun j9 hj0 => (hf_182 _ (by omega)).trans (hc_174 j9 (by omega))
              have hc_196 : ∀ j9 : Nat, j9 < 4 → σ_180 (46 + 8 * j9 + 7) = q_an G 1681 (rfA j9) := fun j9 hj0 => (hf_182 _ (by omega)).trans (hc_175 j9 (by omega))
              refine A_iincN (k' := 1) hg dX4_advise_82 (by decide) rfl (by decide) (q_c1d rfl) ?_
              refine A_eq (ls2 := [some (.ref (q_h G + 43)), some (.ref (q_h G + pb)), some (.ref (q_h G + hb)), some (.int (nI (s_tot g))), some (.int (nI (p + 1))), some (.int (q_d (((s_tot g) ^^^ (s_pv g p 0 0)) + 1)))]) (st2 := []) (pc2 := 0) rfl rfl ?_
              refine A_goto (tgt := 27) hg dX4_advise_85 (by decide) ?_
              refine A_drop 5 ?_
              exact ih27 (p + 1) 0 (nI (p)) hk1 hl1 σ_180 hc_183 hc_184 hc_185 hc_186 hc_187 hc_188 hc_189 hc_190 hc_191 hc_192 hc_193 hc_194 hc_195 hc_196 hc_181 (fun i hi => ((hf_182 i (by omega)).trans ((hf_161 i (by omega)).trans (hf_156 i (by omega))))) (by omega) (x_ad_f had c40 ((x_hm_w g p).1.symm.trans hm0)) (by omega) (by omega)
            · skip
              refine (?_ : AJ G K Q 0 0 ex n 79 [some (.ref (q_h G + 43)), some (.ref (q_h G + pb)), some (.ref (q_h G + hb)), some (.int (nI (s_tot g))), some (.int (nI (p))), some (.int (q_d (((s_tot g) ^^^ (s_pv g p 0 0)) + 1)))] [.int (nI (1)), .ref (q_h G + hb)] σ_179)
              have hc_197 : σ_179 43 = o4 G (43)  := (hf_178 _ (by omega)).trans hc_162
              have hc_198 : σ_179 44 = q_rn G 4 4 (fun j => some (46 + 8 * j)) := (hf_178 _ (by omega)).trans hc_163
              have hc_199 : σ_179 pb = o6 G (pb) (nI (g 1)) (nI (g 2)) := (hf_178 _ (by omega)).trans hc_164
              have hc_200 : σ_179 (pb + 1) = q_an G 8 kd := (hf_178 _ (by omega)).trans hc_165
              have hc_201 : σ_179 (pb + 2) = q_an G 8 fi := (hf_178 _ (by omega)).trans hc_166
              have hc_202 : σ_179 (pb + 3) = q_an G 8 se := (hf_178 _ (by omega)).trans hc_167
              have hc_203 : ∀ j9 : Nat, j9 < 4 → σ_179 (46 + 8 * j9) = o8 G (46 + 8 * j9) (nI (flA j9)) (nI (n0A j9)) (nI (gvA j9)) (nI (gsA j9)) (nI (lmA j9)) (nI (vsA j9)) := fun j9 hj0 => (hf_178 _ (by omega)).trans (hc_168 j9 (by omega))
              have hc_204 : ∀ j9 : Nat, j9 < 4 → σ_179 (46 + 8 * j9 + 1) = o7 G (46 + 8 * j9 + 1) (lN (nmA j9)) (lN (onA j9)) (nI (slA j9)) (nI (moA j9)) (nI (nbA j9)) := fun j9 hj0 => (hf_178 _ (by omega)).trans (hc_169 j9 (by omega))
              have hc_205 : ∀ j9 : Nat, j9 < 4 → σ_179 (46 + 8 * j9 + 2) = q_an G 5 (bmA j9) := fun j9 hj0 => (hf_178 _ (by omega)).trans (hc_170 j9 (by omega))
              have hc_206 : ∀ j9 : Nat, j9 < 4 → σ_179 (46 + 8 * j9 + 3) = q_an G 1681 (skA j9) := fun j9 hj0 => (hf_178 _ (by omega)).trans (hc_171 j9 (by omega))
              have hc_207 : ∀ j9 : Nat, j9 < 4 → σ_179 (46 + 8 * j9 + 4) = q_an G 1681 (s2A j9) := fun j9 hj0 => (hf_178 _ (by omega)).trans (hc_172 j9 (by omega))
              have hc_208 : ∀ j9 : Nat, j9 < 4 → σ_179 (46 + 8 * j9 + 5) = q_an G 1681 (vaA j9) := fun j9 hj0 => (hf_178 _ (by omega)).trans (hc_173 j9 (by omega))
              have hc_209 : ∀ j9 : Nat, j9 < 4 → σ_179 (46 + 8 * j9 + 6) = q_an G 1681 (spA j9) := fun j9 hj0 => (hf_178 _ (by omega)).trans (hc_174 j9 (by omega))
              have hc_210 : ∀ j9 : Nat, j9 < 4 → σ_179 (46 + 8 * j9 + 7) = q_an G 1681 (rfA j9) := fun j9 hj0 => (hf_178 _ (by omega)).trans (hc_175 j9 (by omega))
              refine A_putf hg fl_RX4_105 dX4_advise_79 hc_177 (by omega) (Nat.le_of_ble_eq_true rfl) rfl rfl rfl (fun σ_211 hc_212 hf_213 => ?_)
              have hc_212 : σ_211 hb = o1 G (nI (1)) (nI (1)) (nI (p)) (nI (x_hk g p (((s_tot g) ^^^ (s_pv g p 0 0)) + 1))) (nI (x_hl g p (((s_tot g) ^^^ (s_pv g p 0 0)) + 1))) := hc_212
              have hc_214 : σ_211 43 = o4 G (43)  := (hf_213 _ (by omega)).trans hc_197
              have hc_215 : σ_211 44 = q_rn G 4 4 (fun j => some (46 + 8 * j)) := (hf_213 _ (by omega)).trans hc_198
              have hc_216 : σ_211 pb = o6 G (pb) (nI (g 1)) (nI (g 2)) := (hf_213 _ (by omega)).trans hc_199
              have hc_217 : σ_211 (pb + 1) = q_an G 8 kd := (hf_213 _ (by omega)).trans hc_200
              have hc_218 : σ_211 (pb + 2) = q_an G 8 fi := (hf_213 _ (by omega)).trans hc_201
              have hc_219 : σ_211 (pb + 3) = q_an G 8 se := (hf_213 _ (by omega)).trans hc_202
              have hc_220 : ∀ j9 : Nat, j9 < 4 → σ_211 (46 + 8 * j9) = o8 G (46 + 8 * j9) (nI (flA j9)) (nI (n0A j9)) (nI (gvA j9)) (nI (gsA j9)) (nI (lmA j9)) (nI (vsA j9)) := fun j9 hj0 => (hf_213 _ (by omega)).trans (hc_203 j9 (by omega))
              have hc_221 : ∀ j9 : Nat, j9 < 4 → σ_211 (46 + 8 * j9 + 1) = o7 G (46 + 8 * j9 + 1) (lN (nmA j9)) (lN (onA j9)) (nI (slA j9)) (nI (moA j9)) (nI (nbA j9)) := fun j9 hj0 => (hf_213 _ (by omega)).trans (hc_204 j9 (by omega))
              have hc_222 : ∀ j9 : Nat, j9 < 4 → σ_211 (46 + 8 * j9 + 2) = q_an G 5 (bmA j9) := fun j9 hj0 => (hf_213 _ (by omega)).trans (hc_205 j9 (by omega))
              have hc_223 : ∀ j9 : Nat, j9 < 4 → σ_211 (46 + 8 * j9 + 3) = q_an G 1681 (skA j9) := fun j9 hj0 => (hf_213 _ (by omega)).trans (hc_206 j9 (by omega))
              have hc_224 : ∀ j9 : Nat, j9 < 4 → σ_211 (46 + 8 * j9 + 4) = q_an G 1681 (s2A j9) := fun j9 hj0 => (hf_213 _ (by omega)).trans (hc_207 j9 (by omega))
              have hc_225 : ∀ j9 : Nat, j9 < 4 → σ_211 (46 + 8 * j9 + 5) = q_an G 1681 (vaA j9) := fun j9 hj0 => (hf_213 _ (by omega)).trans (hc_208 j9 (by omega))
              have hc_226 : ∀ j9 : Nat, j9 < 4 → σ_211 (46 + 8 * j9 + 6) = q_an G 1681 (spA j9) := fun j9 hj0 => (hf_213 _ (by omega)).trans (hc_209 j9 (by omega))
              have hc_227 : ∀ j9 : Nat, j9 < 4 → σ_211 (46 + 8 * j9 + 7) = q_an G 1681 (rfA j9) := fun j9 hj0 => (hf_213 _ (by omega)).trans (hc_210 j9 (by omega))
              refine A_iincN (k' := 1) hg dX4_advise_82 (by decide) rfl (by decide) (q_c1d rfl) ?_
              refine A_eq (ls2 := [some (.ref (q_h G + 43)), some (.ref (q_h G + pb)), some (.ref (q_h G + hb)), some (.int (nI (s_tot g))), some (.int (nI (p + 1))), some (.int (q_d (((s_tot g) ^^^ (s_pv g p 0 0)) + 1)))]) (st2 := []) (pc2 := 0) rfl rfl ?_
              refine A_goto (tgt := 27) hg dX4_advise_85 (by decide) ?_
              refine A_drop 5 ?_
              exact ih27 (p + 1) 1 (nI (p)) (nI (x_hk g p (((s_tot g) ^^^ (s_pv g p 0 0)) + 1))) (nI (x_hl g p (((s_tot g) ^^^ (s_pv g p 0 0)) + 1))) σ_211 hc_214 hc_215 hc_216 hc_217 hc_218 hc_219 hc_220 hc_221 hc_222 hc_223 hc_224 hc_225 hc_226 hc_227 hc_212 (fun i hi => ((hf_213 i (by omega)).trans ((hf_178 i (by omega)).trans ((hf_161 i (by omega)).trans (hf_156 i (by omega)))))) (by omega) (x_ad_t had c40 (by omega) ((x_hm_w g p).1.symm.trans hm1) rfl (by rw [(x_hm_w g p).2.1]) (by rw [(x_hm_w g p).2.2])) (by omega) (by omega)
    exact hL27 _ 0 0 h2 h3 h4 σ_123 hc_126 hc_127 hc_128 hc_129 hc_130 hc_131 hc_132 hc_133 hc_134 hc_135 hc_136 hc_137 hc_138 hc_139 hc_124 (fun i hi => ((hf_125 i (by omega)).trans (hf_3 i (by omega)))) (Nat.zero_le _) (x_ad_0 g _ _ _ _) (by decide) (Nat.lt_succ_self _)
end
