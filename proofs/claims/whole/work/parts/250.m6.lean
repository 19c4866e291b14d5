section
set_option maxRecDepth 100000 in
set_option maxHeartbeats 4000000 in
theorem c_X11_movesOf (G : GL) (ex : Bool) (n : Nat) (σ : Nat → va_E) (F : Nat → Int32) (g : Nat → Nat) (va : Nat → Nat) (p : Nat) (w : Bool) (hc0 : σ 279 = o11 G F) (hc1 : σ 280 = q_an G 265 g) (hc2 : σ 289 = q_an G 6724 va) (hn : 294 ≤ n) (hg9 : s_gwf g) (hp : p < s_np g) (hCV : ∀ r : Nat, r < g 0 → ∀ q : Nat, q < 1681 → va (1681 * r + q) = s_V (s_rule g r) q) : Ct G yX11_movesOf cX11_movesOf 7 (some .int) ⟨4, 0, 0, 93⟩ [.ref (q_h G + 279), .int (nI (p)), .int (q_b (w))] ex n σ (fun v9 σ2 => σ2 = σ ∧ v9 = some (.int (nI (s_mvs g p w)))) := by
  refine q_enter [some (.ref (q_h G + 279)), some (.int (nI (p))), some (.int (q_b (w))), none, none, none, none] (by decide) (Nat.le_of_ble_eq_true rfl) rfl ?_
  intro K hg
  obtain ⟨Q, hQ⟩ : ∃ Q, Q = q_Q G K ex n 0 0 (fun v9 n' σ' => n' = n ∧ (fun v9 σ2 => σ2 = σ ∧ v9 = some (.int (nI (s_mvs g p w)))) v9 σ') q_noX := ⟨_, rfl⟩
  refine (?_ : AJ G K (q_Q G K ex n 0 0 _ _) 0 0 ex n 0 _ _ σ)
  rw [← hQ]
  have hnp := s_np_le hg9
  have hg1 : g 1 ≤ 4 := hg9.2.1
  have hg2 : g 2 ≤ 4 := hg9.2.2.1
  have hsp : s_np g = g 1 + g 2 := rfl
  have hbd := hg9.2.2.2.2.2.2.1 p
  have hsk := hg9.2.2.2.2.2.2.2 (p - g 1)
  have hpt := s_part hg9 hp
  have hrs := s_rest_lt hg9 hp
  refine A_aload_n hg dX11_movesOf_0 rfl rfl ?_
  refine A_eV (kc2 := 0) (ks2 := 0) (As := []) (rest := []) hg lk_RX11_206 in_X11_total se_X11_total rfl dX11_movesOf_1 ⟨by decide, by decide⟩ rfl rfl ⟨by decide, by decide⟩ hc0 (by omega) rfl rfl (Nat.le_of_ble_eq_true rfl) (c_X11_total G ex n σ F g va hc0 hc1 hc2 (by omega) hg9 hCV) ?_
  refine A_aload_n hg dX11_movesOf_4 rfl rfl ?_
  refine A_iload_n hg dX11_movesOf_5 rfl rfl ?_
  refine A_iconst (v := (nI (0))) hg dX11_movesOf_6 (by decide) ?_
  refine A_iconst (v := (nI (0))) hg dX11_movesOf_7 (by decide) ?_
  refine A_eV (kc2 := 0) (ks2 := 0) (As := [.int (nI (p)), .int (nI (0)), .int (nI (0))]) (rest := [.int (nI (s_tot g))]) hg lk_RX11_197 in_X11_valueLess se_X11_valueLess rfl dX11_movesOf_8 ⟨by decide, by decide⟩ rfl rfl ⟨by decide, by decide⟩ hc0 (by omega) rfl rfl (Nat.le_of_ble_eq_true rfl) (c_X11_valueLess G ex n σ F g va p 0 0 hc0 hc1 hc2 (by omega) hg9 (by omega) hCV (by omega) (by omega)) ?_
  refine A_ixorN hg dX11_movesOf_11 ?_
  refine A_istore_n hg dX11_movesOf_12 rfl (by decide) (q_c1d rfl) ?_
  refine A_eq (ls2 := [some (.ref (q_h G + 279)), some (.int (nI (p))), some (.int (q_b (w))), some (.int (nI ((s_tot g) ^^^ (s_pv g p 0 0)))), none, none, none]) (st2 := []) (pc2 := 0) rfl rfl ?_
  refine A_iconst (v := (nI (0))) hg dX11_movesOf_13 (by decide) ?_
  refine A_istore hg dX11_movesOf_14 (by decide) (q_c1d rfl) ?_
  refine A_eq (ls2 := [some (.ref (q_h G + 279)), some (.int (nI (p))), some (.int (q_b (w))), some (.int (nI ((s_tot g) ^^^ (s_pv g p 0 0)))), some (.int (nI (0))), none, none]) (st2 := []) (pc2 := 0) rfl rfl ?_
  refine A_iconst (v := (nI (0))) hg dX11_movesOf_16 (by decide) ?_
  refine A_istore hg dX11_movesOf_17 (by decide) (q_c1d rfl) ?_
  refine A_eq (ls2 := [some (.ref (q_h G + 279)), some (.int (nI (p))), some (.int (q_b (w))), some (.int (nI ((s_tot g) ^^^ (s_pv g p 0 0)))), some (.int (nI (0))), some (.int (nI (0))), none]) (st2 := []) (pc2 := 0) rfl rfl ?_
  have hL19 : ∀ (fu : Nat) (k : Nat) (m : Nat), (k ≤ s_x g p + 1) → (m = s_cc (s_ok g p w) k (s_y g p + 1)) → (s_x g p + 1 - k) < fu → AJ G K Q 0 0 ex n 19 [some (.ref (q_h G + 279)), some (.int (nI (p))), some (.int (q_b (w))), some (.int (nI ((s_tot g) ^^^ (s_pv g p 0 0)))), some (.int (nI (m))), some (.int (nI (k))), none] [] σ := by
    intro fu
    induction fu with
    | zero => intro k m hk hm hm; exact absurd hm (Nat.not_lt_zero _)
    | succ fu ih19 =>
      intro k m hk hm hm19
      refine A_iload hg dX11_movesOf_19 rfl ?_
      refine A_aload_n hg dX11_movesOf_21 rfl rfl ?_
      refine A_iload_n hg dX11_movesOf_22 rfl rfl ?_
      refine A_eV (kc2 := 0) (ks2 := 0) (As := [.int (nI (p))]) (rest := [.int (nI (k))]) hg lk_RX11_200 in_X11_firstHeap se_X11_firstHeap rfl dX11_movesOf_23 ⟨by decide, by decide⟩ rfl rfl ⟨by decide, by decide⟩ hc0 (by omega) rfl rfl (Nat.le_of_ble_eq_true rfl) (c_X11_firstHeap G ex n σ F g p hc0 hc1 (by omega) hg9 (by omega)) ?_
      refine A_icmp_gtN (tgt := 86) hg dX11_movesOf_26 (by omega) (by omega) (by decide) (fun c26 => ?_) (fun c26 => ?_)
      · skip
        refine A_iload hg dX11_movesOf_86 rfl ?_
        rw [hQ]
        exact A_ireturn hg (by decide) (by decide) rfl dX11_movesOf_88 ⟨rfl, ⟨rfl, (by rw [hm, show k = s_x g p + 1 by omega]; rfl)⟩⟩
      · skip
        refine A_iconst (v := (nI (0))) hg dX11_movesOf_29 (by decide) ?_
        refine A_istore hg dX11_movesOf_30 (by decide) (q_c1d rfl) ?_
        refine A_eq (ls2 := [some (.ref (q_h G + 279)), some (.int (nI (p))), some (.int (q_b (w))), some (.int (nI ((s_tot g) ^^^ (s_pv g p 0 0)))), some (.int (nI (m))), some (.int (nI (k))), some (.int (nI (0)))]) (st2 := []) (pc2 := 0) rfl rfl ?_
        have hL32 : ∀ (fu : Nat) (l : Nat) (m2 : Nat), (l ≤ s_y g p + 1) → (m2 = s_cc (s_ok g p w) k (s_y g p + 1) + s_cnt (s_ok g p w k) l) → (s_y g p + 1 - l) < fu → AJ G K Q 0 0 ex n 32 [some (.ref (q_h G + 279)), some (.int (nI (p))), some (.int (q_b (w))), some (.int (nI ((s_tot g) ^^^ (s_pv g p 0 0)))), some (.int (nI (m2))), some (.int (nI (k))), some (.int (nI (l)))] [] σ := by
          intro fu
          induction fu with
          | zero => intro l m2 hl hm2 hm; exact absurd hm (Nat.not_lt_zero _)
          | succ fu ih32 =>
            intro l m2 hl hm2 hm32
            have hrl := s_ref_le g p k l
            have hvl := s_pv_lt hg9 hp k l
            refine A_iload hg dX11_movesOf_32 rfl ?_
            refine A_aload_n hg dX11_movesOf_34 rfl rfl ?_
            refine A_iload_n hg dX11_movesOf_35 rfl rfl ?_
            refine A_eV (kc2 := 0) (ks2 := 0) (As := [.int (nI (p))]) (rest := [.int (nI (l))]) hg lk_RX11_203 in_X11_secondHeap se_X11_secondHeap rfl dX11_movesOf_36 ⟨by decide, by decide⟩ rfl rfl ⟨by decide, by decide⟩ hc0 (by omega) rfl rfl (Nat.le_of_ble_eq_true rfl) (c_X11_secondHeap G ex n σ F g p hc0 hc1 (by omega) hg9 (by omega)) ?_
            refine A_icmp_gtN (tgt := 80) hg dX11_movesOf_39 (by omega) (by omega) (by decide) (fun c39 => ?_) (fun c39 => ?_)
            · skip
              refine A_iincN (k' := 1) hg dX11_movesOf_80 (by decide) rfl (by decide) (q_c1d rfl) ?_
              refine A_eq (ls2 := [some (.ref (q_h G + 279)), some (.int (nI (p))), some (.int (q_b (w))), some (.int (nI ((s_tot g) ^^^ (s_pv g p 0 0)))), some (.int (nI (m2))), some (.int (nI (k + 1))), some (.int (nI (l)))]) (st2 := []) (pc2 := 0) rfl rfl ?_
              refine A_goto (tgt := 19) hg dX11_movesOf_83 (by decide) ?_
              refine A_drop 6 ?_
              exact ih19 (k + 1) m2 (by omega) (by rw [hm2, s_cc_s, show l = s_y g p + 1 by omega]) (by omega)
            · skip
              refine A_aload_n hg dX11_movesOf_42 rfl rfl ?_
              refine A_iload_n hg dX11_movesOf_43 rfl rfl ?_
              refine A_iload hg dX11_movesOf_44 rfl ?_
              refine A_iload hg dX11_movesOf_46 rfl ?_
              refine A_eV (kc2 := 0) (ks2 := 0) (As := [.int (nI (p)), .int (nI (k)), .int (nI (l))]) (rest := []) hg lk_RX11_209 in_X11_refusal se_X11_refusal rfl dX11_movesOf_48 ⟨by decide, by decide⟩ rfl rfl ⟨by decide, by decide⟩ hc0 (by omega) rfl rfl (Nat.le_of_ble_eq_true rfl) (c_X11_refusal G ex n σ F g p k l hc0 hc1 (by omega) hg9 (by omega) (by omega) (by omega)) ?_
              refine A_if_neN (tgt := 74) hg dX11_movesOf_51 (by omega) (by decide) (fun c51 => ?_) (fun c51 => ?_)
              · skip
                refine A_iincN (k' := 1) hg dX11_movesOf_74 (by decide) rfl (by decide) (q_c1d rfl) ?_
                refine A_eq (ls2 := [some (.ref (q_h G + 279)), some (.int (nI (p))), some (.int (q_b (w))), some (.int (nI ((s_tot g) ^^^ (s_pv g p 0 0)))), some (.int (nI (m2))), some (.int (nI (k))), some (.int (nI (l + 1)))]) (st2 := []) (pc2 := 0) rfl rfl ?_
                refine A_goto (tgt := 32) hg dX11_movesOf_77 (by decide) ?_
                exact ih32 (l + 1) m2 (by omega) (by rw [hm2, s_cnt_f (by first | exact s_ok_f1 c51 | exact s_ok_f2 c55 c68)]) (by omega)
              · skip
                refine A_iload_n hg dX11_movesOf_54 rfl rfl ?_
                refine A_if_eqB (tgt := 71) hg dX11_movesOf_55 (by decide) (fun c55 => ?_) (fun c55 => ?_)
                · skip
                  refine A_iincN (k' := 1) hg dX11_movesOf_71 (by decide) rfl (by decide) (q_c1d rfl) ?_
                  refine A_eq (ls2 := [some (.ref (q_h G + 279)), some (.int (nI (p))), some (.int (q_b (w))), some (.int (nI ((s_tot g) ^^^ (s_pv g p 0 0)))), some (.int (nI (m2 + 1))), some (.int (nI (k))), some (.int (nI (l)))]) (st2 := []) (pc2 := 0) rfl rfl ?_
                  refine A_iincN (k' := 1) hg dX11_movesOf_74 (by decide) rfl (by decide) (q_c1d rfl) ?_
                  refine A_eq (ls2 := [some (.ref (q_h G + 279)), some (.int (nI (p))), some (.int (q_b (w))), some (.int (nI ((s_tot g) ^^^ (s_pv g p 0 0)))), some (.int (nI (m2 + 1))), some (.int (nI (k))), some (.int (nI (l + 1)))]) (st2 := []) (pc2 := 0) rfl rfl ?_
                  refine A_goto (tgt := 32) hg dX11_movesOf_77 (by decide) ?_
                  exact ih32 (l + 1) (m2 + 1) (by omega) (by rw [hm2, s_cnt_t (s_ok_t c51 (by first | exact Or.inl c55 | exact Or.inr c68))]; omega) (by omega)
                · skip
                  refine A_aload_n hg dX11_movesOf_58 rfl rfl ?_
                  refine A_iload_n hg dX11_movesOf_59 rfl rfl ?_
                  refine A_iload hg dX11_movesOf_60 rfl ?_
                  refine A_iload hg dX11_movesOf_62 rfl ?_
                  refine A_eV (kc2 := 0) (ks2 := 0) (As := [.int (nI (p)), .int (nI (k)), .int (nI (l))]) (rest := []) hg lk_RX11_197 in_X11_valueLess se_X11_valueLess rfl dX11_movesOf_64 ⟨by decide, by decide⟩ rfl rfl ⟨by decide, by decide⟩ hc0 (by omega) rfl rfl (Nat.le_of_ble_eq_true rfl) (c_X11_valueLess G ex n σ F g va p k l hc0 hc1 hc2 (by omega) hg9 (by omega) hCV (by omega) (by omega)) ?_
                  refine A_iload_n hg dX11_movesOf_67 rfl rfl ?_
                  refine A_icmp_neN (tgt := 74) hg dX11_movesOf_68 (by omega) (by omega) (by decide) (fun c68 => ?_) (fun c68 => ?_)
                  · skip
                    refine A_iincN (k' := 1) hg dX11_movesOf_74 (by decide) rfl (by decide) (q_c1d rfl) ?_
                    refine A_eq (ls2 := [some (.ref (q_h G + 279)), some (.int (nI (p))), some (.int (q_b (w))), some (.int (nI ((s_tot g) ^^^ (s_pv g p 0 0)))), some (.int (nI (m2))), some (.int (nI (k))), some (.int (nI (l + 1)))]) (st2 := []) (pc2 := 0) rfl rfl ?_
                    refine A_goto (tgt := 32) hg dX11_movesOf_77 (by decide) ?_
                    exact ih32 (l + 1) m2 (by omega) (by rw [hm2, s_cnt_f (by first | exact s_ok_f1 c51 | exact s_ok_f2 c55 c68)]) (by omega)
                  · skip
                    refine A_iincN (k' := 1) hg dX11_movesOf_71 (by decide) rfl (by decide) (q_c1d rfl) ?_
                    refine A_eq (ls2 := [some (.ref (q_h G + 279)), some (.int (nI (p))), some (.int (q_b (w))), some (.int (nI ((s_tot g) ^^^ (s_pv g p 0 0)))), some (.int (nI (m2 + 1))), some (.int (nI (k))), some (.int (nI (l)))]) (st2 := []) (pc2 := 0) rfl rfl ?_
                    refine A_iincN (k' := 1) hg dX11_movesOf_74 (by decide) rfl (by decide) (q_c1d rfl) ?_
                    refine A_eq (ls2 := [some (.ref (q_h G + 279)), some (.int (nI (p))), some (.int (q_b (w))), some (.int (nI ((s_tot g) ^^^ (s_pv g p 0 0)))), some (.int (nI (m2 + 1))), some (.int (nI (k))), some (.int (nI (l + 1)))]) (st2 := []) (pc2 := 0) rfl rfl ?_
                    refine A_goto (tgt := 32) hg dX11_movesOf_77 (by decide) ?_
                    exact ih32 (l + 1) (m2 + 1) (by omega) (by rw [hm2, s_cnt_t (s_ok_t c51 (by first | exact Or.inl c55 | exact Or.inr c68))]; omega) (by omega)
        exact hL32 _ 0 m (by omega) (by rw [hm]; rfl) (Nat.lt_succ_self _)
  exact hL19 _ 0 0 (by omega) rfl (Nat.lt_succ_self _)
set_option maxRecDepth 100000 in
set_option maxHeartbeats 4000000 in
theorem c_X11_allMoves (G : GL) (ex : Bool) (n : Nat) (σ : Nat → va_E) (F : Nat → Int32) (g : Nat → Nat) (va : Nat → Nat) (w : Bool) (hc0 : σ 279 = o11 G F) (hc1 : σ 280 = q_an G 265 g) (hc2 : σ 289 = q_an G 6724 va) (hn : 294 ≤ n) (hg9 : s_gwf g) (hCV : ∀ r : Nat, r < g 0 → ∀ q : Nat, q < 1681 → va (1681 * r + q) = s_V (s_rule g r) q) : Ct G yX11_allMoves cX11_allMoves 4 (some .int) ⟨5, 0, 0, 119⟩ [.ref (q_h G + 279), .int (q_b (w))] ex n σ (fun v9 σ2 => σ2 = σ ∧ v9 = some (.int (nI (s_ms g w (s_np g))))) := by
  refine q_enter [some (.ref (q_h G + 279)), some (.int (q_b (w))), none, none] (by decide) (Nat.le_of_ble_eq_true rfl) rfl ?_
  intro K hg
  obtain ⟨Q, hQ⟩ : ∃ Q, Q = q_Q G K ex n 0 0 (fun v9 n' σ' => n' = n ∧ (fun v9 σ2 => σ2 = σ ∧ v9 = some (.int (nI (s_ms g w (s_np g))))) v9 σ') q_noX := ⟨_, rfl⟩
  refine (?_ : AJ G K (q_Q G K ex n 0 0 _ _) 0 0 ex n 0 _ _ σ)
  rw [← hQ]
  have hnp := s_np_le hg9
  refine A_iconst (v := (nI (0))) hg dX11_allMoves_0 (by decide) ?_
  refine A_istore_n hg dX11_allMoves_1 rfl (by decide) (q_c1d rfl) ?_
  refine A_eq (ls2 := [some (.ref (q_h G + 279)), some (.int (q_b (w))), some (.int (nI (0))), none]) (st2 := []) (pc2 := 0) rfl rfl ?_
  refine A_iconst (v := (nI (0))) hg dX11_allMoves_2 (by decide) ?_
  refine A_istore_n hg dX11_allMoves_3 rfl (by decide) (q_c1d rfl) ?_
  refine A_eq (ls2 := [some (.ref (q_h G + 279)), some (.int (q_b (w))), some (.int (nI (0))), some (.int (nI (0)))]) (st2 := []) (pc2 := 0) rfl rfl ?_
  have hL4 : ∀ (fu : Nat) (p : Nat) (m : Nat), (p ≤ s_np g) → (m = s_ms g w p) → (s_np g - p) < fu → AJ G K Q 0 0 ex n 4 [some (.ref (q_h G + 279)), some (.int (q_b (w))), some (.int (nI (m))), some (.int (nI (p)))] [] σ := by
    intro fu
    induction fu with
    | zero => intro p m hp hm hm; exact absurd hm (Nat.not_lt_zero _)
    | succ fu ih4 =>
      intro p m hp hm hm4
      refine A_iload_n hg dX11_allMoves_4 rfl rfl ?_
      refine A_aload_n hg dX11_allMoves_5 rfl rfl ?_
      refine A_eV (kc2 := 0) (ks2 := 0) (As := []) (rest := [.int (nI (p))]) hg lk_RX11_179 in_X11_parts se_X11_parts rfl dX11_allMoves_6 ⟨by decide, by decide⟩ rfl rfl ⟨by decide, by decide⟩ hc0 (by omega) rfl rfl (Nat.le_of_ble_eq_true rfl) (c_X11_parts G ex n σ F g hc0 hc1 (by omega)) ?_
      refine A_icmp_geN (tgt := 27) hg dX11_allMoves_9 (by omega) (by omega) (by decide) (fun c9 => ?_) (fun c9 => ?_)
      · skip
        refine A_iload_n hg dX11_allMoves_27 rfl rfl ?_
        rw [hQ]
        exact A_ireturn hg (by decide) (by decide) rfl dX11_allMoves_28 ⟨rfl, ⟨rfl, (by rw [hm, show p = s_np g by omega])⟩⟩
      · skip
        refine A_iload_n hg dX11_allMoves_12 rfl rfl ?_
        refine A_aload_n hg dX11_allMoves_13 rfl rfl ?_
        refine A_iload_n hg dX11_allMoves_14 rfl rfl ?_
        refine A_iload_n hg dX11_allMoves_15 rfl rfl ?_
        refine A_eV (kc2 := 0) (ks2 := 0) (As := [.int (nI (p)), .int (q_b (w))]) (rest := [.int (nI (m))]) hg lk_RX11_212 in_X11_movesOf se_X11_movesOf rfl dX11_allMoves_16 ⟨by decide, by decide⟩ rfl rfl ⟨by decide, by decide⟩ hc0 (by omega) rfl rfl (Nat.le_of_ble_eq_true rfl) (c_X11_movesOf G ex n σ F g va p w hc0 hc1 hc2 (by omega) hg9 (by omega) hCV) ?_
        refine A_iaddN hg dX11_allMoves_19 ?_
        refine A_istore_n hg dX11_allMoves_20 rfl (by decide) (q_c1d rfl) ?_
        refine A_eq (ls2 := [some (.ref (q_h G + 279)), some (.int (q_b (w))), some (.int (nI (m + (s_mvs g p w)))), some (.int (nI (p)))]) (st2 := []) (pc2 := 0) rfl rfl ?_
        refine A_iincN (k' := 1) hg dX11_allMoves_21 (by decide) rfl (by decide) (q_c1d rfl) ?_
        refine A_eq (ls2 := [some (.ref (q_h G + 279)), some (.int (q_b (w))), some (.int (nI (m + (s_mvs g p w)))), some (.int (nI (p + 1)))]) (st2 := []) (pc2 := 0) rfl rfl ?_
        refine A_goto (tgt := 4) hg dX11_allMoves_24 (by decide) ?_
        exact ih4 (p + 1) (m + (s_mvs g p w)) (by omega) (by rw [hm]; rfl) (by omega)
  exact hL4 _ 0 0 (by omega) rfl (Nat.lt_succ_self _)
set_option maxRecDepth 100000 in
set_option maxHeartbeats 4000000 in
theorem c_X11_findsOn (G : GL) (ex : Bool) (n : Nat) (σ : Nat → va_E) (F : Nat → Int32) (g : Nat → Nat) (va : Nat → Nat) (p : Nat) (w : Bool) (hc0 : σ 279 = o11 G F) (hc1 : σ 280 = q_an G 265 g) (hc2 : σ 289 = q_an G 6724 va) (hn : 294 ≤ n) (hg9 : s_gwf g) (hp : p < s_np g) (hCV : ∀ r : Nat, r < g 0 → ∀ q : Nat, q < 1681 → va (1681 * r + q) = s_V (s_rule g r) q) : Ct G yX11_findsOn cX11_findsOn 6 (some .boolean) ⟨4, 0, 0, 93⟩ [.ref (q_h G + 279), .int (nI (p)), .int (q_b (w))] ex n σ (fun v9 σ2 => (v9 = some (.int (nI (1))) ∧ (s_has g w p = true) ∧ σ2 279 = o11 G (upd (upd (upd F 17 (nI (p))) 18 (nI (s_k1 g w p))) 19 (nI (s_l1 g w p))) ∧ (∀ i : Nat, i ≠ 279 → σ2 i = σ i)) ∨ (v9 = some (.int (nI (0))) ∧ (s_has g w p = false) ∧ σ2 = σ)) := by
  refine q_enter [some (.ref (q_h G + 279)), some (.int (nI (p))), some (.int (q_b (w))), none, none, none] (by decide) (Nat.le_of_ble_eq_true rfl) rfl ?_
  intro K hg
  obtain ⟨Q, hQ⟩ : ∃ Q, Q = q_Q G K ex n 0 0 (fun v9 n' σ' => n' = n ∧ (fun v9 σ2 => (v9 = some (.int (nI (1))) ∧ (s_has g w p = true) ∧ σ2 279 = o11 G (upd (upd (upd F 17 (nI (p))) 18 (nI (s_k1 g w p))) 19 (nI (s_l1 g w p))) ∧ (∀ i : Nat, i ≠ 279 → σ2 i = σ i)) ∨ (v9 = some (.int (nI (0))) ∧ (s_has g w p = false) ∧ σ2 = σ)) v9 σ') q_noX := ⟨_, rfl⟩
  refine (?_ : AJ G K (q_Q G K ex n 0 0 _ _) 0 0 ex n 0 _ _ σ)
  rw [← hQ]
  have hnp := s_np_le hg9
  have hg1 : g 1 ≤ 4 := hg9.2.1
  have hg2 : g 2 ≤ 4 := hg9.2.2.1
  have hsp : s_np g = g 1 + g 2 := rfl
  have hbd := hg9.2.2.2.2.2.2.1 p
  have hsk := hg9.2.2.2.2.2.2.2 (p - g 1)
  have hpt := s_part hg9 hp
  have hrs := s_rest_lt hg9 hp
  refine A_aload_n hg dX11_findsOn_0 rfl rfl ?_
  refine A_eV (kc2 := 0) (ks2 := 0) (As := []) (rest := []) hg lk_RX11_206 in_X11_total se_X11_total rfl dX11_findsOn_1 ⟨by decide, by decide⟩ rfl rfl ⟨by decide, by decide⟩ hc0 (by omega) rfl rfl (Nat.le_of_ble_eq_true rfl) (c_X11_total G ex n σ F g va hc0 hc1 hc2 (by omega) hg9 hCV) ?_
  refine A_aload_n hg dX11_findsOn_4 rfl rfl ?_
  refine A_iload_n hg dX11_findsOn_5 rfl rfl ?_
  refine A_iconst (v := (nI (0))) hg dX11_findsOn_6 (by decide) ?_
  refine A_iconst (v := (nI (0))) hg dX11_findsOn_7 (by decide) ?_
  refine A_eV (kc2 := 0) (ks2 := 0) (As := [.int (nI (p)), .int (nI (0)), .int (nI (0))]) (rest := [.int (nI (s_tot g))]) hg lk_RX11_197 in_X11_valueLess se_X11_valueLess rfl dX11_findsOn_8 ⟨by decide, by decide⟩ rfl rfl ⟨by decide, by decide⟩ hc0 (by omega) rfl rfl (Nat.le_of_ble_eq_true rfl) (c_X11_valueLess G ex n σ F g va p 0 0 hc0 hc1 hc2 (by omega) hg9 (by omega) hCV (by omega) (by omega)) ?_
  refine A_ixorN hg dX11_findsOn_11 ?_
  refine A_istore_n hg dX11_findsOn_12 rfl (by decide) (q_c1d rfl) ?_
  refine A_eq (ls2 := [some (.ref (q_h G + 279)), some (.int (nI (p))), some (.int (q_b (w))), some (.int (nI ((s_tot g) ^^^ (s_pv g p 0 0)))), none, none]) (st2 := []) (pc2 := 0) rfl rfl ?_
  refine A_iconst (v := (nI (0))) hg dX11_findsOn_13 (by decide) ?_
  refine A_istore hg dX11_findsOn_14 (by decide) (q_c1d rfl) ?_
  refine A_eq (ls2 := [some (.ref (q_h G + 279)), some (.int (nI (p))), some (.int (q_b (w))), some (.int (nI ((s_tot g) ^^^ (s_pv g p 0 0)))), some (.int (nI (0))), none]) (st2 := []) (pc2 := 0) rfl rfl ?_
  have hL16 : ∀ (fu : Nat) (k : Nat), (k ≤ s_x g p + 1) → (∀ k' : Nat, k' < k → s_any (s_ok g p w k') (s_y g p + 1) = false) → (s_x g p + 1 - k) < fu → AJ G K Q 0 0 ex n 16 [some (.ref (q_h G + 279)), some (.int (nI (p))), some (.int (q_b (w))), some (.int (nI ((s_tot g) ^^^ (s_pv g p 0 0)))), some (.int (nI (k))), none] [] σ := by
    intro fu
    induction fu with
    | zero => intro k hk hno hm; exact absurd hm (Nat.not_lt_zero _)
    | succ fu ih16 =>
      intro k hk hno hm16
      refine A_iload hg dX11_findsOn_16 rfl ?_
      refine A_aload_n hg dX11_findsOn_18 rfl rfl ?_
      refine A_iload_n hg dX11_findsOn_19 rfl rfl ?_
      refine A_eV (kc2 := 0) (ks2 := 0) (As := [.int (nI (p))]) (rest := [.int (nI (k))]) hg lk_RX11_200 in_X11_firstHeap se_X11_firstHeap rfl dX11_findsOn_20 ⟨by decide, by decide⟩ rfl rfl ⟨by decide, by decide⟩ hc0 (by omega) rfl rfl (Nat.le_of_ble_eq_true rfl) (c_X11_firstHeap G ex n σ F g p hc0 hc1 (by omega) hg9 (by omega)) ?_
      refine A_icmp_gtN (tgt := 102) hg dX11_findsOn_23 (by omega) (by omega) (by decide) (fun c23 => ?_) (fun c23 => ?_)
      · skip
        refine A_iconst (v := (nI (0))) hg dX11_findsOn_102 (by decide) ?_
        rw [hQ]
        exact A_zreturn hg (by decide) (by decide) rfl rfl dX11_findsOn_103 ⟨rfl, Or.inr ((⟨rfl, (s_any_f (fun j hj => hno j (by omega))), rfl⟩))⟩
      · skip
        refine A_iconst (v := (nI (0))) hg dX11_findsOn_26 (by decide) ?_
        refine A_istore hg dX11_findsOn_27 (by decide) (q_c1d rfl) ?_
        refine A_eq (ls2 := [some (.ref (q_h G + 279)), some (.int (nI (p))), some (.int (q_b (w))), some (.int (nI ((s_tot g) ^^^ (s_pv g p 0 0)))), some (.int (nI (k))), some (.int (nI (0)))]) (st2 := []) (pc2 := 0) rfl rfl ?_
        have hL29 : ∀ (fu : Nat) (l : Nat), (l ≤ s_y g p + 1) → (∀ l' : Nat, l' < l → s_ok g p w k l' = false) → (s_y g p + 1 - l) < fu → AJ G K Q 0 0 ex n 29 [some (.ref (q_h G + 279)), some (.int (nI (p))), some (.int (q_b (w))), some (.int (nI ((s_tot g) ^^^ (s_pv g p 0 0)))), some (.int (nI (k))), some (.int (nI (l)))] [] σ := by
          intro fu
          induction fu with
          | zero => intro l hl hno2 hm; exact absurd hm (Nat.not_lt_zero _)
          | succ fu ih29 =>
            intro l hl hno2 hm29
            have hrl := s_ref_le g p k l
            have hvl := s_pv_lt hg9 hp k l
            refine A_iload hg dX11_findsOn_29 rfl ?_
            refine A_aload_n hg dX11_findsOn_31 rfl rfl ?_
            refine A_iload_n hg dX11_findsOn_32 rfl rfl ?_
            refine A_eV (kc2 := 0) (ks2 := 0) (As := [.int (nI (p))]) (rest := [.int (nI (l))]) hg lk_RX11_203 in_X11_secondHeap se_X11_secondHeap rfl dX11_findsOn_33 ⟨by decide, by decide⟩ rfl rfl ⟨by decide, by decide⟩ hc0 (by omega) rfl rfl (Nat.le_of_ble_eq_true rfl) (c_X11_secondHeap G ex n σ F g p hc0 hc1 (by omega) hg9 (by omega)) ?_
            refine A_icmp_gtN (tgt := 96) hg dX11_findsOn_36 (by omega) (by omega) (by decide) (fun c36 => ?_) (fun c36 => ?_)
            · skip
              refine A_iincN (k' := 1) hg dX11_findsOn_96 (by decide) rfl (by decide) (q_c1d rfl) ?_
              refine A_eq (ls2 := [some (.ref (q_h G + 279)), some (.int (nI (p))), some (.int (q_b (w))), some (.int (nI ((s_tot g) ^^^ (s_pv g p 0 0)))), some (.int (nI (k + 1))), some (.int (nI (l)))]) (st2 := []) (pc2 := 0) rfl rfl ?_
              refine A_goto (tgt := 16) hg dX11_findsOn_99 (by decide) ?_
              refine A_drop 5 ?_
              exact ih16 (k + 1) (by omega) (lt_s hno (s_any_f (fun j hj => hno2 j (by omega)))) (by omega)
            · skip
              refine A_iload_n hg dX11_findsOn_39 rfl rfl ?_
              refine A_if_eqB (tgt := 56) hg dX11_findsOn_40 (by decide) (fun c40 => ?_) (fun c40 => ?_)
              · skip
                refine A_aload_n hg dX11_findsOn_56 rfl rfl ?_
                refine A_iload_n hg dX11_findsOn_57 rfl rfl ?_
                refine A_iload hg dX11_findsOn_58 rfl ?_
                refine A_iload hg dX11_findsOn_60 rfl ?_
                refine A_eV (kc2 := 0) (ks2 := 0) (As := [.int (nI (p)), .int (nI (k)), .int (nI (l))]) (rest := []) hg lk_RX11_209 in_X11_refusal se_X11_refusal rfl dX11_findsOn_62 ⟨by decide, by decide⟩ rfl rfl ⟨by decide, by decide⟩ hc0 (by omega) rfl rfl (Nat.le_of_ble_eq_true rfl) (c_X11_refusal G ex n σ F g p k l hc0 hc1 (by omega) hg9 (by omega) (by omega) (by omega)) ?_
                refine A_if_eqN (tgt := 71) hg dX11_findsOn_65 (by omega) (by decide) (fun c65 => ?_) (fun c65 => ?_)
                · skip
                  refine A_aload_n hg dX11_findsOn_71 rfl rfl ?_
                  refine A_iload_n hg dX11_findsOn_72 rfl rfl ?_
                  refine A_putf hg fl_RX11_216 dX11_findsOn_73 hc0 (by omega) (Nat.le_of_ble_eq_true rfl) rfl rfl rfl (fun σ_1 hc_2 hf_3 => ?_)
                  have hc_2 : σ_1 279 = o11 G (upd F 17 (nI (p))) := hc_2
                  have hc_4 : σ_1 280 = q_an G 265 g := (hf_3 _ (by omega)).trans hc1
                  have hc_5 : σ_1 289 = q_an G 6724 va := (hf_3 _ (by omega)).trans hc2
                  refine A_aload_n hg dX11_findsOn_76 rfl rfl ?_
                  refine A_iload hg dX11_findsOn_77 rfl ?_
                  refine A_putf hg fl_RX11_219 dX11_findsOn_79 hc_2 (by omega) (Nat.le_of_ble_eq_true rfl) rfl rfl rfl (fun σ_6 hc_7 hf_8 => ?_)
                  have hc_7 : σ_6 279 = o11 G (upd (upd F 17 (nI (p))) 18 (nI (k))) := hc_7
                  have hc_9 : σ_6 280 = q_an G 265 g := (hf_8 _ (by omega)).trans hc_4
                  have hc_10 : σ_6 289 = q_an G 6724 va := (hf_8 _ (by omega)).trans hc_5
                  refine A_aload_n hg dX11_findsOn_82 rfl rfl ?_
                  refine A_iload hg dX11_findsOn_83 rfl ?_
                  refine A_putf hg fl_RX11_222 dX11_findsOn_85 hc_7 (by omega) (Nat.le_of_ble_eq_true rfl) rfl rfl rfl (fun σ_11 hc_12 hf_13 => ?_)
                  have hc_12 : σ_11 279 = o11 G (upd (upd (upd F 17 (nI (p))) 18 (nI (k))) 19 (nI (l))) := hc_12
                  have hc_14 : σ_11 280 = q_an G 265 g := (hf_13 _ (by omega)).trans hc_9
                  have hc_15 : σ_11 289 = q_an G 6724 va := (hf_13 _ (by omega)).trans hc_10
                  refine A_iconst (v := (nI (1))) hg dX11_findsOn_88 (by decide) ?_
                  have hfe := s_fk_eq (P := s_ok g p w) (K := s_x g p + 1) (L := s_y g p + 1) (k := k) (l := l) (by omega) (by omega) (s_ok_t c65 (by first | exact Or.inl c40 | exact Or.inr c53)) hno hno2
                  have hk1 : s_k1 g w p = k := hfe.1
                  have hl1 : s_l1 g w p = l := hfe.2
                  have hz : σ_11 279 = o11 G (upd (upd (upd F 17 (nI (p))) 18 (nI (s_k1 g w p))) 19 (nI (s_l1 g w p))) := by rw [hk1, hl1]; exact hc_12
                  rw [hQ]
                  exact A_zreturn hg (by decide) (by decide) rfl rfl dX11_findsOn_89 ⟨rfl, Or.inl (⟨rfl, (s_any_t (k := k) (by omega) (s_any_t (k := l) (by omega) (s_ok_t c65 (by first | exact Or.inl c40 | exact Or.inr c53)))), hz, (fun i hi => ((hf_13 i (by omega)).trans ((hf_8 i (by omega)).trans (hf_3 i (by omega)))))⟩)⟩
                · skip
                  refine A_goto (tgt := 90) hg dX11_findsOn_68 (by decide) ?_
                  refine A_iincN (k' := 1) hg dX11_findsOn_90 (by decide) rfl (by decide) (q_c1d rfl) ?_
                  refine A_eq (ls2 := [some (.ref (q_h G + 279)), some (.int (nI (p))), some (.int (q_b (w))), some (.int (nI ((s_tot g) ^^^ (s_pv g p 0 0)))), some (.int (nI (k))), some (.int (nI (l + 1)))]) (st2 := []) (pc2 := 0) rfl rfl ?_
                  refine A_goto (tgt := 29) hg dX11_findsOn_93 (by decide) ?_
                  exact ih29 (l + 1) (by omega) (lt_s hno2 (by first | exact s_ok_f1 c65 | exact s_ok_f2 c40 c53)) (by omega)
              · skip
                refine A_aload_n hg dX11_findsOn_43 rfl rfl ?_
                refine A_iload_n hg dX11_findsOn_44 rfl rfl ?_
                refine A_iload hg dX11_findsOn_45 rfl ?_
                refine A_iload hg dX11_findsOn_47 rfl ?_
                refine A_eV (kc2 := 0) (ks2 := 0) (As := [.int (nI (p)), .int (nI (k)), .int (nI (l))]) (rest := []) hg lk_RX11_197 in_X11_valueLess se_X11_valueLess rfl dX11_findsOn_49 ⟨by decide, by decide⟩ rfl rfl ⟨by decide, by decide⟩ hc0 (by omega) rfl rfl (Nat.le_of_ble_eq_true rfl) (c_X11_valueLess G ex n σ F g va p k l hc0 hc1 hc2 (by omega) hg9 (by omega) hCV (by omega) (by omega)) ?_
                refine A_iload_n hg dX11_findsOn_52 rfl rfl ?_
                refine A_icmp_neN (tgt := 90) hg dX11_findsOn_53 (by omega) (by omega) (by decide) (fun c53 => ?_) (fun c53 => ?_)
                · skip
                  refine A_iincN (k' := 1) hg dX11_findsOn_90 (by decide) rfl (by decide) (q_c1d rfl) ?_
                  refine A_eq (ls2 := [some (.ref (q_h G + 279)), some (.int (nI (p))), some (.int (q_b (w))), some (.int (nI ((s_tot g) ^^^ (s_pv g p 0 0)))), some (.int (nI (k))), some (.int (nI (l + 1)))]) (st2 := []) (pc2 := 0) rfl rfl ?_
                  refine A_goto (tgt := 29) hg dX11_findsOn_93 (by decide) ?_
                  exact ih29 (l + 1) (by omega) (lt_s hno2 (by first | exact s_ok_f1 c65 | exact s_ok_f2 c40 c53)) (by omega)
                · skip
                  refine A_aload_n hg dX11_findsOn_56 rfl rfl ?_
                  refine A_iload_n hg dX11_findsOn_57 rfl rfl ?_
                  refine A_iload hg dX11_findsOn_58 rfl ?_
                  refine A_iload hg dX11_findsOn_60 rfl ?_
                  refine A_eV (kc2 := 0) (ks2 := 0) (As := [.int (nI (p)), .int (nI (k)), .int (nI (l))]) (rest := []) hg lk_RX11_209 in_X11_refusal se_X11_refusal rfl dX11_findsOn_62 ⟨by decide, by decide⟩ rfl rfl ⟨by decide, by decide⟩ hc0 (by omega) rfl rfl (Nat.le_of_ble_eq_true rfl) (c_X11_refusal G ex n σ F g p k l hc0 hc1 (by omega) hg9 (by omega) (by omega) (by omega)) ?_
                  refine A_if_eqN (tgt := 71) hg dX11_findsOn_65 (by omega) (by decide) (fun c65 => ?_) (fun c65 => ?_)
                  · skip
                    refine A_aload_n hg dX11_findsOn_71 rfl rfl ?_
                    refine A_iload_n hg dX11_findsOn_72 rfl rfl ?_
                    refine A_putf hg fl_RX11_216 dX11_findsOn_73 hc0 (by omega) (Nat.le_of_ble_eq_true rfl) rfl rfl rfl (fun σ_16 hc_17 hf_18 => ?_)
                    have hc_17 : σ_16 279 = o11 G (upd F 17 (nI (p))) := hc_17
                    have hc_19 : σ_16 280 = q_an G 265 g := (hf_18 _ (by omega)).trans hc1
                    have hc_20 : σ_16 289 = q_an G 6724 va := (hf_18 _ (by omega)).trans hc2
                    refine A_aload_n hg dX11_findsOn_76 rfl rfl ?_
                    refine A_iload hg dX11_findsOn_77 rfl ?_
                    refine A_putf hg fl_RX11_219 dX11_findsOn_79 hc_17 (by omega) (Nat.le_of_ble_eq_true rfl) rfl rfl rfl (fun σ_21 hc_22 hf_23 => ?_)
                    have hc_22 : σ_21 279 = o11 G (upd (upd F 17 (nI (p))) 18 (nI (k))) := hc_22
                    have hc_24 : σ_21 280 = q_an G 265 g := (hf_23 _ (by omega)).trans hc_19
                    have hc_25 : σ_21 289 = q_an G 6724 va := (hf_23 _ (by omega)).trans hc_20
                    refine A_aload_n hg dX11_findsOn_82 rfl rfl ?_
                    refine A_iload hg dX11_findsOn_83 rfl ?_
                    refine A_putf hg fl_RX11_222 dX11_findsOn_85 hc_22 (by omega) (Nat.le_of_ble_eq_true rfl) rfl rfl rfl (fun σ_26 hc_27 hf_28 => ?_)
                    have hc_27 : σ_26 279 = o11 G (upd (upd (upd F 17 (nI (p))) 18 (nI (k))) 19 (nI (l))) := hc_27
                    have hc_29 : σ_26 280 = q_an G 265 g := (hf_28 _ (by omega)).trans hc_24
                    have hc_30 : σ_26 289 = q_an G 6724 va := (hf_28 _ (by omega)).trans hc_25
                    refine A_iconst (v := (nI (1))) hg dX11_findsOn_88 (by decide) ?_
                    have hfe := s_fk_eq (P := s_ok g p w) (K := s_x g p + 1) (L := s_y g p + 1) (k := k) (l := l) (by omega) (by omega) (s_ok_t c65 (by first | exact Or.inl c40 | exact Or.inr c53)) hno hno2
                    have hk1 : s_k1 g w p = k := hfe.1
                    have hl1 : s_l1 g w p = l := hfe.2
                    have hz : σ_26 279 = o11 G (upd (upd (upd F 17 (nI (p))) 18 (nI (s_k1 g w p))) 19 (nI (s_l1 g w p))) := by rw [hk1, hl1]; exact hc_27
                    rw [hQ]
                    exact A_zreturn hg (by decide) (by decide) rfl rfl dX11_findsOn_89 ⟨rfl, Or.inl (⟨rfl, (s_any_t (k := k) (by omega) (s_any_t (k := l) (by omega) (s_ok_t c65 (by first | exact Or.inl c40 | exact Or.inr c53)))), hz, (fun i hi => ((hf_28 i (by omega)).trans ((hf_23 i (by omega)).trans (hf_18 i (by omega)))))⟩)⟩
                  · skip
                    refine A_goto (tgt := 90) hg dX11_findsOn_68 (by decide) ?_
                    refine A_iincN (k' := 1) hg dX11_findsOn_90 (by decide) rfl (by decide) (q_c1d rfl) ?_
                    refine A_eq (ls2 := [some (.ref (q_h G + 279)), some (.int (nI (p))), some (.int (q_b (w))), some (.int (nI ((s_tot g) ^^^ (s_pv g p 0 0)))), some (.int (nI (k))), some (.int (nI (l + 1)))]) (st2 := []) (pc2 := 0) rfl rfl ?_
                    refine A_goto (tgt := 29) hg dX11_findsOn_93 (by decide) ?_
                    exact ih29 (l + 1) (by omega) (lt_s hno2 (by first | exact s_ok_f1 c65 | exact s_ok_f2 c40 c53)) (by omega)
        exact hL29 _ 0 (by omega) (fun j h => absurd h (Nat.not_lt_zero j)) (Nat.lt_succ_self _)
  exact hL16 _ 0 (by omega) (fun j h => absurd h (Nat.not_lt_zero j)) (Nat.lt_succ_self _)
set_option maxRecDepth 100000 in
set_option maxHeartbeats 4000000 in
theorem c_X11_finds (G : GL) (ex : Bool) (n : Nat) (σ : Nat → va_E) (F : Nat → Int32) (g : Nat → Nat) (va : Nat → Nat) (w : Bool) (hc0 : σ 279 = o11 G F) (hc1 : σ 280 = q_an G 265 g) (hc2 : σ 289 = q_an G 6724 va) (hn : 294 ≤ n) (hg9 : s_gwf g) (hCV : ∀ r : Nat, r < g 0 → ∀ q : Nat, q < 1681 → va (1681 * r + q) = s_V (s_rule g r) q) : Ct G yX11_finds cX11_finds 3 (some .boolean) ⟨5, 0, 0, 118⟩ [.ref (q_h G + 279), .int (q_b (w))] ex n σ (fun v9 σ2 => (v9 = some (.int (nI (1))) ∧ (s_hasAny g w = true) ∧ σ2 279 = o11 G (upd (upd (upd F 17 (nI (s_p1 g w))) 18 (nI (s_k1 g w (s_p1 g w)))) 19 (nI (s_l1 g w (s_p1 g w)))) ∧ (∀ i : Nat, i ≠ 279 → σ2 i = σ i)) ∨ (v9 = some (.int (nI (0))) ∧ (s_hasAny g w = false) ∧ σ2 = σ)) := by
  refine q_enter [some (.ref (q_h G + 279)), some (.int (q_b (w))), none] (by decide) (Nat.le_of_ble_eq_true rfl) rfl ?_
  intro K hg
  obtain ⟨Q, hQ⟩ : ∃ Q, Q = q_Q G K ex n 0 0 (fun v9 n' σ' => n' = n ∧ (fun v9 σ2 => (v9 = some (.int (nI (1))) ∧ (s_hasAny g w = true) ∧ σ2 279 = o11 G (upd (upd (upd F 17 (nI (s_p1 g w))) 18 (nI (s_k1 g w (s_p1 g w)))) 19 (nI (s_l1 g w (s_p1 g w)))) ∧ (∀ i : Nat, i ≠ 279 → σ2 i = σ i)) ∨ (v9 = some (.int (nI (0))) ∧ (s_hasAny g w = false) ∧ σ2 = σ)) v9 σ') q_noX := ⟨_, rfl⟩
  refine (?_ : AJ G K (q_Q G K ex n 0 0 _ _) 0 0 ex n 0 _ _ σ)
  rw [← hQ]
  have hnp := s_np_le hg9
  refine A_iconst (v := (nI (0))) hg dX11_finds_0 (by decide) ?_
  refine A_istore_n hg dX11_finds_1 rfl (by decide) (q_c1d rfl) ?_
  refine A_eq (ls2 := [some (.ref (q_h G + 279)), some (.int (q_b (w))), some (.int (nI (0)))]) (st2 := []) (pc2 := 0) rfl rfl ?_
  have hL2 : ∀ (fu : Nat) (p : Nat), (p ≤ s_np g) → (∀ q : Nat, q < p → s_has g w q = false) → (s_np g - p) < fu → AJ G K Q 0 0 ex n 2 [some (.ref (q_h G + 279)), some (.int (q_b (w))), some (.int (nI (p)))] [] σ := by
    intro fu
    induction fu with
    | zero => intro p hp hno hm; exact absurd hm (Nat.not_lt_zero _)
    | succ fu ih2 =>
      intro p hp hno hm2
      refine A_iload_n hg dX11_finds_2 rfl rfl ?_
      refine A_aload_n hg dX11_finds_3 rfl rfl ?_
      refine A_eV (kc2 := 0) (ks2 := 0) (As := []) (rest := [.int (nI (p))]) hg lk_RX11_179 in_X11_parts se_X11_parts rfl dX11_finds_4 ⟨by decide, by decide⟩ rfl rfl ⟨by decide, by decide⟩ hc0 (by omega) rfl rfl (Nat.le_of_ble_eq_true rfl) (c_X11_parts G ex n σ F g hc0 hc1 (by omega)) ?_
      refine A_icmp_geN (tgt := 27) hg dX11_finds_7 (by omega) (by omega) (by decide) (fun c7 => ?_) (fun c7 => ?_)
      · skip
        refine A_iconst (v := (nI (0))) hg dX11_finds_27 (by decide) ?_
        rw [hQ]
        exact A_zreturn hg (by decide) (by decide) rfl rfl dX11_finds_28 ⟨rfl, Or.inr ((⟨rfl, (s_any_f (fun j hj => hno j (by omega))), rfl⟩))⟩
      · skip
        refine A_aload_n hg dX11_finds_10 rfl rfl ?_
        refine A_iload_n hg dX11_finds_11 rfl rfl ?_
        refine A_iload_n hg dX11_finds_12 rfl rfl ?_
        refine A_hV (kc2 := 0) (ks2 := 0) (As := [.int (nI (p)), .int (q_b (w))]) (rest := []) hg lk_RX11_225 in_X11_findsOn se_X11_findsOn rfl dX11_finds_13 ⟨by decide, by decide⟩ rfl rfl ⟨by decide, by decide⟩ hc0 (by omega) rfl rfl (Nat.le_of_ble_eq_true rfl) (c_X11_findsOn G ex n σ F g va p w hc0 hc1 hc2 (by omega) hg9 (by omega) hCV) ?_
        rintro _ σ_4 (⟨rfl, hhs, hc_1, hf_2⟩ | ⟨rfl, hhs, he_3⟩)
        · skip
          refine (?_ : AJ G K Q 0 0 ex n 16 [some (.ref (q_h G + 279)), some (.int (q_b (w))), some (.int (nI (p)))] [.int (nI (1))] σ_4)
          have hc_1 : σ_4 279 = o11 G (upd (upd (upd F 17 (nI (p))) 18 (nI (s_k1 g w p))) 19 (nI (s_l1 g w p))) := hc_1
          have hc_5 : σ_4 280 = q_an G 265 g := (hf_2 _ (by omega)).trans hc1
          have hc_6 : σ_4 289 = q_an G 6724 va := (hf_2 _ (by omega)).trans hc2
          refine A_if_eqN (tgt := 21) hg dX11_finds_16 (by decide) (by decide) (fun c16 => absurd c16 (by decide)) (fun c16 => ?_)
          refine A_iconst (v := (nI (1))) hg dX11_finds_19 (by decide) ?_
          have hp1 : s_p1 g w = p := s_first_eq (by omega) hhs hno
          have hz : σ_4 279 = o11 G (upd (upd (upd F 17 (nI (s_p1 g w))) 18 (nI (s_k1 g w (s_p1 g w)))) 19 (nI (s_l1 g w (s_p1 g w)))) := by rw [hp1]; exact hc_1
          rw [hQ]
          exact A_zreturn hg (by decide) (by decide) rfl rfl dX11_finds_20 ⟨rfl, Or.inl (⟨rfl, (s_any_t (k := p) (by omega) hhs), hz, (fun i hi => (hf_2 i (by omega)))⟩)⟩
        · skip
          rw [he_3]
          refine (?_ : AJ G K Q 0 0 ex n 16 [some (.ref (q_h G + 279)), some (.int (q_b (w))), some (.int (nI (p)))] [.int (nI (0))] σ)
          refine A_if_eqN (tgt := 21) hg dX11_finds_16 (by decide) (by decide) (fun c16 => ?_) (fun c16 => absurd (by decide) c16)
          refine A_iincN (k' := 1) hg dX11_finds_21 (by decide) rfl (by decide) (q_c1d rfl) ?_
          refine A_eq (ls2 := [some (.ref (q_h G + 279)), some (.int (q_b (w))), some (.int (nI (p + 1)))]) (st2 := []) (pc2 := 0) rfl rfl ?_
          refine A_goto (tgt := 2) hg dX11_finds_24 (by decide) ?_
          exact ih2 (p + 1) (by omega) (lt_s hno hhs) (by omega)
  exact hL2 _ 0 (by omega) (fun j h => absurd h (Nat.not_lt_zero j)) (Nat.lt_succ_self _)
set_option maxRecDepth 100000 in
set_option maxHeartbeats 4000000 in
theorem c_X11_advises (G : GL) (ex : Bool) (n : Nat) (σ : Nat → va_E) (F : Nat → Int32) (g : Nat → Nat) (va : Nat → Nat) (hc0 : σ 279 = o11 G F) (hc1 : σ 280 = q_an G 265 g) (hc2 : σ 289 = q_an G 6724 va) (hn : 294 ≤ n) (hg9 : s_gwf g) (hCV : ∀ r : Nat, r < g 0 → ∀ q : Nat, q < 1681 → va (1681 * r + q) = s_V (s_rule g r) q) : Ct G yX11_advises cX11_advises 1 (some .boolean) ⟨6, 0, 0, 140⟩ [.ref (q_h G + 279)] ex n σ (fun v9 σ2 => (v9 = some (.int (nI (1))) ∧ (s_adv g = true) ∧ σ2 279 = o11 G (upd (upd (upd F 17 (nI (s_ap g))) 18 (nI (s_ak g))) 19 (nI (s_al2 g))) ∧ (∀ i : Nat, i ≠ 279 → σ2 i = σ i)) ∨ (v9 = some (.int (nI (0))) ∧ (s_adv g = false) ∧ σ2 = σ)) := by
  refine q_enter [some (.ref (q_h G + 279))] (by decide) (Nat.le_of_ble_eq_true rfl) rfl ?_
  intro K hg
  obtain ⟨Q, hQ⟩ : ∃ Q, Q = q_Q G K ex n 0 0 (fun v9 n' σ' => n' = n ∧ (fun v9 σ2 => (v9 = some (.int (nI (1))) ∧ (s_adv g = true) ∧ σ2 279 = o11 G (upd (upd (upd F 17 (nI (s_ap g))) 18 (nI (s_ak g))) 19 (nI (s_al2 g))) ∧ (∀ i : Nat, i ≠ 279 → σ2 i = σ i)) ∨ (v9 = some (.int (nI (0))) ∧ (s_adv g = false) ∧ σ2 = σ)) v9 σ') q_noX := ⟨_, rfl⟩
  refine (?_ : AJ G K (q_Q G K ex n 0 0 _ _) 0 0 ex n 0 _ _ σ)
  rw [← hQ]
  have htl := s_tot_lt hg9
  refine A_aload_n hg dX11_advises_0 rfl rfl ?_
  refine A_eV (kc2 := 0) (ks2 := 0) (As := []) (rest := []) hg lk_RX11_206 in_X11_total se_X11_total rfl dX11_advises_1 ⟨by decide, by decide⟩ rfl rfl ⟨by decide, by decide⟩ hc0 (by omega) rfl rfl (Nat.le_of_ble_eq_true rfl) (c_X11_total G ex n σ F g va hc0 hc1 hc2 (by omega) hg9 hCV) ?_
  refine A_if_eqN (tgt := 15) hg dX11_advises_4 (by omega) (by decide) (fun c4 => ?_) (fun c4 => ?_)
  · skip
    have haw : s_aw g = false := by
      unfold s_aw
      first
      | rw [hht, Bool.and_false]
      | rw [decide_eq_false (fun z => z c4), Bool.false_and]
    refine A_aload_n hg dX11_advises_15 rfl rfl ?_
    refine A_iconst (v := (nI (0))) hg dX11_advises_16 (by decide) ?_
    refine A_hV (kc2 := 0) (ks2 := 0) (As := [.int (nI (0))]) (rest := []) hg lk_RX11_229 in_X11_finds se_X11_finds rfl dX11_advises_17 ⟨by decide, by decide⟩ rfl rfl ⟨by decide, by decide⟩ hc0 (by omega) rfl rfl (Nat.le_of_ble_eq_true rfl) (c_X11_finds G ex n σ F g va false hc0 hc1 hc2 (by omega) hg9 hCV) ?_
    rintro _ σ_4 (⟨rfl, hhw, hc_1, hf_2⟩ | ⟨rfl, hhw, he_3⟩)
    · skip
      refine (?_ : AJ G K Q 0 0 ex n 20 [some (.ref (q_h G + 279))] [.int (nI (1))] σ_4)
      have hc_1 : σ_4 279 = o11 G (upd (upd (upd F 17 (nI (s_p1 g false))) 18 (nI (s_k1 g false (s_p1 g false)))) 19 (nI (s_l1 g false (s_p1 g false)))) := hc_1
      have hc_5 : σ_4 280 = q_an G 265 g := (hf_2 _ (by omega)).trans hc1
      have hc_6 : σ_4 289 = q_an G 6724 va := (hf_2 _ (by omega)).trans hc2
      refine A_if_eqN (tgt := 27) hg dX11_advises_20 (by decide) (by decide) (fun c20 => absurd c20 (by decide)) (fun c20 => ?_)
      refine A_iconst (v := (nI (1))) hg dX11_advises_23 (by decide) ?_
      refine A_goto (tgt := 28) hg dX11_advises_24 (by decide) ?_
      have hx : s_adv g = true := by unfold s_adv; rw [haw]; exact hhw
      have hz : σ_4 279 = o11 G (upd (upd (upd F 17 (nI (s_ap g))) 18 (nI (s_ak g))) 19 (nI (s_al2 g))) := by
        unfold s_ak s_al2 s_ap; rw [haw]; exact hc_1
      rw [hQ]
      exact A_zreturn hg (by decide) (by decide) rfl rfl dX11_advises_28 ⟨rfl, Or.inl (⟨rfl, hx, hz, (fun i hi => (hf_2 i (by omega)))⟩)⟩
    · skip
      rw [he_3]
      refine (?_ : AJ G K Q 0 0 ex n 20 [some (.ref (q_h G + 279))] [.int (nI (0))] σ)
      refine A_if_eqN (tgt := 27) hg dX11_advises_20 (by decide) (by decide) (fun c20 => ?_) (fun c20 => absurd (by decide) c20)
      refine A_iconst (v := (nI (0))) hg dX11_advises_27 (by decide) ?_
      rw [hQ]
      exact A_zreturn hg (by decide) (by decide) rfl rfl dX11_advises_28 ⟨rfl, Or.inr ((⟨rfl, (by unfold s_adv; rw [haw]; exact hhw), rfl⟩))⟩
  · skip
    refine A_aload_n hg dX11_advises_7 rfl rfl ?_
    refine A_iconst (v := (nI (1))) hg dX11_advises_8 (by decide) ?_
    refine A_hV (kc2 := 0) (ks2 := 0) (As := [.int (nI (1))]) (rest := []) hg lk_RX11_229 in_X11_finds se_X11_finds rfl dX11_advises_9 ⟨by decide, by decide⟩ rfl rfl ⟨by decide, by decide⟩ hc0 (by omega) rfl rfl (Nat.le_of_ble_eq_true rfl) (c_X11_finds G ex n σ F g va true hc0 hc1 hc2 (by omega) hg9 hCV) ?_
    rintro _ σ_10 (⟨rfl, hht, hc_7, hf_8⟩ | ⟨rfl, hht, he_9⟩)
    · skip
      refine (?_ : AJ G K Q 0 0 ex n 12 [some (.ref (q_h G + 279))] [.int (nI (1))] σ_10)
      have hc_7 : σ_10 279 = o11 G (upd (upd (upd F 17 (nI (s_p1 g true))) 18 (nI (s_k1 g true (s_p1 g true)))) 19 (nI (s_l1 g true (s_p1 g true)))) := hc_7
      have hc_11 : σ_10 280 = q_an G 265 g := (hf_8 _ (by omega)).trans hc1
      have hc_12 : σ_10 289 = q_an G 6724 va := (hf_8 _ (by omega)).trans hc2
      refine A_if_neN (tgt := 23) hg dX11_advises_12 (by decide) (by decide) (fun c12 => ?_) (fun c12 => absurd c12 (by decide))
      refine A_iconst (v := (nI (1))) hg dX11_advises_23 (by decide) ?_
      refine A_goto (tgt := 28) hg dX11_advises_24 (by decide) ?_
      have haw : s_aw g = true := by unfold s_aw; rw [hht, decide_eq_true c4]; rfl
      have hx : s_adv g = true := by unfold s_adv; rw [haw]; exact hht
      have hz : σ_10 279 = o11 G (upd (upd (upd F 17 (nI (s_ap g))) 18 (nI (s_ak g))) 19 (nI (s_al2 g))) := by
        unfold s_ak s_al2 s_ap; rw [haw]; exact hc_7
      rw [hQ]
      exact A_zreturn hg (by decide) (by decide) rfl rfl dX11_advises_28 ⟨rfl, Or.inl (⟨rfl, hx, hz, (fun i hi => (hf_8 i (by omega)))⟩)⟩
    · skip
      rw [he_9]
      refine (?_ : AJ G K Q 0 0 ex n 12 [some (.ref (q_h G + 279))] [.int (nI (0))] σ)
      refine A_if_neN (tgt := 23) hg dX11_advises_12 (by decide) (by decide) (fun c12 => absurd (by decide) c12) (fun c12 => ?_)
      have haw : s_aw g = false := by
        unfold s_aw
        first
        | rw [hht, Bool.and_false]
        | rw [decide_eq_false (fun z => z c4), Bool.false_and]
      refine A_aload_n hg dX11_advises_15 rfl rfl ?_
      refine A_iconst (v := (nI (0))) hg dX11_advises_16 (by decide) ?_
      refine A_hV (kc2 := 0) (ks2 := 0) (As := [.int (nI (0))]) (rest := []) hg lk_RX11_229 in_X11_finds se_X11_finds rfl dX11_advises_17 ⟨by decide, by decide⟩ rfl rfl ⟨by decide, by decide⟩ hc0 (by omega) rfl rfl (Nat.le_of_ble_eq_true rfl) (c_X11_finds G ex n σ F g va false hc0 hc1 hc2 (by omega) hg9 hCV) ?_
      rintro _ σ_16 (⟨rfl, hhw, hc_13, hf_14⟩ | ⟨rfl, hhw, he_15⟩)
      · skip
        refine (?_ : AJ G K Q 0 0 ex n 20 [some (.ref (q_h G + 279))] [.int (nI (1))] σ_16)
        have hc_13 : σ_16 279 = o11 G (upd (upd (upd F 17 (nI (s_p1 g false))) 18 (nI (s_k1 g false (s_p1 g false)))) 19 (nI (s_l1 g false (s_p1 g false)))) := hc_13
        have hc_17 : σ_16 280 = q_an G 265 g := (hf_14 _ (by omega)).trans hc1
        have hc_18 : σ_16 289 = q_an G 6724 va := (hf_14 _ (by omega)).trans hc2
        refine A_if_eqN (tgt := 27) hg dX11_advises_20 (by decide) (by decide) (fun c20 => absurd c20 (by decide)) (fun c20 => ?_)
        refine A_iconst (v := (nI (1))) hg dX11_advises_23 (by decide) ?_
        refine A_goto (tgt := 28) hg dX11_advises_24 (by decide) ?_
        have hx : s_adv g = true := by unfold s_adv; rw [haw]; exact hhw
        have hz : σ_16 279 = o11 G (upd (upd (upd F 17 (nI (s_ap g))) 18 (nI (s_ak g))) 19 (nI (s_al2 g))) := by
          unfold s_ak s_al2 s_ap; rw [haw]; exact hc_13
        rw [hQ]
        exact A_zreturn hg (by decide) (by decide) rfl rfl dX11_advises_28 ⟨rfl, Or.inl (⟨rfl, hx, hz, (fun i hi => (hf_14 i (by omega)))⟩)⟩
      · skip
        rw [he_15]
        refine (?_ : AJ G K Q 0 0 ex n 20 [some (.ref (q_h G + 279))] [.int (nI (0))] σ)
        refine A_if_eqN (tgt := 27) hg dX11_advises_20 (by decide) (by decide) (fun c20 => ?_) (fun c20 => absurd (by decide) c20)
        refine A_iconst (v := (nI (0))) hg dX11_advises_27 (by decide) ?_
        rw [hQ]
        exact A_zreturn hg (by decide) (by decide) rfl rfl dX11_advises_28 ⟨rfl, Or.inr ((⟨rfl, (by unfold s_adv; rw [haw]; exact hhw), rfl⟩))⟩
set_option maxRecDepth 100000 in
set_option maxHeartbeats 4000000 in
theorem c_X11_isOver (G : GL) (ex : Bool) (n : Nat) (σ : Nat → va_E) (F : Nat → Int32) (g : Nat → Nat) (va : Nat → Nat) (hc0 : σ 279 = o11 G F) (hc1 : σ 280 = q_an G 265 g) (hc2 : σ 289 = q_an G 6724 va) (hn : 294 ≤ n) (hg9 : s_gwf g) (hCV : ∀ r : Nat, r < g 0 → ∀ q : Nat, q < 1681 → va (1681 * r + q) = s_V (s_rule g r) q) : Ct G yX11_isOver cX11_isOver 1 (some .boolean) ⟨6, 0, 0, 140⟩ [.ref (q_h G + 279)] ex n σ (fun v9 σ2 => (v9 = some (.int (nI (1))) ∧ (s_over g = true) ∧ σ2 = σ) ∨ (v9 = some (.int (nI (0))) ∧ (s_over g = false) ∧ σ2 279 = o11 G (upd (upd (upd F 17 (nI (s_p1 g false))) 18 (nI (s_k1 g false (s_p1 g false)))) 19 (nI (s_l1 g false (s_p1 g false)))) ∧ (∀ i : Nat, i ≠ 279 → σ2 i = σ i))) := by
  refine q_enter [some (.ref (q_h G + 279))] (by decide) (Nat.le_of_ble_eq_true rfl) rfl ?_
  intro K hg
  obtain ⟨Q, hQ⟩ : ∃ Q, Q = q_Q G K ex n 0 0 (fun v9 n' σ' => n' = n ∧ (fun v9 σ2 => (v9 = some (.int (nI (1))) ∧ (s_over g = true) ∧ σ2 = σ) ∨ (v9 = some (.int (nI (0))) ∧ (s_over g = false) ∧ σ2 279 = o11 G (upd (upd (upd F 17 (nI (s_p1 g false))) 18 (nI (s_k1 g false (s_p1 g false)))) 19 (nI (s_l1 g false (s_p1 g false)))) ∧ (∀ i : Nat, i ≠ 279 → σ2 i = σ i))) v9 σ') q_noX := ⟨_, rfl⟩
  refine (?_ : AJ G K (q_Q G K ex n 0 0 _ _) 0 0 ex n 0 _ _ σ)
  rw [← hQ]
  refine A_aload_n hg dX11_isOver_0 rfl rfl ?_
  refine A_iconst (v := (nI (0))) hg dX11_isOver_1 (by decide) ?_
  refine A_hV (kc2 := 0) (ks2 := 0) (As := [.int (nI (0))]) (rest := []) hg lk_RX11_229 in_X11_finds se_X11_finds rfl dX11_isOver_2 ⟨by decide, by decide⟩ rfl rfl ⟨by decide, by decide⟩ hc0 (by omega) rfl rfl (Nat.le_of_ble_eq_true rfl) (c_X11_finds G ex n σ F g va false hc0 hc1 hc2 (by omega) hg9 hCV) ?_
  rintro _ σ_4 (⟨rfl, hhw, hc_1, hf_2⟩ | ⟨rfl, hhw, he_3⟩)
  · skip
    refine (?_ : AJ G K Q 0 0 ex n 5 [some (.ref (q_h G + 279))] [.int (nI (1))] σ_4)
    have hc_1 : σ_4 279 = o11 G (upd (upd (upd F 17 (nI (s_p1 g false))) 18 (nI (s_k1 g false (s_p1 g false)))) 19 (nI (s_l1 g false (s_p1 g false)))) := hc_1
    have hc_5 : σ_4 280 = q_an G 265 g := (hf_2 _ (by omega)).trans hc1
    have hc_6 : σ_4 289 = q_an G 6724 va := (hf_2 _ (by omega)).trans hc2
    refine A_if_neN (tgt := 12) hg dX11_isOver_5 (by decide) (by decide) (fun c5 => ?_) (fun c5 => absurd c5 (by decide))
    refine A_iconst (v := (nI (0))) hg dX11_isOver_12 (by decide) ?_
    rw [hQ]
    exact A_zreturn hg (by decide) (by decide) rfl rfl dX11_isOver_13 ⟨rfl, Or.inr ((⟨rfl, (by unfold s_over; rw [hhw]; rfl), hc_1, (fun i hi => (hf_2 i (by omega)))⟩))⟩
  · skip
    rw [he_3]
    refine (?_ : AJ G K Q 0 0 ex n 5 [some (.ref (q_h G + 279))] [.int (nI (0))] σ)
    refine A_if_neN (tgt := 12) hg dX11_isOver_5 (by decide) (by decide) (fun c5 => absurd (by decide) c5) (fun c5 => ?_)
    refine A_iconst (v := (nI (1))) hg dX11_isOver_8 (by decide) ?_
    refine A_goto (tgt := 13) hg dX11_isOver_9 (by decide) ?_
    rw [hQ]
    exact A_zreturn hg (by decide) (by decide) rfl rfl dX11_isOver_13 ⟨rfl, Or.inl (⟨rfl, (by unfold s_over; rw [hhw]; rfl), rfl⟩)⟩
set_option maxRecDepth 100000 in
set_option maxHeartbeats 4000000 in
theorem c_X11_takes (G : GL) (ex : Bool) (n : Nat) (σ : Nat → va_E) (F : Nat → Int32) (g : Nat → Nat) (p : Nat) (k : Nat) (l : Nat) (hc0 : σ 279 = o11 G F) (hc1 : σ 280 = q_an G 265 g) (hn : 294 ≤ n) (hg9 : s_gwf g) (hp : p < s_np g) (hk : k ≤ s_x g p) (hl : l ≤ s_y g p) : Ct G yX11_takes cX11_takes 4 none ⟨1, 0, 0, 23⟩ [.ref (q_h G + 279), .int (nI (p)), .int (nI (k)), .int (nI (l))] ex n σ (fun v9 σ2 => v9 = none ∧ σ2 280 = q_an G 265 (s_take g p k l) ∧ (∀ i : Nat, i ≠ 280 → σ2 i = σ i)) := by
  refine q_enter [some (.ref (q_h G + 279)), some (.int (nI (p))), some (.int (nI (k))), some (.int (nI (l)))] (by decide) (Nat.le_of_ble_eq_true rfl) rfl ?_
  intro K hg
  obtain ⟨Q, hQ⟩ : ∃ Q, Q = q_Q G K ex n 0 0 (fun v9 n' σ' => n' = n ∧ (fun v9 σ2 => v9 = none ∧ σ2 280 = q_an G 265 (s_take g p k l) ∧ (∀ i : Nat, i ≠ 280 → σ2 i = σ i)) v9 σ') q_noX := ⟨_, rfl⟩
  refine (?_ : AJ G K (q_Q G K ex n 0 0 _ _) 0 0 ex n 0 _ _ σ)
  rw [← hQ]
  have hnp := s_np_le hg9
  have hg1 : g 1 ≤ 4 := hg9.2.1
  have hg2 : g 2 ≤ 4 := hg9.2.2.1
  have hsp : s_np g = g 1 + g 2 := rfl
  have hbd := hg9.2.2.2.2.2.2.1 p
  have hsk := hg9.2.2.2.2.2.2.2 (p - g 1)
  refine A_aload_n hg dX11_takes_0 rfl rfl ?_
  refine A_iload_n hg dX11_takes_1 rfl rfl ?_
  refine A_eV (kc2 := 0) (ks2 := 0) (As := [.int (nI (p))]) (rest := []) hg lk_RX11_182 in_X11_isBoard se_X11_isBoard rfl dX11_takes_2 ⟨by decide, by decide⟩ rfl rfl ⟨by decide, by decide⟩ hc0 (by omega) rfl rfl (Nat.le_of_ble_eq_true rfl) (c_X11_isBoard G ex n σ F g p hc0 hc1 (by omega) (by omega) (by omega)) ?_
  refine A_if_eqB (tgt := 37) hg dX11_takes_5 (by decide) (fun c5 => ?_) (fun c5 => ?_)
  · skip
    have hib : ¬ p < g 1 := of_decide_eq_false c5
    have hsk1 := hsk (by omega)
    have hkx : k ≤ g (153 + 3 * (p - g 1) + 0) := by unfold s_x at hk; rw [if_neg hib] at hk; exact hk
    refine A_aload_n hg dX11_takes_37 rfl rfl ?_
    refine A_aload_n hg dX11_takes_38 rfl rfl ?_
    refine A_iload_n hg dX11_takes_39 rfl rfl ?_
    refine A_eV (kc2 := 0) (ks2 := 0) (As := [.int (nI (p))]) (rest := [.ref (q_h G + 279)]) hg lk_RX11_191 in_X11_stickOf se_X11_stickOf rfl dX11_takes_40 ⟨by decide, by decide⟩ rfl rfl ⟨by decide, by decide⟩ hc0 (by omega) rfl rfl (Nat.le_of_ble_eq_true rfl) (c_X11_stickOf G ex n σ F g p hc0 hc1 (by omega) (by omega)) ?_
    refine A_iconst (v := (nI (0))) hg dX11_takes_43 (by decide) ?_
    refine A_aload_n hg dX11_takes_44 rfl rfl ?_
    refine A_aload_n hg dX11_takes_45 rfl rfl ?_
    refine A_iload_n hg dX11_takes_46 rfl rfl ?_
    refine A_eV (kc2 := 0) (ks2 := 0) (As := [.int (nI (p))]) (rest := [.ref (q_h G + 279), .int (nI (0)), .int (nI (p - g 1)), .ref (q_h G + 279)]) hg lk_RX11_191 in_X11_stickOf se_X11_stickOf rfl dX11_takes_47 ⟨by decide, by decide⟩ rfl rfl ⟨by decide, by decide⟩ hc0 (by omega) rfl rfl (Nat.le_of_ble_eq_true rfl) (c_X11_stickOf G ex n σ F g p hc0 hc1 (by omega) (by omega)) ?_
    refine A_iconst (v := (nI (0))) hg dX11_takes_50 (by decide) ?_
    refine A_eV (kc2 := 0) (ks2 := 0) (As := [.int (nI (p - g 1)), .int (nI (0))]) (rest := [.int (nI (0)), .int (nI (p - g 1)), .ref (q_h G + 279)]) hg lk_RX11_194 in_X11_ofStick se_X11_ofStick rfl dX11_takes_51 ⟨by decide, by decide⟩ rfl rfl ⟨by decide, by decide⟩ hc0 (by omega) rfl rfl (Nat.le_of_ble_eq_true rfl) (c_X11_ofStick G ex n σ F g (p - g 1) 0 hc0 hc1 (by omega) (by omega)) ?_
    refine A_iload_n hg dX11_takes_54 rfl rfl ?_
    refine A_isubN hg dX11_takes_55 (by omega) ?_
    refine A_vV (kc2 := 0) (ks2 := 0) (As := [.int (nI (p - g 1)), .int (nI (0)), .int (nI ((g (153 + 3 * (p - g 1) + 0)) - k))]) (rest := []) hg lk_RX11_176 in_X11_putsStick se_X11_putsStick rfl dX11_takes_56 ⟨by decide, by decide⟩ rfl rfl ⟨by decide, by decide⟩ hc0 (by omega) rfl rfl (Nat.le_of_ble_eq_true rfl) (c_X11_putsStick G ex n σ F g (p - g 1) 0 ((g (153 + 3 * (p - g 1) + 0)) - k) hc0 hc1 (by omega) (by omega)) ?_
    rintro σ_3 ⟨hc_1, hf_2⟩
    have hc_4 : σ_3 279 = o11 G F := (hf_2 _ (by omega)).trans hc0
    refine A_canon (s_take g p k l) hc_1 (fun j _ => by unfold s_take; rw [if_neg hib]) (fun σ_5 hc_6 hf_7 => ?_)
    have hc_8 : σ_5 279 = o11 G F := (hf_7 _ (by omega)).trans hc_4
    rw [hQ]
    exact A_return hg (by decide) (by decide) rfl dX11_takes_59 ⟨rfl, ⟨rfl, hc_6, (fun i hi => ((hf_7 i (by omega)).trans (hf_2 i (by omega))))⟩⟩
  · skip
    have hib : p < g 1 := of_decide_eq_true c5
    have hbd1 := hbd hib
    have hkx : k ≤ g (133 + 5 * p + 1) := by unfold s_x at hk; rw [if_pos hib] at hk; exact hk
    have hly : l ≤ g (133 + 5 * p + 2) := by unfold s_y at hl; rw [if_pos hib] at hl; exact hl
    refine A_aload_n hg dX11_takes_8 rfl rfl ?_
    refine A_iload_n hg dX11_takes_9 rfl rfl ?_
    refine A_iconst (v := (nI (1))) hg dX11_takes_10 (by decide) ?_
    refine A_aload_n hg dX11_takes_11 rfl rfl ?_
    refine A_iload_n hg dX11_takes_12 rfl rfl ?_
    refine A_iconst (v := (nI (1))) hg dX11_takes_13 (by decide) ?_
    refine A_eV (kc2 := 0) (ks2 := 0) (As := [.int (nI (p)), .int (nI (1))]) (rest := [.int (nI (1)), .int (nI (p)), .ref (q_h G + 279)]) hg lk_RX11_185 in_X11_ofBoard se_X11_ofBoard rfl dX11_takes_14 ⟨by decide, by decide⟩ rfl rfl ⟨by decide, by decide⟩ hc0 (by omega) rfl rfl (Nat.le_of_ble_eq_true rfl) (c_X11_ofBoard G ex n σ F g p 1 hc0 hc1 (by omega) (by omega)) ?_
    refine A_iload_n hg dX11_takes_17 rfl rfl ?_
    refine A_isubN hg dX11_takes_18 (by omega) ?_
    refine A_vV (kc2 := 0) (ks2 := 0) (As := [.int (nI (p)), .int (nI (1)), .int (nI ((g (133 + 5 * p + 1)) - k))]) (rest := []) hg lk_RX11_173 in_X11_putsBoard se_X11_putsBoard rfl dX11_takes_19 ⟨by decide, by decide⟩ rfl rfl ⟨by decide, by decide⟩ hc0 (by omega) rfl rfl (Nat.le_of_ble_eq_true rfl) (c_X11_putsBoard G ex n σ F g p 1 ((g (133 + 5 * p + 1)) - k) hc0 hc1 (by omega) (by omega)) ?_
    rintro σ_11 ⟨hc_9, hf_10⟩
    have hc_12 : σ_11 279 = o11 G F := (hf_10 _ (by omega)).trans hc0
    refine A_aload_n hg dX11_takes_22 rfl rfl ?_
    refine A_iload_n hg dX11_takes_23 rfl rfl ?_
    refine A_iconst (v := (nI (2))) hg dX11_takes_24 (by decide) ?_
    refine A_aload_n hg dX11_takes_25 rfl rfl ?_
    refine A_iload_n hg dX11_takes_26 rfl rfl ?_
    refine A_iconst (v := (nI (2))) hg dX11_takes_27 (by decide) ?_
    refine A_eV (kc2 := 0) (ks2 := 0) (As := [.int (nI (p)), .int (nI (2))]) (rest := [.int (nI (2)), .int (nI (p)), .ref (q_h G + 279)]) hg lk_RX11_185 in_X11_ofBoard se_X11_ofBoard rfl dX11_takes_28 ⟨by decide, by decide⟩ rfl rfl ⟨by decide, by decide⟩ hc_12 (by omega) rfl rfl (Nat.le_of_ble_eq_true rfl) (c_X11_ofBoard G ex n σ_11 F (va_up g (133 + 5 * p + 1) ((g (133 + 5 * p + 1)) - k)) p 2 hc_12 hc_9 (by omega) (by omega)) ?_
    refine A_iload_n hg dX11_takes_31 rfl rfl ?_
    have hup : va_up g (133 + 5 * p + 1) (g (133 + 5 * p + 1) - k) (133 + 5 * p + 2) = g (133 + 5 * p + 2) := by unfold va_up; rw [if_neg (by omega)]
    refine A_isubN hg dX11_takes_32 (by omega) ?_
    refine A_vV (kc2 := 0) (ks2 := 0) (As := [.int (nI (p)), .int (nI (2)), .int (nI (((va_up g (133 + 5 * p + 1) ((g (133 + 5 * p + 1)) - k)) (133 + 5 * p + 2)) - l))]) (rest := []) hg lk_RX11_173 in_X11_putsBoard se_X11_putsBoard rfl dX11_takes_33 ⟨by decide, by decide⟩ rfl rfl ⟨by decide, by decide⟩ hc_12 (by omega) rfl rfl (Nat.le_of_ble_eq_true rfl) (c_X11_putsBoard G ex n σ_11 F (va_up g (133 + 5 * p + 1) ((g (133 + 5 * p + 1)) - k)) p 2 (((va_up g (133 + 5 * p + 1) ((g (133 + 5 * p + 1)) - k)) (133 + 5 * p + 2)) - l) hc_12 hc_9 (by omega) (by omega)) ?_
    rintro σ_15 ⟨hc_13, hf_14⟩
    have hc_16 : σ_15 279 = o11 G F := (hf_14 _ (by omega)).trans hc_12
    refine A_canon (s_take g p k l) hc_13 (fun j _ => by unfold s_take; rw [if_pos hib, show va_up g (133 + 5 * p + 1) (g (133 + 5 * p + 1) - k) (133 + 5 * p + 2) = g (133 + 5 * p + 2) by unfold va_up; rw [if_neg (by omega)]]) (fun σ_17 hc_18 hf_19 => ?_)
    have hc_20 : σ_17 279 = o11 G F := (hf_19 _ (by omega)).trans hc_16
    rw [hQ]
    exact A_return hg (by decide) (by decide) rfl dX11_takes_36 ⟨rfl, ⟨rfl, hc_18, (fun i hi => ((hf_19 i (by omega)).trans ((hf_14 i (by omega)).trans (hf_10 i (by omega)))))⟩⟩
set_option maxRecDepth 100000 in
set_option maxHeartbeats 4000000 in
theorem c_X11_grows (G : GL) (ex : Bool) (n : Nat) (σ : Nat → va_E) (F : Nat → Int32) (g : Nat → Nat) (pl : Nat) (w : Nat) (x : Nat) (hc0 : σ 279 = o11 G F) (hc1 : σ 280 = q_an G 265 g) (hn : 294 ≤ n) (hpl : pl ≤ 1) (hw : w ≤ 4) : Ct G yX11_grows cX11_grows 4 none ⟨0, 0, 0, 0⟩ [.ref (q_h G + 279), .int (nI (pl)), .int (nI (w)), .int (nI (x))] ex n σ (fun v9 σ2 => v9 = none ∧ σ2 280 = q_an G 265 (s_grow g pl w x) ∧ (∀ i : Nat, i ≠ 280 → σ2 i = σ i)) := by
  refine q_enter [some (.ref (q_h G + 279)), some (.int (nI (pl))), some (.int (nI (w))), some (.int (nI (x)))] (by decide) (Nat.le_of_ble_eq_true rfl) rfl ?_
  intro K hg
  obtain ⟨Q, hQ⟩ : ∃ Q, Q = q_Q G K ex n 0 0 (fun v9 n' σ' => n' = n ∧ (fun v9 σ2 => v9 = none ∧ σ2 280 = q_an G 265 (s_grow g pl w x) ∧ (∀ i : Nat, i ≠ 280 → σ2 i = σ i)) v9 σ') q_noX := ⟨_, rfl⟩
  refine (?_ : AJ G K (q_Q G K ex n 0 0 _ _) 0 0 ex n 0 _ _ σ)
  rw [← hQ]
  refine A_aload_n hg dX11_grows_0 rfl rfl ?_
  refine A_getf (v := .ref (q_h G + 280)) hg fl_RX11_7 dX11_grows_1 hc0 (by omega) rfl ?_
  refine A_bipush (v := (nI (7))) hg dX11_grows_4 (by decide) ?_
  refine A_iconst (v := (nI (5))) hg dX11_grows_6 (by decide) ?_
  refine A_iload_n hg dX11_grows_7 rfl rfl ?_
  refine A_imulN hg dX11_grows_8 ?_
  refine A_iaddN hg dX11_grows_9 ?_
  refine A_iload_n hg dX11_grows_10 rfl rfl ?_
  refine A_iaddN hg dX11_grows_11 ?_
  refine A_dup2 hg dX11_grows_12 rfl rfl ?_
  refine A_iald (j := ((7 + (5 * pl)) + w)) hg dX11_grows_13 hc1 (by omega) (by omega) (by decide) ?_
  refine A_iload_n hg dX11_grows_14 rfl rfl ?_
  refine A_iaddN hg dX11_grows_15 ?_
  refine A_iast (j := ((7 + (5 * pl)) + w)) (x := ((g ((7 + (5 * pl)) + w)) + x)) hg dX11_grows_16 hc1 (by omega) (by omega) (by decide) (fun σ_1 hc_2 hf_3 => ?_)
  have hc_4 : σ_1 279 = o11 G F := (hf_3 _ (by omega)).trans hc0
  rw [hQ]
  exact A_return hg (by decide) (by decide) rfl dX11_grows_17 ⟨rfl, ⟨rfl, hc_2, (fun i hi => (hf_3 i (by omega)))⟩⟩
set_option maxRecDepth 100000 in
set_option maxHeartbeats 4000000 in
theorem c_X11_notes (G : GL) (ex : Bool) (n : Nat) (σ : Nat → va_E) (F : Nat → Int32) (g : Nat → Nat) (p : Nat) (k : Nat) (l : Nat) (t : Nat) (hc0 : σ 279 = o11 G F) (hc1 : σ 280 = q_an G 265 g) (hn : 294 ≤ n) (h6 : g 6 ≤ 20) : Ct G yX11_notes cX11_notes 6 none ⟨0, 0, 0, 0⟩ [.ref (q_h G + 279), .int (nI (p)), .int (nI (k)), .int (nI (l)), .int (nI (t))] ex n σ (fun v9 σ2 => v9 = none ∧ σ2 280 = q_an G 265 (s_note g p k l t) ∧ (∀ i : Nat, i ≠ 280 → σ2 i = σ i)) := by
  refine q_enter [some (.ref (q_h G + 279)), some (.int (nI (p))), some (.int (nI (k))), some (.int (nI (l))), some (.int (nI (t))), none] (by decide) (Nat.le_of_ble_eq_true rfl) rfl ?_
  intro K hg
  obtain ⟨Q, hQ⟩ : ∃ Q, Q = q_Q G K ex n 0 0 (fun v9 n' σ' => n' = n ∧ (fun v9 σ2 => v9 = none ∧ σ2 280 = q_an G 265 (s_note g p k l t) ∧ (∀ i : Nat, i ≠ 280 → σ2 i = σ i)) v9 σ') q_noX := ⟨_, rfl⟩
  refine (?_ : AJ G K (q_Q G K ex n 0 0 _ _) 0 0 ex n 0 _ _ σ)
  rw [← hQ]
  refine A_aload_n hg dX11_notes_0 rfl rfl ?_
  refine A_getf (v := .ref (q_h G + 280)) hg fl_RX11_7 dX11_notes_1 hc0 (by omega) rfl ?_
  refine A_bipush (v := (nI (6))) hg dX11_notes_4 (by decide) ?_
  refine A_iald (j := 6) hg dX11_notes_6 hc1 (by omega) (by omega) (by decide) ?_
  refine A_bipush (v := (nI (20))) hg dX11_notes_7 (by decide) ?_
  refine A_icmp_neN (tgt := 58) hg dX11_notes_9 (by omega) (by decide) (by decide) (fun c9 => ?_) (fun c9 => ?_)
  · skip
    refine A_canon (s_shift g) hc1 (fun jj _ => by first | exact s_shift_eq c9 (fun i => by rw [hf i, show j = 260 by omega]) jj | (unfold s_shift; rw [if_neg c9])) (fun σ_1 hc_2 hf_3 => ?_)
    have hc_4 : σ_1 279 = o11 G F := (hf_3 _ (by omega)).trans hc0
    have hs6 := s_shift_6 h6
    refine A_sipush (v := (nI (165))) hg dX11_notes_58 (by decide) ?_
    refine A_iconst (v := (nI (5))) hg dX11_notes_61 (by decide) ?_
    refine A_aload_n hg dX11_notes_62 rfl rfl ?_
    refine A_getf (v := .ref (q_h G + 280)) hg fl_RX11_7 dX11_notes_63 hc_4 (by omega) rfl ?_
    refine A_bipush (v := (nI (6))) hg dX11_notes_66 (by decide) ?_
    refine A_iald (j := 6) hg dX11_notes_68 hc_2 (by omega) (by omega) (by decide) ?_
    refine A_imulN hg dX11_notes_69 ?_
    refine A_iaddN hg dX11_notes_70 ?_
    refine A_istore hg dX11_notes_71 (by decide) (q_c1d rfl) ?_
    refine A_eq (ls2 := [some (.ref (q_h G + 279)), some (.int (nI (p))), some (.int (nI (k))), some (.int (nI (l))), some (.int (nI (t))), some (.int (nI (165 + (5 * ((s_shift g) 6)))))]) (st2 := []) (pc2 := 0) rfl rfl ?_
    refine A_aload_n hg dX11_notes_73 rfl rfl ?_
    refine A_getf (v := .ref (q_h G + 280)) hg fl_RX11_7 dX11_notes_74 hc_4 (by omega) rfl ?_
    refine A_iload hg dX11_notes_77 rfl ?_
    refine A_aload_n hg dX11_notes_79 rfl rfl ?_
    refine A_getf (v := .ref (q_h G + 280)) hg fl_RX11_7 dX11_notes_80 hc_4 (by omega) rfl ?_
    refine A_iconst (v := (nI (3))) hg dX11_notes_83 (by decide) ?_
    refine A_iald (j := 3) hg dX11_notes_84 hc_2 (by omega) (by omega) (by decide) ?_
    refine A_iast (j := (165 + (5 * ((s_shift g) 6)))) (x := ((s_shift g) 3)) hg dX11_notes_85 hc_2 (by omega) (by omega) (by decide) (fun σ_5 hc_6 hf_7 => ?_)
    have hc_8 : σ_5 279 = o11 G F := (hf_7 _ (by omega)).trans hc_4
    refine A_aload_n hg dX11_notes_86 rfl rfl ?_
    refine A_getf (v := .ref (q_h G + 280)) hg fl_RX11_7 dX11_notes_87 hc_8 (by omega) rfl ?_
    refine A_iload hg dX11_notes_90 rfl ?_
    refine A_iconst (v := (nI (1))) hg dX11_notes_92 (by decide) ?_
    refine A_iaddN hg dX11_notes_93 ?_
    refine A_iload_n hg dX11_notes_94 rfl rfl ?_
    refine A_iast (j := ((165 + (5 * ((s_shift g) 6))) + 1)) (x := p) hg dX11_notes_95 hc_6 (by omega) (by omega) (by decide) (fun σ_9 hc_10 hf_11 => ?_)
    have hc_12 : σ_9 279 = o11 G F := (hf_11 _ (by omega)).trans hc_8
    refine A_aload_n hg dX11_notes_96 rfl rfl ?_
    refine A_getf (v := .ref (q_h G + 280)) hg fl_RX11_7 dX11_notes_97 hc_12 (by omega) rfl ?_
    refine A_iload hg dX11_notes_100 rfl ?_
    refine A_iconst (v := (nI (2))) hg dX11_notes_102 (by decide) ?_
    refine A_iaddN hg dX11_notes_103 ?_
    refine A_iload_n hg dX11_notes_104 rfl rfl ?_
    refine A_iast (j := ((165 + (5 * ((s_shift g) 6))) + 2)) (x := k) hg dX11_notes_105 hc_10 (by omega) (by omega) (by decide) (fun σ_13 hc_14 hf_15 => ?_)
    have hc_16 : σ_13 279 = o11 G F := (hf_15 _ (by omega)).trans hc_12
    refine A_aload_n hg dX11_notes_106 rfl rfl ?_
    refine A_getf (v := .ref (q_h G + 280)) hg fl_RX11_7 dX11_notes_107 hc_16 (by omega) rfl ?_
    refine A_iload hg dX11_notes_110 rfl ?_
    refine A_iconst (v := (nI (3))) hg dX11_notes_112 (by decide) ?_
    refine A_iaddN hg dX11_notes_113 ?_
    refine A_iload_n hg dX11_notes_114 rfl rfl ?_
    refine A_iast (j := ((165 + (5 * ((s_shift g) 6))) + 3)) (x := l) hg dX11_notes_115 hc_14 (by omega) (by omega) (by decide) (fun σ_17 hc_18 hf_19 => ?_)
    have hc_20 : σ_17 279 = o11 G F := (hf_19 _ (by omega)).trans hc_16
    refine A_aload_n hg dX11_notes_116 rfl rfl ?_
    refine A_getf (v := .ref (q_h G + 280)) hg fl_RX11_7 dX11_notes_117 hc_20 (by omega) rfl ?_
    refine A_iload hg dX11_notes_120 rfl ?_
    refine A_iconst (v := (nI (4))) hg dX11_notes_122 (by decide) ?_
    refine A_iaddN hg dX11_notes_123 ?_
    refine A_iload hg dX11_notes_124 rfl ?_
    refine A_iast (j := ((165 + (5 * ((s_shift g) 6))) + 4)) (x := t) hg dX11_notes_126 hc_18 (by omega) (by omega) (by decide) (fun σ_21 hc_22 hf_23 => ?_)
    have hc_24 : σ_21 279 = o11 G F := (hf_23 _ (by omega)).trans hc_20
    refine A_aload_n hg dX11_notes_127 rfl rfl ?_
    refine A_getf (v := .ref (q_h G + 280)) hg fl_RX11_7 dX11_notes_128 hc_24 (by omega) rfl ?_
    refine A_bipush (v := (nI (6))) hg dX11_notes_131 (by decide) ?_
    refine A_dup2 hg dX11_notes_133 rfl rfl ?_
    refine A_iald (j := 6) hg dX11_notes_134 hc_22 (by omega) (by omega) (by decide) ?_
    refine A_iconst (v := (nI (1))) hg dX11_notes_135 (by decide) ?_
    refine A_iaddN hg dX11_notes_136 ?_
    refine A_iast (j := 6) (x := (((va_up (va_up (va_up (va_up (va_up (s_shift g) (165 + (5 * ((s_shift g) 6))) ((s_shift g) 3)) ((165 + (5 * ((s_shift g) 6))) + 1) p) ((165 + (5 * ((s_shift g) 6))) + 2) k) ((165 + (5 * ((s_shift g) 6))) + 3) l) ((165 + (5 * ((s_shift g) 6))) + 4) t) 6) + 1)) hg dX11_notes_137 hc_22 (by omega) (by omega) (by decide) (fun σ_25 hc_26 hf_27 => ?_)
    have hc_28 : σ_25 279 = o11 G F := (hf_27 _ (by omega)).trans hc_24
    refine A_canon (s_note g p k l t) hc_26 (fun j _ => s_note_eq h6 j) (fun σ_29 hc_30 hf_31 => ?_)
    have hc_32 : σ_29 279 = o11 G F := (hf_31 _ (by omega)).trans hc_28
    rw [hQ]
    exact A_return hg (by decide) (by decide) rfl dX11_notes_138 ⟨rfl, ⟨rfl, hc_30, (fun i hi => ((hf_31 i (by omega)).trans ((hf_27 i (by omega)).trans ((hf_23 i (by omega)).trans ((hf_19 i (by omega)).trans ((hf_15 i (by omega)).trans ((hf_11 i (by omega)).trans ((hf_7 i (by omega)).trans (hf_3 i (by omega))))))))))⟩⟩
  · skip
    refine A_sipush (v := (nI (165))) hg dX11_notes_12 (by decide) ?_
    refine A_istore hg dX11_notes_15 (by decide) (q_c1d rfl) ?_
    refine A_eq (ls2 := [some (.ref (q_h G + 279)), some (.int (nI (p))), some (.int (nI (k))), some (.int (nI (l))), some (.int (nI (t))), some (.int (nI (165)))]) (st2 := []) (pc2 := 0) rfl rfl ?_
    have hL17 : ∀ (fu : Nat) (j : Nat) (f1 : Nat → Nat) (σ_33 : Nat → va_E), (σ_33 279 = o11 G F) → (σ_33 280 = q_an G 265 f1) → (∀ i : Nat, i ≠ 280 → σ_33 i = σ i) → (165 ≤ j ∧ j ≤ 260) → (∀ i : Nat, f1 i = if 165 ≤ i ∧ i < j then g (i + 5) else g i) → (260 - j) < fu → AJ G K Q 0 0 ex n 17 [some (.ref (q_h G + 279)), some (.int (nI (p))), some (.int (nI (k))), some (.int (nI (l))), some (.int (nI (t))), some (.int (nI (j)))] [] σ_33 := by
      intro fu
      induction fu with
      | zero => intro j f1 σ_33 hc_34 hc_35 hf_36 hj hf hm; exact absurd hm (Nat.not_lt_zero _)
      | succ fu ih17 =>
        intro j f1 σ_33 hc_34 hc_35 hf_36 hj hf hm17
        refine A_iload hg dX11_notes_17 rfl ?_
        refine A_sipush (v := (nI (260))) hg dX11_notes_19 (by decide) ?_
        refine A_icmp_geN (tgt := 47) hg dX11_notes_22 (by omega) (by decide) (by decide) (fun c22 => ?_) (fun c22 => ?_)
        · skip
          have hf6 : f1 6 = 20 := by rw [hf, if_neg (by omega)]; exact c9
          refine A_aload_n hg dX11_notes_47 rfl rfl ?_
          refine A_getf (v := .ref (q_h G + 280)) hg fl_RX11_7 dX11_notes_48 hc_34 (by omega) rfl ?_
          refine A_bipush (v := (nI (6))) hg dX11_notes_51 (by decide) ?_
          refine A_dup2 hg dX11_notes_53 rfl rfl ?_
          refine A_iald (j := 6) hg dX11_notes_54 hc_35 (by omega) (by omega) (by decide) ?_
          refine A_iconst (v := (nI (1))) hg dX11_notes_55 (by decide) ?_
          refine A_isubN hg dX11_notes_56 (by omega) ?_
          refine A_iast (j := 6) (x := ((f1 6) - 1)) hg dX11_notes_57 hc_35 (by omega) (by omega) (by decide) (fun σ_37 hc_38 hf_39 => ?_)
          have hc_40 : σ_37 279 = o11 G F := (hf_39 _ (by omega)).trans hc_34
          refine A_canon (s_shift g) hc_38 (fun jj _ => by first | exact s_shift_eq c9 (fun i => by rw [hf i, show j = 260 by omega]) jj | (unfold s_shift; rw [if_neg c9])) (fun σ_41 hc_42 hf_43 => ?_)
          have hc_44 : σ_41 279 = o11 G F := (hf_43 _ (by omega)).trans hc_40
          have hs6 := s_shift_6 h6
          refine A_sipush (v := (nI (165))) hg dX11_notes_58 (by decide) ?_
          refine A_iconst (v := (nI (5))) hg dX11_notes_61 (by decide) ?_
          refine A_aload_n hg dX11_notes_62 rfl rfl ?_
          refine A_getf (v := .ref (q_h G + 280)) hg fl_RX11_7 dX11_notes_63 hc_44 (by omega) rfl ?_
          refine A_bipush (v := (nI (6))) hg dX11_notes_66 (by decide) ?_
          refine A_iald (j := 6) hg dX11_notes_68 hc_42 (by omega) (by omega) (by decide) ?_
          refine A_imulN hg dX11_notes_69 ?_
          refine A_iaddN hg dX11_notes_70 ?_
          refine A_istore hg dX11_notes_71 (by decide) (q_c1d rfl) ?_
          refine A_eq (ls2 := [some (.ref (q_h G + 279)), some (.int (nI (p))), some (.int (nI (k))), some (.int (nI (l))), some (.int (nI (t))), some (.int (nI (165 + (5 * ((s_shift g) 6)))))]) (st2 := []) (pc2 := 0) rfl rfl ?_
          refine A_aload_n hg dX11_notes_73 rfl rfl ?_
          refine A_getf (v := .ref (q_h G + 280)) hg fl_RX11_7 dX11_notes_74 hc_44 (by omega) rfl ?_
          refine A_iload hg dX11_notes_77 rfl ?_
          refine A_aload_n hg dX11_notes_79 rfl rfl ?_
          refine A_getf (v := .ref (q_h G + 280)) hg fl_RX11_7 dX11_notes_80 hc_44 (by omega) rfl ?_
          refine A_iconst (v := (nI (3))) hg dX11_notes_83 (by decide) ?_
          refine A_iald (j := 3) hg dX11_notes_84 hc_42 (by omega) (by omega) (by decide) ?_
          refine A_iast (j := (165 + (5 * ((s_shift g) 6)))) (x := ((s_shift g) 3)) hg dX11_notes_85 hc_42 (by omega) (by omega) (by decide) (fun σ_45 hc_46 hf_47 => ?_)
          have hc_48 : σ_45 279 = o11 G F := (hf_47 _ (by omega)).trans hc_44
          refine A_aload_n hg dX11_notes_86 rfl rfl ?_
          refine A_getf (v := .ref (q_h G + 280)) hg fl_RX11_7 dX11_notes_87 hc_48 (by omega) rfl ?_
          refine A_iload hg dX11_notes_90 rfl ?_
          refine A_iconst (v := (nI (1))) hg dX11_notes_92 (by decide) ?_
          refine A_iaddN hg dX11_notes_93 ?_
          refine A_iload_n hg dX11_notes_94 rfl rfl ?_
          refine A_iast (j := ((165 + (5 * ((s_shift g) 6))) + 1)) (x := p) hg dX11_notes_95 hc_46 (by omega) (by omega) (by decide) (fun σ_49 hc_50 hf_51 => ?_)
          have hc_52 : σ_49 279 = o11 G F := (hf_51 _ (by omega)).trans hc_48
          refine A_aload_n hg dX11_notes_96 rfl rfl ?_
          refine A_getf (v := .ref (q_h G + 280)) hg fl_RX11_7 dX11_notes_97 hc_52 (by omega) rfl ?_
          refine A_iload hg dX11_notes_100 rfl ?_
          refine A_iconst (v := (nI (2))) hg dX11_notes_102 (by decide) ?_
          refine A_iaddN hg dX11_notes_103 ?_
          refine A_iload_n hg dX11_notes_104 rfl rfl ?_
          refine A_iast (j := ((165 + (5 * ((s_shift g) 6))) + 2)) (x := k) hg dX11_notes_105 hc_50 (by omega) (by omega) (by decide) (fun σ_53 hc_54 hf_55 => ?_)
          have hc_56 : σ_53 279 = o11 G F := (hf_55 _ (by omega)).trans hc_52
          refine A_aload_n hg dX11_notes_106 rfl rfl ?_
          refine A_getf (v := .ref (q_h G + 280)) hg fl_RX11_7 dX11_notes_107 hc_56 (by omega) rfl ?_
          refine A_iload hg dX11_notes_110 rfl ?_
          refine A_iconst (v := (nI (3))) hg dX11_notes_112 (by decide) ?_
          refine A_iaddN hg dX11_notes_113 ?_
          refine A_iload_n hg dX11_notes_114 rfl rfl ?_
          refine A_iast (j := ((165 + (5 * ((s_shift g) 6))) + 3)) (x := l) hg dX11_notes_115 hc_54 (by omega) (by omega) (by decide) (fun σ_57 hc_58 hf_59 => ?_)
          have hc_60 : σ_57 279 = o11 G F := (hf_59 _ (by omega)).trans hc_56
          refine A_aload_n hg dX11_notes_116 rfl rfl ?_
          refine A_getf (v := .ref (q_h G + 280)) hg fl_RX11_7 dX11_notes_117 hc_60 (by omega) rfl ?_
          refine A_iload hg dX11_notes_120 rfl ?_
          refine A_iconst (v := (nI (4))) hg dX11_notes_122 (by decide) ?_
          refine A_iaddN hg dX11_notes_123 ?_
          refine A_iload hg dX11_notes_124 rfl ?_
          refine A_iast (j := ((165 + (5 * ((s_shift g) 6))) + 4)) (x := t) hg dX11_notes_126 hc_58 (by omega) (by omega) (by decide) (fun σ_61 hc_62 hf_63 => ?_)
          have hc_64 : σ_61 279 = o11 G F := (hf_63 _ (by omega)).trans hc_60
          refine A_aload_n hg dX11_notes_127 rfl rfl ?_
          refine A_getf (v := .ref (q_h G + 280)) hg fl_RX11_7 dX11_notes_128 hc_64 (by omega) rfl ?_
          refine A_bipush (v := (nI (6))) hg dX11_notes_131 (by decide) ?_
          refine A_dup2 hg dX11_notes_133 rfl rfl ?_
          refine A_iald (j := 6) hg dX11_notes_134 hc_62 (by omega) (by omega) (by decide) ?_
          refine A_iconst (v := (nI (1))) hg dX11_notes_135 (by decide) ?_
          refine A_iaddN hg dX11_notes_136 ?_
          refine A_iast (j := 6) (x := (((va_up (va_up (va_up (va_up (va_up (s_shift g) (165 + (5 * ((s_shift g) 6))) ((s_shift g) 3)) ((165 + (5 * ((s_shift g) 6))) + 1) p) ((165 + (5 * ((s_shift g) 6))) + 2) k) ((165 + (5 * ((s_shift g) 6))) + 3) l) ((165 + (5 * ((s_shift g) 6))) + 4) t) 6) + 1)) hg dX11_notes_137 hc_62 (by omega) (by omega) (by decide) (fun σ_65 hc_66 hf_67 => ?_)
          have hc_68 : σ_65 279 = o11 G F := (hf_67 _ (by omega)).trans hc_64
          refine A_canon (s_note g p k l t) hc_66 (fun j _ => s_note_eq h6 j) (fun σ_69 hc_70 hf_71 => ?_)
          have hc_72 : σ_69 279 = o11 G F := (hf_71 _ (by omega)).trans hc_68
          rw [hQ]
          exact A_return hg (by decide) (by decide) rfl dX11_notes_138 ⟨rfl, ⟨rfl, hc_70, (fun i hi => ((hf_71 i (by omega)).trans ((hf_67 i (by omega)).trans ((hf_63 i (by omega)).trans ((hf_59 i (by omega)).trans ((hf_55 i (by omega)).trans ((hf_51 i (by omega)).trans ((hf_47 i (by omega)).trans ((hf_43 i (by omega)).trans ((hf_39 i (by omega)).trans (hf_36 i (by omega))))))))))))⟩⟩
        · skip
          refine A_aload_n hg dX11_notes_25 rfl rfl ?_
          refine A_getf (v := .ref (q_h G + 280)) hg fl_RX11_7 dX11_notes_26 hc_34 (by omega) rfl ?_
          refine A_iload hg dX11_notes_29 rfl ?_
          refine A_aload_n hg dX11_notes_31 rfl rfl ?_
          refine A_getf (v := .ref (q_h G + 280)) hg fl_RX11_7 dX11_notes_32 hc_34 (by omega) rfl ?_
          refine A_iload hg dX11_notes_35 rfl ?_
          refine A_iconst (v := (nI (5))) hg dX11_notes_37 (by decide) ?_
          refine A_iaddN hg dX11_notes_38 ?_
          refine A_iald (j := (j + 5)) hg dX11_notes_39 hc_35 (by omega) (by omega) (by decide) ?_
          refine A_iast (j := j) (x := (f1 (j + 5))) hg dX11_notes_40 hc_35 (by omega) (by omega) (by decide) (fun σ_73 hc_74 hf_75 => ?_)
          have hc_76 : σ_73 279 = o11 G F := (hf_75 _ (by omega)).trans hc_34
          refine A_iincN (k' := 1) hg dX11_notes_41 (by decide) rfl (by decide) (q_c1d rfl) ?_
          refine A_eq (ls2 := [some (.ref (q_h G + 279)), some (.int (nI (p))), some (.int (nI (k))), some (.int (nI (l))), some (.int (nI (t))), some (.int (nI (j + 1)))]) (st2 := []) (pc2 := 0) rfl rfl ?_
          refine A_goto (tgt := 17) hg dX11_notes_44 (by decide) ?_
          exact ih17 (j + 1) (va_up f1 j (f1 (j + 5))) σ_73 hc_76 hc_74 (fun i hi => ((hf_75 i (by omega)).trans (hf_36 i (by omega)))) (by omega) (s_sh_step hj.1 hf) (by omega)
    exact hL17 _ 165 g σ hc0 hc1 (fun _ _ => rfl) (by omega) (fun i => by rw [if_neg (by omega)]) (Nat.lt_succ_self _)
set_option maxRecDepth 100000 in
set_option maxHeartbeats 4000000 in
theorem c_X11_plays (G : GL) (ex : Bool) (n : Nat) (σ : Nat → va_E) (F : Nat → Int32) (g : Nat → Nat) (va : Nat → Nat) (p : Nat) (k : Nat) (l : Nat) (hc0 : σ 279 = o11 G F) (hc1 : σ 280 = q_an G 265 g) (hc2 : σ 289 = q_an G 6724 va) (hn : 294 ≤ n) (hg9 : s_gwf g) (hp : p < s_np g) (hCV : ∀ r : Nat, r < g 0 → ∀ q : Nat, q < 1681 → va (1681 * r + q) = s_V (s_rule g r) q) (hk : k ≤ s_x g p) (hl : l ≤ s_y g p) : Ct G yX11_plays cX11_plays 7 none ⟨7, 0, 0, 160⟩ [.ref (q_h G + 279), .int (nI (p)), .int (nI (k)), .int (nI (l))] ex n σ (fun v9 σ2 => v9 = none ∧ ∃ (a : Int32), ∃ (b : Int32), ∃ (c : Int32), σ2 279 = o11 G (upd (upd (upd F 17 (a)) 18 (b)) 19 (c)) ∧ σ2 280 = q_an G 265 (s_play g p k l) ∧ (∀ i : Nat, i ≠ 279 ∧ i ≠ 280 → σ2 i = σ i)) := by
  refine q_enter [some (.ref (q_h G + 279)), some (.int (nI (p))), some (.int (nI (k))), some (.int (nI (l))), none, none, none] (by decide) (Nat.le_of_ble_eq_true rfl) rfl ?_
  intro K hg
  obtain ⟨Q, hQ⟩ : ∃ Q, Q = q_Q G K ex n 0 0 (fun v9 n' σ' => n' = n ∧ (fun v9 σ2 => v9 = none ∧ ∃ (a : Int32), ∃ (b : Int32), ∃ (c : Int32), σ2 279 = o11 G (upd (upd (upd F 17 (a)) 18 (b)) 19 (c)) ∧ σ2 280 = q_an G 265 (s_play g p k l) ∧ (∀ i : Nat, i ≠ 279 ∧ i ≠ 280 → σ2 i = σ i)) v9 σ') q_noX := ⟨_, rfl⟩
  refine (?_ : AJ G K (q_Q G K ex n 0 0 _ _) 0 0 ex n 0 _ _ σ)
  rw [← hQ]
  have h3 := hg9.2.2.2.1
  have hgt := s_gwf_take (k := k) (l := l) hg9 hp
  have htl := s_tot_lt hg9
  have htt := s_tot_lt hgt
  have hCt := s_take_CV (p := p) (k := k) (l := l) hg9 hCV
  have hgm := s_gwf_m1 (k := k) (l := l) hg9 hp
  have hCm := s_m1_CV (p := p) (k := k) (l := l) hg9 hCV
  have hgo := s_gwf_ovr h3 hgm
  have hg6 := hgo.2.2.2.2.1
  refine A_aload_n hg dX11_plays_0 rfl rfl ?_
  refine A_getf (v := .ref (q_h G + 280)) hg fl_RX11_7 dX11_plays_1 hc0 (by omega) rfl ?_
  refine A_iconst (v := (nI (3))) hg dX11_plays_4 (by decide) ?_
  refine A_iald (j := 3) hg dX11_plays_5 hc1 (by omega) (by omega) (by decide) ?_
  refine A_istore hg dX11_plays_6 (by decide) (q_c1d rfl) ?_
  refine A_eq (ls2 := [some (.ref (q_h G + 279)), some (.int (nI (p))), some (.int (nI (k))), some (.int (nI (l))), some (.int (nI (g 3))), none, none]) (st2 := []) (pc2 := 0) rfl rfl ?_
  refine A_aload_n hg dX11_plays_8 rfl rfl ?_
  refine A_eV (kc2 := 0) (ks2 := 0) (As := []) (rest := []) hg lk_RX11_206 in_X11_total se_X11_total rfl dX11_plays_9 ⟨by decide, by decide⟩ rfl rfl ⟨by decide, by decide⟩ hc0 (by omega) rfl rfl (Nat.le_of_ble_eq_true rfl) (c_X11_total G ex n σ F g va hc0 hc1 hc2 (by omega) hg9 hCV) ?_
  refine A_istore hg dX11_plays_12 (by decide) (q_c1d rfl) ?_
  refine A_eq (ls2 := [some (.ref (q_h G + 279)), some (.int (nI (p))), some (.int (nI (k))), some (.int (nI (l))), some (.int (nI (g 3))), some (.int (nI (s_tot g))), none]) (st2 := []) (pc2 := 0) rfl rfl ?_
  refine A_aload_n hg dX11_plays_14 rfl rfl ?_
  refine A_iload_n hg dX11_plays_15 rfl rfl ?_
  refine A_iload_n hg dX11_plays_16 rfl rfl ?_
  refine A_iload_n hg dX11_plays_17 rfl rfl ?_
  refine A_vV (kc2 := 0) (ks2 := 0) (As := [.int (nI (p)), .int (nI (k)), .int (nI (l))]) (rest := []) hg lk_RX11_233 in_X11_takes se_X11_takes rfl dX11_plays_18 ⟨by decide, by decide⟩ rfl rfl ⟨by decide, by decide⟩ hc0 (by omega) rfl rfl (Nat.le_of_ble_eq_true rfl) (c_X11_takes G ex n σ F g p k l hc0 hc1 (by omega) hg9 (by omega) (by omega) (by omega)) ?_
  rintro σ_3 ⟨hc_1, hf_2⟩
  have hc_4 : σ_3 279 = o11 G F := (hf_2 _ (by omega)).trans hc0
  have hc_5 : σ_3 289 = q_an G 6724 va := (hf_2 _ (by omega)).trans hc2
  refine A_aload_n hg dX11_plays_21 rfl rfl ?_
  refine A_eV (kc2 := 0) (ks2 := 0) (As := []) (rest := []) hg lk_RX11_206 in_X11_total se_X11_total rfl dX11_plays_22 ⟨by decide, by decide⟩ rfl rfl ⟨by decide, by decide⟩ hc_4 (by omega) rfl rfl (Nat.le_of_ble_eq_true rfl) (c_X11_total G ex n σ_3 F (s_take g p k l) va hc_4 hc_1 hc_5 (by omega) hgt hCt) ?_
  refine A_istore hg dX11_plays_25 (by decide) (q_c1d rfl) ?_
  refine A_eq (ls2 := [some (.ref (q_h G + 279)), some (.int (nI (p))), some (.int (nI (k))), some (.int (nI (l))), some (.int (nI (g 3))), some (.int (nI (s_tot g))), some (.int (nI (s_tot (s_take g p k l))))]) (st2 := []) (pc2 := 0) rfl rfl ?_
  refine A_aload_n hg dX11_plays_27 rfl rfl ?_
  refine A_iload hg dX11_plays_28 rfl ?_
  refine A_iconst (v := (nI (0))) hg dX11_plays_30 (by decide) ?_
  refine A_iconst (v := (nI (1))) hg dX11_plays_31 (by decide) ?_
  refine A_vV (kc2 := 0) (ks2 := 0) (As := [.int (nI (g 3)), .int (nI (0)), .int (nI (1))]) (rest := []) hg lk_RX11_236 in_X11_grows se_X11_grows rfl dX11_plays_32 ⟨by decide, by decide⟩ rfl rfl ⟨by decide, by decide⟩ hc_4 (by omega) rfl rfl (Nat.le_of_ble_eq_true rfl) (c_X11_grows G ex n σ_3 F (s_take g p k l) (g 3) 0 1 hc_4 hc_1 (by omega) (by omega) (by omega)) ?_
  rintro σ_8 ⟨hc_6, hf_7⟩
  have hc_9 : σ_8 279 = o11 G F := (hf_7 _ (by omega)).trans hc_4
  have hc_10 : σ_8 289 = q_an G 6724 va := (hf_7 _ (by omega)).trans hc_5
  refine A_aload_n hg dX11_plays_35 rfl rfl ?_
  refine A_iload hg dX11_plays_36 rfl ?_
  refine A_iconst (v := (nI (1))) hg dX11_plays_38 (by decide) ?_
  refine A_iload_n hg dX11_plays_39 rfl rfl ?_
  refine A_iload_n hg dX11_plays_40 rfl rfl ?_
  refine A_iaddN hg dX11_plays_41 ?_
  refine A_vV (kc2 := 0) (ks2 := 0) (As := [.int (nI (g 3)), .int (nI (1)), .int (nI (k + l))]) (rest := []) hg lk_RX11_236 in_X11_grows se_X11_grows rfl dX11_plays_42 ⟨by decide, by decide⟩ rfl rfl ⟨by decide, by decide⟩ hc_9 (by omega) rfl rfl (Nat.le_of_ble_eq_true rfl) (c_X11_grows G ex n σ_8 F (s_grow (s_take g p k l) (g 3) 0 1) (g 3) 1 (k + l) hc_9 hc_6 (by omega) (by omega) (by omega)) ?_
  rintro σ_13 ⟨hc_11, hf_12⟩
  have hc_14 : σ_13 279 = o11 G F := (hf_12 _ (by omega)).trans hc_9
  have hc_15 : σ_13 289 = q_an G 6724 va := (hf_12 _ (by omega)).trans hc_10
  refine A_iload hg dX11_plays_45 rfl ?_
  refine A_if_neN (tgt := 61) hg dX11_plays_47 (by omega) (by decide) (fun c47 => ?_) (fun c47 => ?_)
  · skip
    refine A_iload hg dX11_plays_61 rfl ?_
    refine A_if_eqN (tgt := 74) hg dX11_plays_63 (by omega) (by decide) (fun c63 => ?_) (fun c63 => ?_)
    · skip
      refine A_canon (s_m1 g p k l) hc_11 (fun j _ => by unfold s_m1 s_acc; first | rw [if_pos c47] | rw [if_neg c47, if_pos c63] | rw [if_neg c47, if_neg c63]) (fun σ_16 hc_17 hf_18 => ?_)
      have hc_19 : σ_16 279 = o11 G F := (hf_18 _ (by omega)).trans hc_14
      have hc_20 : σ_16 289 = q_an G 6724 va := (hf_18 _ (by omega)).trans hc_15
      refine A_aload_n hg dX11_plays_74 rfl rfl ?_
      refine A_hV (kc2 := 0) (ks2 := 0) (As := []) (rest := []) hg lk_RX11_239 in_X11_isOver se_X11_isOver rfl dX11_plays_75 ⟨by decide, by decide⟩ rfl rfl ⟨by decide, by decide⟩ hc_19 (by omega) rfl rfl (Nat.le_of_ble_eq_true rfl) (c_X11_isOver G ex n σ_16 F (s_m1 g p k l) va hc_19 hc_17 hc_20 (by omega) hgm hCm) ?_
      rintro _ σ_24 (⟨rfl, hov, he_21⟩ | ⟨rfl, hov, hc_22, hf_23⟩)
      · skip
        rw [he_21]
        refine (?_ : AJ G K Q 0 0 ex n 78 [some (.ref (q_h G + 279)), some (.int (nI (p))), some (.int (nI (k))), some (.int (nI (l))), some (.int (nI (g 3))), some (.int (nI (s_tot g))), some (.int (nI (s_tot (s_take g p k l))))] [.int (nI (1))] σ_16)
        refine A_if_eqN (tgt := 89) hg dX11_plays_78 (by decide) (by decide) (fun c78 => absurd c78 (by decide)) (fun c78 => ?_)
        refine A_aload_n hg dX11_plays_81 rfl rfl ?_
        refine A_iload hg dX11_plays_82 rfl ?_
        refine A_iconst (v := (nI (2))) hg dX11_plays_84 (by decide) ?_
        refine A_iconst (v := (nI (1))) hg dX11_plays_85 (by decide) ?_
        refine A_vV (kc2 := 0) (ks2 := 0) (As := [.int (nI (g 3)), .int (nI (2)), .int (nI (1))]) (rest := []) hg lk_RX11_236 in_X11_grows se_X11_grows rfl dX11_plays_86 ⟨by decide, by decide⟩ rfl rfl ⟨by decide, by decide⟩ hc_19 (by omega) rfl rfl (Nat.le_of_ble_eq_true rfl) (c_X11_grows G ex n σ_16 F (s_m1 g p k l) (g 3) 2 1 hc_19 hc_17 (by omega) (by omega) (by omega)) ?_
        rintro σ_27 ⟨hc_25, hf_26⟩
        have hc_28 : σ_27 279 = o11 G F := (hf_26 _ (by omega)).trans hc_19
        have hc_29 : σ_27 289 = q_an G 6724 va := (hf_26 _ (by omega)).trans hc_20
        refine A_canon (s_ovr (s_m1 g p k l) (g 3)) hc_25 (fun j _ => by unfold s_ovr; first | rw [if_pos hov] | rw [if_neg (by rw [hov]; decide)]) (fun σ_30 hc_31 hf_32 => ?_)
        have hc_33 : σ_30 279 = o11 G F := (hf_32 _ (by omega)).trans hc_28
        have hc_34 : σ_30 289 = q_an G 6724 va := (hf_32 _ (by omega)).trans hc_29
        refine A_aload_n hg dX11_plays_89 rfl rfl ?_
        refine A_iload_n hg dX11_plays_90 rfl rfl ?_
        refine A_iload_n hg dX11_plays_91 rfl rfl ?_
        refine A_iload_n hg dX11_plays_92 rfl rfl ?_
        refine A_iload hg dX11_plays_93 rfl ?_
        refine A_vV (kc2 := 0) (ks2 := 0) (As := [.int (nI (p)), .int (nI (k)), .int (nI (l)), .int (nI (s_tot (s_take g p k l)))]) (rest := []) hg lk_RX11_243 in_X11_notes se_X11_notes rfl dX11_plays_95 ⟨by decide, by decide⟩ rfl rfl ⟨by decide, by decide⟩ hc_33 (by omega) rfl rfl (Nat.le_of_ble_eq_true rfl) (c_X11_notes G ex n σ_30 F (s_ovr (s_m1 g p k l) (g 3)) p k l (s_tot (s_take g p k l)) hc_33 hc_31 (by omega) hg6) ?_
        rintro σ_37 ⟨hc_35, hf_36⟩
        have hc_38 : σ_37 279 = o11 G F := (hf_36 _ (by omega)).trans hc_33
        have hc_39 : σ_37 289 = q_an G 6724 va := (hf_36 _ (by omega)).trans hc_34
        refine A_aload_n hg dX11_plays_98 rfl rfl ?_
        refine A_getf (v := .ref (q_h G + 280)) hg fl_RX11_7 dX11_plays_99 hc_38 (by omega) rfl ?_
        refine A_iconst (v := (nI (4))) hg dX11_plays_102 (by decide) ?_
        refine A_dup2 hg dX11_plays_103 rfl rfl ?_
        refine A_iald (j := 4) hg dX11_plays_104 hc_35 (by omega) (by omega) (by decide) ?_
        refine A_iconst (v := (nI (1))) hg dX11_plays_105 (by decide) ?_
        refine A_iaddN hg dX11_plays_106 ?_
        refine A_iast (j := 4) (x := (((s_note (s_ovr (s_m1 g p k l) (g 3)) p k l (s_tot (s_take g p k l))) 4) + 1)) hg dX11_plays_107 hc_35 (by omega) (by omega) (by decide) (fun σ_40 hc_41 hf_42 => ?_)
        have hc_43 : σ_40 279 = o11 G F := (hf_42 _ (by omega)).trans hc_38
        have hc_44 : σ_40 289 = q_an G 6724 va := (hf_42 _ (by omega)).trans hc_39
        refine A_aload_n hg dX11_plays_108 rfl rfl ?_
        refine A_getf (v := .ref (q_h G + 280)) hg fl_RX11_7 dX11_plays_109 hc_43 (by omega) rfl ?_
        refine A_iconst (v := (nI (3))) hg dX11_plays_112 (by decide) ?_
        refine A_iconst (v := (nI (1))) hg dX11_plays_113 (by decide) ?_
        refine A_iload hg dX11_plays_114 rfl ?_
        refine A_isubN hg dX11_plays_116 (by omega) ?_
        refine A_iast (j := 3) (x := (1 - (g 3))) hg dX11_plays_117 hc_41 (by omega) (by omega) (by decide) (fun σ_45 hc_46 hf_47 => ?_)
        have hc_48 : σ_45 279 = o11 G F := (hf_47 _ (by omega)).trans hc_43
        have hc_49 : σ_45 289 = q_an G 6724 va := (hf_47 _ (by omega)).trans hc_44
        refine A_canon (s_play g p k l) hc_46 (fun j _ => rfl) (fun σ_50 hc_51 hf_52 => ?_)
        have hc_53 : σ_50 279 = o11 G F := (hf_52 _ (by omega)).trans hc_48
        have hc_54 : σ_50 289 = q_an G 6724 va := (hf_52 _ (by omega)).trans hc_49
        have hz : σ_50 279 = o11 G (upd (upd (upd F 17 (F 17)) 18 (F 18)) 19 (F 19)) := by rw [q_updF rfl, q_updF rfl, q_updF rfl]; exact hc_53
        rw [hQ]
        exact A_return hg (by decide) (by decide) rfl dX11_plays_118 ⟨rfl, ⟨rfl, _, _, _, hz, hc_51, (fun i hi => ((hf_52 i (by omega)).trans ((hf_47 i (by omega)).trans ((hf_42 i (by omega)).trans ((hf_36 i (by omega)).trans ((hf_32 i (by omega)).trans ((hf_26 i (by omega)).trans ((hf_18 i (by omega)).trans ((hf_12 i (by omega)).trans ((hf_7 i (by omega)).trans (hf_2 i (by omega))))))))))))⟩⟩
      · skip
        refine (?_ : AJ G K Q 0 0 ex n 78 [some (.ref (q_h G + 279)), some (.int (nI (p))), some (.int (nI (k))), some (.int (nI (l))), some (.int (nI (g 3))), some (.int (nI (s_tot g))), some (.int (nI (s_tot (s_take g p k l))))] [.int (nI (0))] σ_24)
        have hc_22 : σ_24 279 = o11 G (upd (upd (upd F 17 (nI (s_p1 (s_m1 g p k l) false))) 18 (nI (s_k1 (s_m1 g p k l) false (s_p1 (s_m1 g p k l) false)))) 19 (nI (s_l1 (s_m1 g p k l) false (s_p1 (s_m1 g p k l) false)))) := hc_22
        have hc_55 : σ_24 289 = q_an G 6724 va := (hf_23 _ (by omega)).trans hc_20
        have hc_56 : σ_24 280 = q_an G 265 (s_m1 g p k l) := (hf_23 _ (by omega)).trans hc_17
        refine A_if_eqN (tgt := 89) hg dX11_plays_78 (by decide) (by decide) (fun c78 => ?_) (fun c78 => absurd (by decide) c78)
        refine A_canon (s_ovr (s_m1 g p k l) (g 3)) hc_56 (fun j _ => by unfold s_ovr; first | rw [if_pos hov] | rw [if_neg (by rw [hov]; decide)]) (fun σ_57 hc_58 hf_59 => ?_)
        have hc_60 : σ_57 289 = q_an G 6724 va := (hf_59 _ (by omega)).trans hc_55
        have hc_61 : σ_57 279 = o11 G (upd (upd (upd F 17 (nI (s_p1 (s_m1 g p k l) false))) 18 (nI (s_k1 (s_m1 g p k l) false (s_p1 (s_m1 g p k l) false)))) 19 (nI (s_l1 (s_m1 g p k l) false (s_p1 (s_m1 g p k l) false)))) := (hf_59 _ (by omega)).trans hc_22
        refine A_aload_n hg dX11_plays_89 rfl rfl ?_
        refine A_iload_n hg dX11_plays_90 rfl rfl ?_
        refine A_iload_n hg dX11_plays_91 rfl rfl ?_
        refine A_iload_n hg dX11_plays_92 rfl rfl ?_
        refine A_iload hg dX11_plays_93 rfl ?_
        refine A_vV (kc2 := 0) (ks2 := 0) (As := [.int (nI (p)), .int (nI (k)), .int (nI (l)), .int (nI (s_tot (s_take g p k l)))]) (rest := []) hg lk_RX11_243 in_X11_notes se_X11_notes rfl dX11_plays_95 ⟨by decide, by decide⟩ rfl rfl ⟨by decide, by decide⟩ hc_61 (by omega) rfl rfl (Nat.le_of_ble_eq_true rfl) (c_X11_notes G ex n σ_57 (upd (upd (upd F 17 (nI (s_p1 (s_m1 g p k l) false))) 18 (nI (s_k1 (s_m1 g p k l) false (s_p1 (s_m1 g p k l) false)))) 19 (nI (s_l1 (s_m1 g p k l) false (s_p1 (s_m1 g p k l) false)))) (s_ovr (s_m1 g p k l) (g 3)) p k l (s_tot (s_take g p k l)) hc_61 hc_58 (by omega) hg6) ?_
        rintro σ_64 ⟨hc_62, hf_63⟩
        have hc_65 : σ_64 289 = q_an G 6724 va := (hf_63 _ (by omega)).trans hc_60
        have hc_66 : σ_64 279 = o11 G (upd (upd (upd F 17 (nI (s_p1 (s_m1 g p k l) false))) 18 (nI (s_k1 (s_m1 g p k l) false (s_p1 (s_m1 g p k l) false)))) 19 (nI (s_l1 (s_m1 g p k l) false (s_p1 (s_m1 g p k l) false)))) := (hf_63 _ (by omega)).trans hc_61
        refine A_aload_n hg dX11_plays_98 rfl rfl ?_
        refine A_getf (v := .ref (q_h G + 280)) hg fl_RX11_7 dX11_plays_99 hc_66 (by omega) rfl ?_
        refine A_iconst (v := (nI (4))) hg dX11_plays_102 (by decide) ?_
        refine A_dup2 hg dX11_plays_103 rfl rfl ?_
        refine A_iald (j := 4) hg dX11_plays_104 hc_62 (by omega) (by omega) (by decide) ?_
        refine A_iconst (v := (nI (1))) hg dX11_plays_105 (by decide) ?_
        refine A_iaddN hg dX11_plays_106 ?_
        refine A_iast (j := 4) (x := (((s_note (s_ovr (s_m1 g p k l) (g 3)) p k l (s_tot (s_take g p k l))) 4) + 1)) hg dX11_plays_107 hc_62 (by omega) (by omega) (by decide) (fun σ_67 hc_68 hf_69 => ?_)
        have hc_70 : σ_67 289 = q_an G 6724 va := (hf_69 _ (by omega)).trans hc_65
        have hc_71 : σ_67 279 = o11 G (upd (upd (upd F 17 (nI (s_p1 (s_m1 g p k l) false))) 18 (nI (s_k1 (s_m1 g p k l) false (s_p1 (s_m1 g p k l) false)))) 19 (nI (s_l1 (s_m1 g p k l) false (s_p1 (s_m1 g p k l) false)))) := (hf_69 _ (by omega)).trans hc_66
        refine A_aload_n hg dX11_plays_108 rfl rfl ?_
        refine A_getf (v := .ref (q_h G + 280)) hg fl_RX11_7 dX11_plays_109 hc_71 (by omega) rfl ?_
        refine A_iconst (v := (nI (3))) hg dX11_plays_112 (by decide) ?_
        refine A_iconst (v := (nI (1))) hg dX11_plays_113 (by decide) ?_
        refine A_iload hg dX11_plays_114 rfl ?_
        refine A_isubN hg dX11_plays_116 (by omega) ?_
        refine A_iast (j := 3) (x := (1 - (g 3))) hg dX11_plays_117 hc_68 (by omega) (by omega) (by decide) (fun σ_72 hc_73 hf_74 => ?_)
        have hc_75 : σ_72 289 = q_an G 6724 va := (hf_74 _ (by omega)).trans hc_70
        have hc_76 : σ_72 279 = o11 G (upd (upd (upd F 17 (nI (s_p1 (s_m1 g p k l) false))) 18 (nI (s_k1 (s_m1 g p k l) false (s_p1 (s_m1 g p k l) false)))) 19 (nI (s_l1 (s_m1 g p k l) false (s_p1 (s_m1 g p k l) false)))) := (hf_74 _ (by omega)).trans hc_71
        refine A_canon (s_play g p k l) hc_73 (fun j _ => rfl) (fun σ_77 hc_78 hf_79 => ?_)
        have hc_80 : σ_77 289 = q_an G 6724 va := (hf_79 _ (by omega)).trans hc_75
        have hc_81 : σ_77 279 = o11 G (upd (upd (upd F 17 (nI (s_p1 (s_m1 g p k l) false))) 18 (nI (s_k1 (s_m1 g p k l) false (s_p1 (s_m1 g p k l) false)))) 19 (nI (s_l1 (s_m1 g p k l) false (s_p1 (s_m1 g p k l) false)))) := (hf_79 _ (by omega)).trans hc_76
        rw [hQ]
        exact A_return hg (by decide) (by decide) rfl dX11_plays_118 ⟨rfl, ⟨rfl, _, _, _, hc_81, hc_78, (fun i hi => ((hf_79 i (by omega)).trans ((hf_74 i (by omega)).trans ((hf_69 i (by omega)).trans ((hf_63 i (by omega)).trans ((hf_59 i (by omega)).trans ((hf_23 i (by omega)).trans ((hf_18 i (by omega)).trans ((hf_12 i (by omega)).trans ((hf_7 i (by omega)).trans (hf_2 i (by omega))))))))))))⟩⟩
    · skip
      refine A_aload_n hg dX11_plays_66 rfl rfl ?_
      refine A_iload hg dX11_plays_67 rfl ?_
      refine A_iconst (v := (nI (4))) hg dX11_plays_69 (by decide) ?_
      refine A_iconst (v := (nI (1))) hg dX11_plays_70 (by decide) ?_
      refine A_vV (kc2 := 0) (ks2 := 0) (As := [.int (nI (g 3)), .int (nI (4)), .int (nI (1))]) (rest := []) hg lk_RX11_236 in_X11_grows se_X11_grows rfl dX11_plays_71 ⟨by decide, by decide⟩ rfl rfl ⟨by decide, by decide⟩ hc_14 (by omega) rfl rfl (Nat.le_of_ble_eq_true rfl) (c_X11_grows G ex n σ_13 F (s_grow (s_grow (s_take g p k l) (g 3) 0 1) (g 3) 1 (k + l)) (g 3) 4 1 hc_14 hc_11 (by omega) (by omega) (by omega)) ?_
      rintro σ_84 ⟨hc_82, hf_83⟩
      have hc_85 : σ_84 279 = o11 G F := (hf_83 _ (by omega)).trans hc_14
      have hc_86 : σ_84 289 = q_an G 6724 va := (hf_83 _ (by omega)).trans hc_15
      refine A_canon (s_m1 g p k l) hc_82 (fun j _ => by unfold s_m1 s_acc; first | rw [if_pos c47] | rw [if_neg c47, if_pos c63] | rw [if_neg c47, if_neg c63]) (fun σ_87 hc_88 hf_89 => ?_)
      have hc_90 : σ_87 279 = o11 G F := (hf_89 _ (by omega)).trans hc_85
      have hc_91 : σ_87 289 = q_an G 6724 va := (hf_89 _ (by omega)).trans hc_86
      refine A_aload_n hg dX11_plays_74 rfl rfl ?_
      refine A_hV (kc2 := 0) (ks2 := 0) (As := []) (rest := []) hg lk_RX11_239 in_X11_isOver se_X11_isOver rfl dX11_plays_75 ⟨by decide, by decide⟩ rfl rfl ⟨by decide, by decide⟩ hc_90 (by omega) rfl rfl (Nat.le_of_ble_eq_true rfl) (c_X11_isOver G ex n σ_87 F (s_m1 g p k l) va hc_90 hc_88 hc_91 (by omega) hgm hCm) ?_
      rintro _ σ_95 (⟨rfl, hov, he_92⟩ | ⟨rfl, hov, hc_93, hf_94⟩)
      · skip
        rw [he_92]
        refine (?_ : AJ G K Q 0 0 ex n 78 [some (.ref (q_h G + 279)), some (.int (nI (p))), some (.int (nI (k))), some (.int (nI (l))), some (.int (nI (g 3))), some (.int (nI (s_tot g))), some (.int (nI (s_tot (s_take g p k l))))] [.int (nI (1))] σ_87)
        refine A_if_eqN (tgt := 89) hg dX11_plays_78 (by decide) (by decide) (fun c78 => absurd c78 (by decide)) (fun c78 => ?_)
        refine A_aload_n hg dX11_plays_81 rfl rfl ?_
        refine A_iload hg dX11_plays_82 rfl ?_
        refine A_iconst (v := (nI (2))) hg dX11_plays_84 (by decide) ?_
        refine A_iconst (v := (nI (1))) hg dX11_plays_85 (by decide) ?_
        refine A_vV (kc2 := 0) (ks2 := 0) (As := [.int (nI (g 3)), .int (nI (2)), .int (nI (1))]) (rest := []) hg lk_RX11_236 in_X11_grows se_X11_grows rfl dX11_plays_86 ⟨by decide, by decide⟩ rfl rfl ⟨by decide, by decide⟩ hc_90 (by omega) rfl rfl (Nat.le_of_ble_eq_true rfl) (c_X11_grows G ex n σ_87 F (s_m1 g p k l) (g 3) 2 1 hc_90 hc_88 (by omega) (by omega) (by omega)) ?_
        rintro σ_98 ⟨hc_96, hf_97⟩
        have hc_99 : σ_98 279 = o11 G F := (hf_97 _ (by omega)).trans hc_90
        have hc_100 : σ_98 289 = q_an G 6724 va := (hf_97 _ (by omega)).trans hc_91
        refine A_canon (s_ovr (s_m1 g p k l) (g 3)) hc_96 (fun j _ => by unfold s_ovr; first | rw [if_pos hov] | rw [if_neg (by rw [hov]; decide)]) (fun σ_101 hc_102 hf_103 => ?_)
        have hc_104 : σ_101 279 = o11 G F := (hf_103 _ (by omega)).trans hc_99
        have hc_105 : σ_101 289 = q_an G 6724 va := (hf_103 _ (by omega)).trans hc_100
        refine A_aload_n hg dX11_plays_89 rfl rfl ?_
        refine A_iload_n hg dX11_plays_90 rfl rfl ?_
        refine A_iload_n hg dX11_plays_91 rfl rfl ?_
        refine A_iload_n hg dX11_plays_92 rfl rfl ?_
        refine A_iload hg dX11_plays_93 rfl ?_
        refine A_vV (kc2 := 0) (ks2 := 0) (As := [.int (nI (p)), .int (nI (k)), .int (nI (l)), .int (nI (s_tot (s_take g p k l)))]) (rest := []) hg lk_RX11_243 in_X11_notes se_X11_notes rfl dX11_plays_95 ⟨by decide, by decide⟩ rfl rfl ⟨by decide, by decide⟩ hc_104 (by omega) rfl rfl (Nat.le_of_ble_eq_true rfl) (c_X11_notes G ex n σ_101 F (s_ovr (s_m1 g p k l) (g 3)) p k l (s_tot (s_take g p k l)) hc_104 hc_102 (by omega) hg6) ?_
        rintro σ_108 ⟨hc_106, hf_107⟩
        have hc_109 : σ_108 279 = o11 G F := (hf_107 _ (by omega)).trans hc_104
        have hc_110 : σ_108 289 = q_an G 6724 va := (hf_107 _ (by omega)).trans hc_105
        refine A_aload_n hg dX11_plays_98 rfl rfl ?_
        refine A_getf (v := .ref (q_h G + 280)) hg fl_RX11_7 dX11_plays_99 hc_109 (by omega) rfl ?_
        refine A_iconst (v := (nI (4))) hg dX11_plays_102 (by decide) ?_
        refine A_dup2 hg dX11_plays_103 rfl rfl ?_
        refine A_iald (j := 4) hg dX11_plays_104 hc_106 (by omega) (by omega) (by decide) ?_
        refine A_iconst (v := (nI (1))) hg dX11_plays_105 (by decide) ?_
        refine A_iaddN hg dX11_plays_106 ?_
        refine A_iast (j := 4) (x := (((s_note (s_ovr (s_m1 g p k l) (g 3)) p k l (s_tot (s_take g p k l))) 4) + 1)) hg dX11_plays_107 hc_106 (by omega) (by omega) (by decide) (fun σ_111 hc_112 hf_113 => ?_)
        have hc_114 : σ_111 279 = o11 G F := (hf_113 _ (by omega)).trans hc_109
        have hc_115 : σ_111 289 = q_an G 6724 va := (hf_113 _ (by omega)).trans hc_110
        refine A_aload_n hg dX11_plays_108 rfl rfl ?_
        refine A_getf (v := .ref (q_h G + 280)) hg fl_RX11_7 dX11_plays_109 hc_114 (by omega) rfl ?_
        refine A_iconst (v := (nI (3))) hg dX11_plays_112 (by decide) ?_
        refine A_iconst (v := (nI (1))) hg dX11_plays_113 (by decide) ?_
        refine A_iload hg dX11_plays_114 rfl ?_
        refine A_isubN hg dX11_plays_116 (by omega) ?_
        refine A_iast (j := 3) (x := (1 - (g 3))) hg dX11_plays_117 hc_112 (by omega) (by omega) (by decide) (fun σ_116 hc_117 hf_118 => ?_)
        have hc_119 : σ_116 279 = o11 G F := (hf_118 _ (by omega)).trans hc_114
        have hc_120 : σ_116 289 = q_an G 6724 va := (hf_118 _ (by omega)).trans hc_115
        refine A_canon (s_play g p k l) hc_117 (fun j _ => rfl) (fun σ_121 hc_122 hf_123 => ?_)
        have hc_124 : σ_121 279 = o11 G F := (hf_123 _ (by omega)).trans hc_119
        have hc_125 : σ_121 289 = q_an G 6724 va := (hf_123 _ (by omega)).trans hc_120
        have hz : σ_121 279 = o11 G (upd (upd (upd F 17 (F 17)) 18 (F 18)) 19 (F 19)) := by rw [q_updF rfl, q_updF rfl, q_updF rfl]; exact hc_124
        rw [hQ]
        exact A_return hg (by decide) (by decide) rfl dX11_plays_118 ⟨rfl, ⟨rfl, _, _, _, hz, hc_122, (fun i hi => ((hf_123 i (by omega)).trans ((hf_118 i (by omega)).trans ((hf_113 i (by omega)).trans ((hf_107 i (by omega)).trans ((hf_103 i (by omega)).trans ((hf_97 i (by omega)).trans ((hf_89 i (by omega)).trans ((hf_83 i (by omega)).trans ((hf_12 i (by omega)).trans ((hf_7 i (by omega)).trans (hf_2 i (by omega)))))))))))))⟩⟩
      · skip
        refine (?_ : AJ G K Q 0 0 ex n 78 [some (.ref (q_h G + 279)), some (.int (nI (p))), some (.int (nI (k))), some (.int (nI (l))), some (.int (nI (g 3))), some (.int (nI (s_tot g))), some (.int (nI (s_tot (s_take g p k l))))] [.int (nI (0))] σ_95)
        have hc_93 : σ_95 279 = o11 G (upd (upd (upd F 17 (nI (s_p1 (s_m1 g p k l) false))) 18 (nI (s_k1 (s_m1 g p k l) false (s_p1 (s_m1 g p k l) false)))) 19 (nI (s_l1 (s_m1 g p k l) false (s_p1 (s_m1 g p k l) false)))) := hc_93
        have hc_126 : σ_95 289 = q_an G 6724 va := (hf_94 _ (by omega)).trans hc_91
        have hc_127 : σ_95 280 = q_an G 265 (s_m1 g p k l) := (hf_94 _ (by omega)).trans hc_88
        refine A_if_eqN (tgt := 89) hg dX11_plays_78 (by decide) (by decide) (fun c78 => ?_) (fun c78 => absurd (by decide) c78)
        refine A_canon (s_ovr (s_m1 g p k l) (g 3)) hc_127 (fun j _ => by unfold s_ovr; first | rw [if_pos hov] | rw [if_neg (by rw [hov]; decide)]) (fun σ_128 hc_129 hf_130 => ?_)
        have hc_131 : σ_128 289 = q_an G 6724 va := (hf_130 _ (by omega)).trans hc_126
        have hc_132 : σ_128 279 = o11 G (upd (upd (upd F 17 (nI (s_p1 (s_m1 g p k l) false))) 18 (nI (s_k1 (s_m1 g p k l) false (s_p1 (s_m1 g p k l) false)))) 19 (nI (s_l1 (s_m1 g p k l) false (s_p1 (s_m1 g p k l) false)))) := (hf_130 _ (by omega)).trans hc_93
        refine A_aload_n hg dX11_plays_89 rfl rfl ?_
        refine A_iload_n hg dX11_plays_90 rfl rfl ?_
        refine A_iload_n hg dX11_plays_91 rfl rfl ?_
        refine A_iload_n hg dX11_plays_92 rfl rfl ?_
        refine A_iload hg dX11_plays_93 rfl ?_
        refine A_vV (kc2 := 0) (ks2 := 0) (As := [.int (nI (p)), .int (nI (k)), .int (nI (l)), .int (nI (s_tot (s_take g p k l)))]) (rest := []) hg lk_RX11_243 in_X11_notes se_X11_notes rfl dX11_plays_95 ⟨by decide, by decide⟩ rfl rfl ⟨by decide, by decide⟩ hc_132 (by omega) rfl rfl (Nat.le_of_ble_eq_true rfl) (c_X11_notes G ex n σ_128 (upd (upd (upd F 17 (nI (s_p1 (s_m1 g p k l) false))) 18 (nI (s_k1 (s_m1 g p k l) false (s_p1 (s_m1 g p k l) false)))) 19 (nI (s_l1 (s_m1 g p k l) false (s_p1 (s_m1 g p k l) false)))) (s_ovr (s_m1 g p k l) (g 3)) p k l (s_tot (s_take g p k l)) hc_132 hc_129 (by omega) hg6) ?_
        rintro σ_135 ⟨hc_133, hf_134⟩
        have hc_136 : σ_135 289 = q_an G 6724 va := (hf_134 _ (by omega)).trans hc_131
        have hc_137 : σ_135 279 = o11 G (upd (upd (upd F 17 (nI (s_p1 (s_m1 g p k l) false))) 18 (nI (s_k1 (s_m1 g p k l) false (s_p1 (s_m1 g p k l) false)))) 19 (nI (s_l1 (s_m1 g p k l) false (s_p1 (s_m1 g p k l) false)))) := (hf_134 _ (by omega)).trans hc_132
        refine A_aload_n hg dX11_plays_98 rfl rfl ?_
        refine A_getf (v := .ref (q_h G + 280)) hg fl_RX11_7 dX11_plays_99 hc_137 (by omega) rfl ?_
        refine A_iconst (v := (nI (4))) hg dX11_plays_102 (by decide) ?_
        refine A_dup2 hg dX11_plays_103 rfl rfl ?_
        refine A_iald (j := 4) hg dX11_plays_104 hc_133 (by omega) (by omega) (by decide) ?_
        refine A_iconst (v := (nI (1))) hg dX11_plays_105 (by decide) ?_
        refine A_iaddN hg dX11_plays_106 ?_
        refine A_iast (j := 4) (x := (((s_note (s_ovr (s_m1 g p k l) (g 3)) p k l (s_tot (s_take g p k l))) 4) + 1)) hg dX11_plays_107 hc_133 (by omega) (by omega) (by decide) (fun σ_138 hc_139 hf_140 => ?_)
        have hc_141 : σ_138 289 = q_an G 6724 va := (hf_140 _ (by omega)).trans hc_136
        have hc_142 : σ_138 279 = o11 G (upd (upd (upd F 17 (nI (s_p1 (s_m1 g p k l) false))) 18 (nI (s_k1 (s_m1 g p k l) false (s_p1 (s_m1 g p k l) false)))) 19 (nI (s_l1 (s_m1 g p k l) false (s_p1 (s_m1 g p k l) false)))) := (hf_140 _ (by omega)).trans hc_137
        refine A_aload_n hg dX11_plays_108 rfl rfl ?_
        refine A_getf (v := .ref (q_h G + 280)) hg fl_RX11_7 dX11_plays_109 hc_142 (by omega) rfl ?_
        refine A_iconst (v := (nI (3))) hg dX11_plays_112 (by decide) ?_
        refine A_iconst (v := (nI (1))) hg dX11_plays_113 (by decide) ?_
        refine A_iload hg dX11_plays_114 rfl ?_
        refine A_isubN hg dX11_plays_116 (by omega) ?_
        refine A_iast (j := 3) (x := (1 - (g 3))) hg dX11_plays_117 hc_139 (by omega) (by omega) (by decide) (fun σ_143 hc_144 hf_145 => ?_)
        have hc_146 : σ_143 289 = q_an G 6724 va := (hf_145 _ (by omega)).trans hc_141
        have hc_147 : σ_143 279 = o11 G (upd (upd (upd F 17 (nI (s_p1 (s_m1 g p k l) false))) 18 (nI (s_k1 (s_m1 g p k l) false (s_p1 (s_m1 g p k l) false)))) 19 (nI (s_l1 (s_m1 g p k l) false (s_p1 (s_m1 g p k l) false)))) := (hf_145 _ (by omega)).trans hc_142
        refine A_canon (s_play g p k l) hc_144 (fun j _ => rfl) (fun σ_148 hc_149 hf_150 => ?_)
        have hc_151 : σ_148 289 = q_an G 6724 va := (hf_150 _ (by omega)).trans hc_146
        have hc_152 : σ_148 279 = o11 G (upd (upd (upd F 17 (nI (s_p1 (s_m1 g p k l) false))) 18 (nI (s_k1 (s_m1 g p k l) false (s_p1 (s_m1 g p k l) false)))) 19 (nI (s_l1 (s_m1 g p k l) false (s_p1 (s_m1 g p k l) false)))) := (hf_150 _ (by omega)).trans hc_147
        rw [hQ]
        exact A_return hg (by decide) (by decide) rfl dX11_plays_118 ⟨rfl, ⟨rfl, _, _, _, hc_152, hc_149, (fun i hi => ((hf_150 i (by omega)).trans ((hf_145 i (by omega)).trans ((hf_140 i (by omega)).trans ((hf_134 i (by omega)).trans ((hf_130 i (by omega)).trans ((hf_94 i (by omega)).trans ((hf_89 i (by omega)).trans ((hf_83 i (by omega)).trans ((hf_12 i (by omega)).trans ((hf_7 i (by omega)).trans (hf_2 i (by omega)))))))))))))⟩⟩
  · skip
    refine A_aload_n hg dX11_plays_50 rfl rfl ?_
    refine A_iload hg dX11_plays_51 rfl ?_
    refine A_iconst (v := (nI (3))) hg dX11_plays_53 (by decide) ?_
    refine A_iconst (v := (nI (1))) hg dX11_plays_54 (by decide) ?_
    refine A_vV (kc2 := 0) (ks2 := 0) (As := [.int (nI (g 3)), .int (nI (3)), .int (nI (1))]) (rest := []) hg lk_RX11_236 in_X11_grows se_X11_grows rfl dX11_plays_55 ⟨by decide, by decide⟩ rfl rfl ⟨by decide, by decide⟩ hc_14 (by omega) rfl rfl (Nat.le_of_ble_eq_true rfl) (c_X11_grows G ex n σ_13 F (s_grow (s_grow (s_take g p k l) (g 3) 0 1) (g 3) 1 (k + l)) (g 3) 3 1 hc_14 hc_11 (by omega) (by omega) (by omega)) ?_
    rintro σ_155 ⟨hc_153, hf_154⟩
    have hc_156 : σ_155 279 = o11 G F := (hf_154 _ (by omega)).trans hc_14
    have hc_157 : σ_155 289 = q_an G 6724 va := (hf_154 _ (by omega)).trans hc_15
    refine A_goto (tgt := 74) hg dX11_plays_58 (by decide) ?_
    refine A_canon (s_m1 g p k l) hc_153 (fun j _ => by unfold s_m1 s_acc; first | rw [if_pos c47] | rw [if_neg c47, if_pos c63] | rw [if_neg c47, if_neg c63]) (fun σ_158 hc_159 hf_160 => ?_)
    have hc_161 : σ_158 279 = o11 G F := (hf_160 _ (by omega)).trans hc_156
    have hc_162 : σ_158 289 = q_an G 6724 va := (hf_160 _ (by omega)).trans hc_157
    refine A_aload_n hg dX11_plays_74 rfl rfl ?_
    refine A_hV (kc2 := 0) (ks2 := 0) (As := []) (rest := []) hg lk_RX11_239 in_X11_isOver se_X11_isOver rfl dX11_plays_75 ⟨by decide, by decide⟩ rfl rfl ⟨by decide, by decide⟩ hc_161 (by omega) rfl rfl (Nat.le_of_ble_eq_true rfl) (c_X11_isOver G ex n σ_158 F (s_m1 g p k l) va hc_161 hc_159 hc_162 (by omega) hgm hCm) ?_
    rintro _ σ_166 (⟨rfl, hov, he_163⟩ | ⟨rfl, hov, hc_164, hf_165⟩)
    · skip
      rw [he_163]
      refine (?_ : AJ G K Q 0 0 ex n 78 [some (.ref (q_h G + 279)), some (.int (nI (p))), some (.int (nI (k))), some (.int (nI (l))), some (.int (nI (g 3))), some (.int (nI (s_tot g))), some (.int (nI (s_tot (s_take g p k l))))] [.int (nI (1))] σ_158)
      refine A_if_eqN (tgt := 89) hg dX11_plays_78 (by decide) (by decide) (fun c78 => absurd c78 (by decide)) (fun c78 => ?_)
      refine A_aload_n hg dX11_plays_81 rfl rfl ?_
      refine A_iload hg dX11_plays_82 rfl ?_
      refine A_iconst (v := (nI (2))) hg dX11_plays_84 (by decide) ?_
      refine A_iconst (v := (nI (1))) hg dX11_plays_85 (by decide) ?_
      refine A_vV (kc2 := 0) (ks2 := 0) (As := [.int (nI (g 3)), .int (nI (2)), .int (nI (1))]) (rest := []) hg lk_RX11_236 in_X11_grows se_X11_grows rfl dX11_plays_86 ⟨by decide, by decide⟩ rfl rfl ⟨by decide, by decide⟩ hc_161 (by omega) rfl rfl (Nat.le_of_ble_eq_true rfl) (c_X11_grows G ex n σ_158 F (s_m1 g p k l) (g 3) 2 1 hc_161 hc_159 (by omega) (by omega) (by omega)) ?_
      rintro σ_169 ⟨hc_167, hf_168⟩
      have hc_170 : σ_169 279 = o11 G F := (hf_168 _ (by omega)).trans hc_161
      have hc_171 : σ_169 289 = q_an G 6724 va := (hf_168 _ (by omega)).trans hc_162
      refine A_canon (s_ovr (s_m1 g p k l) (g 3)) hc_167 (fun j _ => by unfold s_ovr; first | rw [if_pos hov] | rw [if_neg (by rw [hov]; decide)]) (fun σ_172 hc_173 hf_174 => ?_)
      have hc_175 : σ_172 279 = o11 G F := (hf_174 _ (by omega)).trans hc_170
      have hc_176 : σ_172 289 = q_an G 6724 va := (hf_174 _ (by omega)).trans hc_171
      refine A_aload_n hg dX11_plays_89 rfl rfl ?_
      refine A_iload_n hg dX11_plays_90 rfl rfl ?_
      refine A_iload_n hg dX11_plays_91 rfl rfl ?_
      refine A_iload_n hg dX11_plays_92 rfl rfl ?_
      refine A_iload hg dX11_plays_93 rfl ?_
      refine A_vV (kc2 := 0) (ks2 := 0) (As := [.int (nI (p)), .int (nI (k)), .int (nI (l)), .int (nI (s_tot (s_take g p k l)))]) (rest := []) hg lk_RX11_243 in_X11_notes se_X11_notes rfl dX11_plays_95 ⟨by decide, by decide⟩ rfl rfl ⟨by decide, by decide⟩ hc_175 (by omega) rfl rfl (Nat.le_of_ble_eq_true rfl) (c_X11_notes G ex n σ_172 F (s_ovr (s_m1 g p k l) (g 3)) p k l (s_tot (s_take g p k l)) hc_175 hc_173 (by omega) hg6) ?_
      rintro σ_179 ⟨hc_177, hf_178⟩
      have hc_180 : σ_179 279 = o11 G F := (hf_178 _ (by omega)).trans hc_175
      have hc_181 : σ_179 289 = q_an G 6724 va := (hf_178 _ (by omega)).trans hc_176
      refine A_aload_n hg dX11_plays_98 rfl rfl ?_
      refine A_getf (v := .ref (q_h G + 280)) hg fl_RX11_7 dX11_plays_99 hc_180 (by omega) rfl ?_
      refine A_iconst (v := (nI (4))) hg dX11_plays_102 (by decide) ?_
      refine A_dup2 hg dX11_plays_103 rfl rfl ?_
      refine A_iald (j := 4) hg dX11_plays_104 hc_177 (by omega) (by omega) (by decide) ?_
      refine A_iconst (v := (nI (1))) hg dX11_plays_105 (by decide) ?_
      refine A_iaddN hg dX11_plays_106 ?_
      refine A_iast (j := 4) (x := (((s_note (s_ovr (s_m1 g p k l) (g 3)) p k l (s_tot (s_take g p k l))) 4) + 1)) hg dX11_plays_107 hc_177 (by omega) (by omega) (by decide) (fun σ_182 hc_183 hf_184 => ?_)
      have hc_185 : σ_182 279 = o11 G F := (hf_184 _ (by omega)).trans hc_180
      have hc_186 : σ_182 289 = q_an G 6724 va := (hf_184 _ (by omega)).trans hc_181
      refine A_aload_n hg dX11_plays_108 rfl rfl ?_
      refine A_getf (v := .ref (q_h G + 280)) hg fl_RX11_7 dX11_plays_109 hc_185 (by omega) rfl ?_
      refine A_iconst (v := (nI (3))) hg dX11_plays_112 (by decide) ?_
      refine A_iconst (v := (nI (1))) hg dX11_plays_113 (by decide) ?_
      refine A_iload hg dX11_plays_114 rfl ?_
      refine A_isubN hg dX11_plays_116 (by omega) ?_
      refine A_iast (j := 3) (x := (1 - (g 3))) hg dX11_plays_117 hc_183 (by omega) (by omega) (by decide) (fun σ_187 hc_188 hf_189 => ?_)
      have hc_190 : σ_187 279 = o11 G F := (hf_189 _ (by omega)).trans hc_185
      have hc_191 : σ_187 289 = q_an G 6724 va := (hf_189 _ (by omega)).trans hc_186
      refine A_canon (s_play g p k l) hc_188 (fun j _ => rfl) (fun σ_192 hc_193 hf_194 => ?_)
      have hc_195 : σ_192 279 = o11 G F := (hf_194 _ (by omega)).trans hc_190
      have hc_196 : σ_192 289 = q_an G 6724 va := (hf_194 _ (by omega)).trans hc_191
      have hz : σ_192 279 = o11 G (upd (upd (upd F 17 (F 17)) 18 (F 18)) 19 (F 19)) := by rw [q_updF rfl, q_updF rfl, q_updF rfl]; exact hc_195
      rw [hQ]
      exact A_return hg (by decide) (by decide) rfl dX11_plays_118 ⟨rfl, ⟨rfl, _, _, _, hz, hc_193, (fun i hi => ((hf_194 i (by omega)).trans ((hf_189 i (by omega)).trans ((hf_184 i (by omega)).trans ((hf_178 i (by omega)).trans ((hf_174 i (by omega)).trans ((hf_168 i (by omega)).trans ((hf_160 i (by omega)).trans ((hf_154 i (by omega)).trans ((hf_12 i (by omega)).trans ((hf_7 i (by omega)).trans (hf_2 i (by omega)))))))))))))⟩⟩
    · skip
      refine (?_ : AJ G K Q 0 0 ex n 78 [some (.ref (q_h G + 279)), some (.int (nI (p))), some (.int (nI (k))), some (.int (nI (l))), some (.int (nI (g 3))), some (.int (nI (s_tot g))), some (.int (nI (s_tot (s_take g p k l))))] [.int (nI (0))] σ_166)
      have hc_164 : σ_166 279 = o11 G (upd (upd (upd F 17 (nI (s_p1 (s_m1 g p k l) false))) 18 (nI (s_k1 (s_m1 g p k l) false (s_p1 (s_m1 g p k l) false)))) 19 (nI (s_l1 (s_m1 g p k l) false (s_p1 (s_m1 g p k l) false)))) := hc_164
      have hc_197 : σ_166 289 = q_an G 6724 va := (hf_165 _ (by omega)).trans hc_162
      have hc_198 : σ_166 280 = q_an G 265 (s_m1 g p k l) := (hf_165 _ (by omega)).trans hc_159
      refine A_if_eqN (tgt := 89) hg dX11_plays_78 (by decide) (by decide) (fun c78 => ?_) (fun c78 => absurd (by decide) c78)
      refine A_canon (s_ovr (s_m1 g p k l) (g 3)) hc_198 (fun j _ => by unfold s_ovr; first | rw [if_pos hov] | rw [if_neg (by rw [hov]; decide)]) (fun σ_199 hc_200 hf_201 => ?_)
      have hc_202 : σ_199 289 = q_an G 6724 va := (hf_201 _ (by omega)).trans hc_197
      have hc_203 : σ_199 279 = o11 G (upd (upd (upd F 17 (nI (s_p1 (s_m1 g p k l) false))) 18 (nI (s_k1 (s_m1 g p k l) false (s_p1 (s_m1 g p k l) false)))) 19 (nI (s_l1 (s_m1 g p k l) false (s_p1 (s_m1 g p k l) false)))) := (hf_201 _ (by omega)).trans hc_164
      refine A_aload_n hg dX11_plays_89 rfl rfl ?_
      refine A_iload_n hg dX11_plays_90 rfl rfl ?_
      refine A_iload_n hg dX11_plays_91 rfl rfl ?_
      refine A_iload_n hg dX11_plays_92 rfl rfl ?_
      refine A_iload hg dX11_plays_93 rfl ?_
      refine A_vV (kc2 := 0) (ks2 := 0) (As := [.int (nI (p)), .int (nI (k)), .int (nI (l)), .int (nI (s_tot (s_take g p k l)))]) (rest := []) hg lk_RX11_243 in_X11_notes se_X11_notes rfl dX11_plays_95 ⟨by decide, by decide⟩ rfl rfl ⟨by decide, by decide⟩ hc_203 (by omega) rfl rfl (Nat.le_of_ble_eq_true rfl) (c_X11_notes G ex n σ_199 (upd (upd (upd F 17 (nI (s_p1 (s_m1 g p k l) false))) 18 (nI (s_k1 (s_m1 g p k l) false (s_p1 (s_m1 g p k l) false)))) 19 (nI (s_l1 (s_m1 g p k l) false (s_p1 (s_m1 g p k l) false)))) (s_ovr (s_m1 g p k l) (g 3)) p k l (s_tot (s_take g p k l)) hc_203 hc_200 (by omega) hg6) ?_
      rintro σ_206 ⟨hc_204, hf_205⟩
      have hc_207 : σ_206 289 = q_an G 6724 va := (hf_205 _ (by omega)).trans hc_202
      have hc_208 : σ_206 279 = o11 G (upd (upd (upd F 17 (nI (s_p1 (s_m1 g p k l) false))) 18 (nI (s_k1 (s_m1 g p k l) false (s_p1 (s_m1 g p k l) false)))) 19 (nI (s_l1 (s_m1 g p k l) false (s_p1 (s_m1 g p k l) false)))) := (hf_205 _ (by omega)).trans hc_203
      refine A_aload_n hg dX11_plays_98 rfl rfl ?_
      refine A_getf (v := .ref (q_h G + 280)) hg fl_RX11_7 dX11_plays_99 hc_208 (by omega) rfl ?_
      refine A_iconst (v := (nI (4))) hg dX11_plays_102 (by decide) ?_
      refine A_dup2 hg dX11_plays_103 rfl rfl ?_
      refine A_iald (j := 4) hg dX11_plays_104 hc_204 (by omega) (by omega) (by decide) ?_
      refine A_iconst (v := (nI (1))) hg dX11_plays_105 (by decide) ?_
      refine A_iaddN hg dX11_plays_106 ?_
      refine A_iast (j := 4) (x := (((s_note (s_ovr (s_m1 g p k l) (g 3)) p k l (s_tot (s_take g p k l))) 4) + 1)) hg dX11_plays_107 hc_204 (by omega) (by omega) (by decide) (fun σ_209 hc_210 hf_211 => ?_)
      have hc_212 : σ_209 289 = q_an G 6724 va := (hf_211 _ (by omega)).trans hc_207
      have hc_213 : σ_209 279 = o11 G (upd (upd (upd F 17 (nI (s_p1 (s_m1 g p k l) false))) 18 (nI (s_k1 (s_m1 g p k l) false (s_p1 (s_m1 g p k l) false)))) 19 (nI (s_l1 (s_m1 g p k l) false (s_p1 (s_m1 g p k l) false)))) := (hf_211 _ (by omega)).trans hc_208
      refine A_aload_n hg dX11_plays_108 rfl rfl ?_
      refine A_getf (v := .ref (q_h G + 280)) hg fl_RX11_7 dX11_plays_109 hc_213 (by omega) rfl ?_
      refine A_iconst (v := (nI (3))) hg dX11_plays_112 (by decide) ?_
      refine A_iconst (v := (nI (1))) hg dX11_plays_113 (by decide) ?_
      refine A_iload hg dX11_plays_114 rfl ?_
      refine A_isubN hg dX11_plays_116 (by omega) ?_
      refine A_iast (j := 3) (x := (1 - (g 3))) hg dX11_plays_117 hc_210 (by omega) (by omega) (by decide) (fun σ_214 hc_215 hf_216 => ?_)
      have hc_217 : σ_214 289 = q_an G 6724 va := (hf_216 _ (by omega)).trans hc_212
      have hc_218 : σ_214 279 = o11 G (upd (upd (upd F 17 (nI (s_p1 (s_m1 g p k l) false))) 18 (nI (s_k1 (s_m1 g p k l) false (s_p1 (s_m1 g p k l) false)))) 19 (nI (s_l1 (s_m1 g p k l) false (s_p1 (s_m1 g p k l) false)))) := (hf_216 _ (by omega)).trans hc_213
      refine A_canon (s_play g p k l) hc_215 (fun j _ => rfl) (fun σ_219 hc_220 hf_221 => ?_)
      have hc_222 : σ_219 289 = q_an G 6724 va := (hf_221 _ (by omega)).trans hc_217
      have hc_223 : σ_219 279 = o11 G (upd (upd (upd F 17 (nI (s_p1 (s_m1 g p k l) false))) 18 (nI (s_k1 (s_m1 g p k l) false (s_p1 (s_m1 g p k l) false)))) 19 (nI (s_l1 (s_m1 g p k l) false (s_p1 (s_m1 g p k l) false)))) := (hf_221 _ (by omega)).trans hc_218
      rw [hQ]
      exact A_return hg (by decide) (by decide) rfl dX11_plays_118 ⟨rfl, ⟨rfl, _, _, _, hc_223, hc_220, (fun i hi => ((hf_221 i (by omega)).trans ((hf_216 i (by omega)).trans ((hf_211 i (by omega)).trans ((hf_205 i (by omega)).trans ((hf_201 i (by omega)).trans ((hf_165 i (by omega)).trans ((hf_160 i (by omega)).trans ((hf_154 i (by omega)).trans ((hf_12 i (by omega)).trans ((hf_7 i (by omega)).trans (hf_2 i (by omega)))))))))))))⟩⟩
set_option maxRecDepth 100000 in
set_option maxHeartbeats 4000000 in
theorem c_X11_follows (G : GL) (ex : Bool) (n : Nat) (σ : Nat → va_E) (F : Nat → Int32) (g : Nat → Nat) (va : Nat → Nat) (m : Nat) (hc0 : σ 279 = o11 G F) (hc1 : σ 280 = q_an G 265 g) (hc2 : σ 289 = q_an G 6724 va) (hn : 294 ≤ n) (hg9 : s_gwf g) (hCV : ∀ r : Nat, r < g 0 → ∀ q : Nat, q < 1681 → va (1681 * r + q) = s_V (s_rule g r) q) (hm : m < 2 ^ 31) : Ct G yX11_follows cX11_follows 3 (some .int) ⟨8, 0, 0, 186⟩ [.ref (q_h G + 279), .int (nI (m))] ex n σ (fun v9 σ2 => ∃ (a : Int32), ∃ (b : Int32), ∃ (c : Int32), v9 = some (.int (nI (s_fn g m))) ∧ σ2 279 = o11 G (upd (upd (upd F 17 (a)) 18 (b)) 19 (c)) ∧ σ2 280 = q_an G 265 (s_it g (s_fn g m)) ∧ (∀ i : Nat, i ≠ 279 ∧ i ≠ 280 → σ2 i = σ i)) := by
  refine q_enter [some (.ref (q_h G + 279)), some (.int (nI (m))), none] (by decide) (Nat.le_of_ble_eq_true rfl) rfl ?_
  intro K hg
  obtain ⟨Q, hQ⟩ : ∃ Q, Q = q_Q G K ex n 0 0 (fun v9 n' σ' => n' = n ∧ (fun v9 σ2 => ∃ (a : Int32), ∃ (b : Int32), ∃ (c : Int32), v9 = some (.int (nI (s_fn g m))) ∧ σ2 279 = o11 G (upd (upd (upd F 17 (a)) 18 (b)) 19 (c)) ∧ σ2 280 = q_an G 265 (s_it g (s_fn g m)) ∧ (∀ i : Nat, i ≠ 279 ∧ i ≠ 280 → σ2 i = σ i)) v9 σ') q_noX := ⟨_, rfl⟩
  refine (?_ : AJ G K (q_Q G K ex n 0 0 _ _) 0 0 ex n 0 _ _ σ)
  rw [← hQ]
  refine A_iconst (v := (nI (0))) hg dX11_follows_0 (by decide) ?_
  refine A_istore_n hg dX11_follows_1 rfl (by decide) (q_c1d rfl) ?_
  refine A_eq (ls2 := [some (.ref (q_h G + 279)), some (.int (nI (m))), some (.int (nI (0)))]) (st2 := []) (pc2 := 0) rfl rfl ?_
  have hL2 : ∀ (fu : Nat) (z : Nat) (a1 : Int32) (b1 : Int32) (c1 : Int32) (σ_1 : Nat → va_E), (σ_1 279 = o11 G (upd (upd (upd F 17 (a1)) 18 (b1)) 19 (c1))) → (σ_1 280 = q_an G 265 (s_it g z)) → (σ_1 289 = q_an G 6724 va) → (∀ i : Nat, i ≠ 279 ∧ i ≠ 280 → σ_1 i = σ i) → (z ≤ m) → (∀ j : Nat, j < z → (!(s_adv (s_it g j))) = false) → (m - z) < fu → AJ G K Q 0 0 ex n 2 [some (.ref (q_h G + 279)), some (.int (nI (m))), some (.int (nI (z)))] [] σ_1 := by
    intro fu
    induction fu with
    | zero => intro z a1 b1 c1 σ_1 hc_2 hc_3 hc_4 hf_5 hz hno hm; exact absurd hm (Nat.not_lt_zero _)
    | succ fu ih2 =>
      intro z a1 b1 c1 σ_1 hc_2 hc_3 hc_4 hf_5 hz hno hm2
      have hgz := s_gwf_it hg9 z
      have hCz := s_it_CV hg9 z hCV
      refine A_iload_n hg dX11_follows_2 rfl rfl ?_
      refine A_iload_n hg dX11_follows_3 rfl rfl ?_
      refine A_icmp_geN (tgt := 36) hg dX11_follows_4 (by omega) (by omega) (by decide) (fun c4 => ?_) (fun c4 => ?_)
      · skip
        refine A_iload_n hg dX11_follows_36 rfl rfl ?_
        have hfn : s_fn g m = z := by
          first
          | exact s_first_eq (by omega) (by rw [hadv]; rfl) hno
          | (rw [show m = z by omega]; exact s_first_none hno)
        have hzz : σ_1 280 = q_an G 265 (s_it g (s_fn g m)) := by rw [hfn]; exact hc_3
        rw [hQ]
        exact A_ireturn hg (by decide) (by decide) rfl dX11_follows_37 ⟨rfl, ⟨_, _, _, (by rw [hfn]), hc_2, hzz, (fun i hi => (hf_5 i (by omega)))⟩⟩
      · skip
        refine A_aload_n hg dX11_follows_7 rfl rfl ?_
        refine A_hV (kc2 := 0) (ks2 := 0) (As := []) (rest := []) hg lk_RX11_247 in_X11_advises se_X11_advises rfl dX11_follows_8 ⟨by decide, by decide⟩ rfl rfl ⟨by decide, by decide⟩ hc_2 (by omega) rfl rfl (Nat.le_of_ble_eq_true rfl) (c_X11_advises G ex n σ_1 (upd (upd (upd F 17 (a1)) 18 (b1)) 19 (c1)) (s_it g z) va hc_2 hc_3 hc_4 (by omega) hgz hCz) ?_
        rintro _ σ_9 (⟨rfl, hadv, hc_6, hf_7⟩ | ⟨rfl, hadv, he_8⟩)
        · skip
          refine (?_ : AJ G K Q 0 0 ex n 11 [some (.ref (q_h G + 279)), some (.int (nI (m))), some (.int (nI (z)))] [.int (nI (1))] σ_9)
          have hc_6 : σ_9 279 = o11 G (upd (upd (upd F 17 (nI (s_ap (s_it g z)))) 18 (nI (s_ak (s_it g z)))) 19 (nI (s_al2 (s_it g z)))) := hc_6
          have hc_10 : σ_9 280 = q_an G 265 (s_it g z) := (hf_7 _ (by omega)).trans hc_3
          have hc_11 : σ_9 289 = q_an G 6724 va := (hf_7 _ (by omega)).trans hc_4
          refine A_if_eqN (tgt := 36) hg dX11_follows_11 (by decide) (by decide) (fun c11 => absurd c11 (by decide)) (fun c11 => ?_)
          have hao := s_adv_ok hadv
          refine A_aload_n hg dX11_follows_14 rfl rfl ?_
          refine A_aload_n hg dX11_follows_15 rfl rfl ?_
          refine A_getf (v := .int (nI (s_ap (s_it g z)))) hg fl_RX11_216 dX11_follows_16 hc_6 (by omega) rfl ?_
          refine A_aload_n hg dX11_follows_19 rfl rfl ?_
          refine A_getf (v := .int (nI (s_ak (s_it g z)))) hg fl_RX11_219 dX11_follows_20 hc_6 (by omega) rfl ?_
          refine A_aload_n hg dX11_follows_23 rfl rfl ?_
          refine A_getf (v := .int (nI (s_al2 (s_it g z)))) hg fl_RX11_222 dX11_follows_24 hc_6 (by omega) rfl ?_
          refine A_vV (kc2 := 0) (ks2 := 0) (As := [.int (nI (s_ap (s_it g z))), .int (nI (s_ak (s_it g z))), .int (nI (s_al2 (s_it g z)))]) (rest := []) hg lk_RX11_250 in_X11_plays se_X11_plays rfl dX11_follows_27 ⟨by decide, by decide⟩ rfl rfl ⟨by decide, by decide⟩ hc_6 (by omega) rfl rfl (Nat.le_of_ble_eq_true rfl) (c_X11_plays G ex n σ_9 (upd (upd (upd F 17 (nI (s_ap (s_it g z)))) 18 (nI (s_ak (s_it g z)))) 19 (nI (s_al2 (s_it g z)))) (s_it g z) va (s_ap (s_it g z)) (s_ak (s_it g z)) (s_al2 (s_it g z)) hc_6 hc_10 hc_11 (by omega) hgz hao.1 hCz hao.2.1 hao.2.2.1) ?_
          rintro σ_18 ⟨a_12, b_13, c_14, hc_15, hc_16, hf_17⟩
          have hc_15 : σ_18 279 = o11 G (upd (upd (upd F 17 (a_12)) 18 (b_13)) 19 (c_14)) := hc_15
          have hc_19 : σ_18 289 = q_an G 6724 va := (hf_17 _ (by omega)).trans hc_11
          refine A_canon (s_it g (z + 1)) hc_16 (fun j _ => by rw [s_it_s hadv]) (fun σ_20 hc_21 hf_22 => ?_)
          have hc_23 : σ_20 289 = q_an G 6724 va := (hf_22 _ (by omega)).trans hc_19
          have hc_24 : σ_20 279 = o11 G (upd (upd (upd F 17 (a_12)) 18 (b_13)) 19 (c_14)) := (hf_22 _ (by omega)).trans hc_15
          refine A_iincN (k' := 1) hg dX11_follows_30 (by decide) rfl (by decide) (q_c1d rfl) ?_
          refine A_eq (ls2 := [some (.ref (q_h G + 279)), some (.int (nI (m))), some (.int (nI (z + 1)))]) (st2 := []) (pc2 := 0) rfl rfl ?_
          refine A_goto (tgt := 2) hg dX11_follows_33 (by decide) ?_
          exact ih2 (z + 1) a_12 b_13 c_14 σ_20 hc_24 hc_21 hc_23 (fun i hi => ((hf_22 i (by omega)).trans ((hf_17 i (by omega)).trans ((hf_7 i (by omega)).trans (hf_5 i (by omega)))))) (by omega) (lt_s hno (by rw [hadv]; rfl)) (by omega)
        · skip
          rw [he_8]
          refine (?_ : AJ G K Q 0 0 ex n 11 [some (.ref (q_h G + 279)), some (.int (nI (m))), some (.int (nI (z)))] [.int (nI (0))] σ_1)
          refine A_if_eqN (tgt := 36) hg dX11_follows_11 (by decide) (by decide) (fun c11 => ?_) (fun c11 => absurd (by decide) c11)
          refine A_iload_n hg dX11_follows_36 rfl rfl ?_
          have hfn : s_fn g m = z := by
            first
            | exact s_first_eq (by omega) (by rw [hadv]; rfl) hno
            | (rw [show m = z by omega]; exact s_first_none hno)
          have hzz : σ_1 280 = q_an G 265 (s_it g (s_fn g m)) := by rw [hfn]; exact hc_3
          rw [hQ]
          exact A_ireturn hg (by decide) (by decide) rfl dX11_follows_37 ⟨rfl, ⟨_, _, _, (by rw [hfn]), hc_2, hzz, (fun i hi => (hf_5 i (by omega)))⟩⟩
  have hc_25 : σ 279 = o11 G (upd (upd (upd F 17 ((F 17))) 18 ((F 18))) 19 ((F 19))) := by rw [hc0, q_updF rfl, q_updF rfl, q_updF rfl]
  exact hL2 _ 0 (F 17) (F 18) (F 19) σ hc_25 hc1 hc2 (fun _ _ => rfl) (by omega) (fun j h => absurd h (Nat.not_lt_zero j)) (Nat.lt_succ_self _)
end
