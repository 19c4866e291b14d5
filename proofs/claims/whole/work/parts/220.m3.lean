section
set_option maxRecDepth 100000 in
set_option maxHeartbeats 4000000 in
theorem c_X11_spanAt (G : GL) (ex : Bool) (n : Nat) (σ : Nat → va_E) (F : Nat → Int32) (A : Nat → Bool) (f : Nat → Nat) (nv : Nat → Nat) (ns : Nat → Nat) (x : Nat) (y : Nat) (hc0 : σ 279 = o11 G F) (hc1 : σ 285 = q_bn G 1681 f) (hc2 : σ 286 = q_an G 1681 nv) (hc3 : σ 287 = q_an G 1681 ns) (hn : 294 ≤ n) (hx : x ≤ 40) (hy : y ≤ 40) (hA : ∀ q : Nat, q < 1681 → f q = s_bo (A q)) (hA0 : A 0 = false) (hnvb : ∀ j : Nat, j ≤ 41 * x + y → nv j ≤ 1680) (hns : ∀ j : Nat, j < 41 * x + y → ns j ≤ j) : Ct G yX11_spanAt cX11_spanAt 8 (some .int) ⟨1, 0, 0, 21⟩ [.ref (q_h G + 279), .int (nI (x)), .int (nI (y))] ex n σ (fun v9 σ2 => σ2 = σ ∧ v9 = some (.int (nI (s_best A nv ns (41 * x + y) 1681)))) := by
  refine q_enter [some (.ref (q_h G + 279)), some (.int (nI (x))), some (.int (nI (y))), none, none, none, none, none] (by decide) (Nat.le_of_ble_eq_true rfl) rfl ?_
  intro K hg
  obtain ⟨Q, hQ⟩ : ∃ Q, Q = q_Q G K ex n 0 0 (fun v9 n' σ' => n' = n ∧ (fun v9 σ2 => σ2 = σ ∧ v9 = some (.int (nI (s_best A nv ns (41 * x + y) 1681)))) v9 σ') q_noX := ⟨_, rfl⟩
  refine (?_ : AJ G K (q_Q G K ex n 0 0 _ _) 0 0 ex n 0 _ _ σ)
  rw [← hQ]
  refine A_aload_n hg dX11_spanAt_0 rfl rfl ?_
  refine A_getf (v := .ref (q_h G + 286)) hg fl_RX11_29 dX11_spanAt_1 hc0 (by omega) rfl ?_
  refine A_bipush (v := (nI (41))) hg dX11_spanAt_4 (by decide) ?_
  refine A_iload_n hg dX11_spanAt_6 rfl rfl ?_
  refine A_imulN hg dX11_spanAt_7 ?_
  refine A_iload_n hg dX11_spanAt_8 rfl rfl ?_
  refine A_iaddN hg dX11_spanAt_9 ?_
  refine A_iald (j := ((41 * x) + y)) hg dX11_spanAt_10 hc2 (by omega) (by omega) (by decide) ?_
  have hvp := hnvb (41 * x + y) (by omega)
  refine A_if_neN (tgt := 18) hg dX11_spanAt_11 (by omega) (by decide) (fun c11 => ?_) (fun c11 => ?_)
  · skip
    refine A_iconst (v := (nI (0))) hg dX11_spanAt_18 (by decide) ?_
    refine A_istore_n hg dX11_spanAt_19 rfl (by decide) (q_c1d rfl) ?_
    refine A_eq (ls2 := [some (.ref (q_h G + 279)), some (.int (nI (x))), some (.int (nI (y))), some (.int (nI (0))), none, none, none, none]) (st2 := []) (pc2 := 0) rfl rfl ?_
    refine A_iconst (v := (q_d (0))) hg dX11_spanAt_20 (by decide) ?_
    refine A_istore hg dX11_spanAt_21 (by decide) (q_c1d rfl) ?_
    refine A_eq (ls2 := [some (.ref (q_h G + 279)), some (.int (nI (x))), some (.int (nI (y))), some (.int (nI (0))), some (.int (q_d (0))), none, none, none]) (st2 := []) (pc2 := 0) rfl rfl ?_
    refine A_iconst (v := (nI (0))) hg dX11_spanAt_23 (by decide) ?_
    refine A_istore hg dX11_spanAt_24 (by decide) (q_c1d rfl) ?_
    refine A_eq (ls2 := [some (.ref (q_h G + 279)), some (.int (nI (x))), some (.int (nI (y))), some (.int (nI (0))), some (.int (q_d (0))), some (.int (nI (0))), none, none]) (st2 := []) (pc2 := 0) rfl rfl ?_
    have hL26 : ∀ (fu : Nat) (k : Nat) (e : Nat), (k ≤ x + 1) → (e = s_best A nv ns (41 * x + y) (41 * k)) → (x + 1 - k) < fu → AJ G K Q 0 0 ex n 26 [some (.ref (q_h G + 279)), some (.int (nI (x))), some (.int (nI (y))), some (.int (nI (0))), some (.int (q_d (e))), some (.int (nI (k))), none, none] [] σ := by
      intro fu
      induction fu with
      | zero => intro k e hk he hm; exact absurd hm (Nat.not_lt_zero _)
      | succ fu ih26 =>
        intro k e hk he hm26
        refine A_iload hg dX11_spanAt_26 rfl ?_
        refine A_iload_n hg dX11_spanAt_28 rfl rfl ?_
        refine A_icmp_gtN (tgt := 145) hg dX11_spanAt_29 (by omega) (by omega) (by decide) (fun c29 => ?_) (fun c29 => ?_)
        · skip
          refine A_iload hg dX11_spanAt_145 rfl ?_
          refine A_iconst (v := (nI (1))) hg dX11_spanAt_147 (by decide) ?_
          refine A_iaddM hg dX11_spanAt_148 ?_
          rw [hQ]
          exact A_ireturn hg (by decide) (by decide) rfl dX11_spanAt_149 ⟨rfl, ⟨rfl, (by rw [he, ← s_best_skip (m := 41 * k) 1681 (by omega) (fun q h1 h2 => q_end_gap hy (by omega))])⟩⟩
        · skip
          refine A_iconst (v := (nI (0))) hg dX11_spanAt_32 (by decide) ?_
          refine A_istore hg dX11_spanAt_33 (by decide) (q_c1d rfl) ?_
          refine A_eq (ls2 := [some (.ref (q_h G + 279)), some (.int (nI (x))), some (.int (nI (y))), some (.int (nI (0))), some (.int (q_d (e))), some (.int (nI (k))), some (.int (nI (0))), none]) (st2 := []) (pc2 := 0) rfl rfl ?_
          have hL35 : ∀ (fu : Nat) (l : Nat) (e2 : Nat), (l ≤ y + 1) → (e2 = s_best A nv ns (41 * x + y) (41 * k + l)) → (y + 1 - l) < fu → AJ G K Q 0 0 ex n 35 [some (.ref (q_h G + 279)), some (.int (nI (x))), some (.int (nI (y))), some (.int (nI (0))), some (.int (q_d (e2))), some (.int (nI (k))), some (.int (nI (l))), none] [] σ := by
            intro fu
            induction fu with
            | zero => intro l e2 hl he2 hm; exact absurd hm (Nat.not_lt_zero _)
            | succ fu ih35 =>
              intro l e2 hl he2 hm35
              have heb : e2 ≤ 41 * x + y := by rw [he2]; exact s_best_le hA0 hns _
              refine A_iload hg dX11_spanAt_35 rfl ?_
              refine A_iload_n hg dX11_spanAt_37 rfl rfl ?_
              refine A_icmp_gtN (tgt := 139) hg dX11_spanAt_38 (by omega) (by omega) (by decide) (fun c38 => ?_) (fun c38 => ?_)
              · skip
                refine A_iincN (k' := 1) hg dX11_spanAt_139 (by decide) rfl (by decide) (q_c1d rfl) ?_
                refine A_eq (ls2 := [some (.ref (q_h G + 279)), some (.int (nI (x))), some (.int (nI (y))), some (.int (nI (0))), some (.int (q_d (e2))), some (.int (nI (k + 1))), some (.int (nI (l))), none]) (st2 := []) (pc2 := 0) rfl rfl ?_
                refine A_goto (tgt := 26) hg dX11_spanAt_142 (by decide) ?_
                refine A_drop 6 ?_
                exact ih26 (k + 1) e2 (by omega) (by rw [he2]; exact (s_best_skip (m := 41 * k + l) (41 * (k + 1)) (by omega) (fun q h1 h2 => q_row_gap (k := k) hy (by omega) (by omega))).symm) (by omega)
              · skip
                have hAk := hA (41 * k + l) (by omega)
                have hAb : f (41 * k + l) < 2 ^ 31 := by rw [hAk]; unfold s_bo; split <;> decide
                refine A_aload_n hg dX11_spanAt_41 rfl rfl ?_
                refine A_getf (v := .ref (q_h G + 285)) hg fl_RX11_25 dX11_spanAt_42 hc0 (by omega) rfl ?_
                refine A_bipush (v := (nI (41))) hg dX11_spanAt_45 (by decide) ?_
                refine A_iload hg dX11_spanAt_47 rfl ?_
                refine A_imulN hg dX11_spanAt_49 ?_
                refine A_iload hg dX11_spanAt_50 rfl ?_
                refine A_iaddN hg dX11_spanAt_52 ?_
                refine A_bald (j := ((41 * k) + l)) hg dX11_spanAt_53 hc1 (by omega) (by omega) (by decide) ?_
                refine A_top (w := .int (nI (s_bo (A (41 * k + l))))) (by rw [hAk]) ?_
                refine A_if_neN (tgt := 60) hg dX11_spanAt_54 (by rw [← hAk]; exact hAb) (by decide) (fun c54 => ?_) (fun c54 => ?_)
                · skip
                  have hq0 : 0 < 41 * k + l := by
                    rcases Nat.eq_zero_or_pos (41 * k + l) with e | e
                    · exfalso; rw [e, hA0] at c54; exact c54 rfl
                    · exact e
                  have hst := hns (41 * (x - k) + y - l) (by omega)
                  have hvt := hnvb (41 * (x - k) + y - l) (by omega)
                  refine A_bipush (v := (nI (41))) hg dX11_spanAt_60 (by decide) ?_
                  refine A_iload_n hg dX11_spanAt_62 rfl rfl ?_
                  refine A_iload hg dX11_spanAt_63 rfl ?_
                  refine A_isubN hg dX11_spanAt_65 (by omega) ?_
                  refine A_imulN hg dX11_spanAt_66 ?_
                  refine A_iload_n hg dX11_spanAt_67 rfl rfl ?_
                  refine A_iaddN hg dX11_spanAt_68 ?_
                  refine A_iload hg dX11_spanAt_69 rfl ?_
                  refine A_isubN hg dX11_spanAt_71 (by omega) ?_
                  refine A_istore hg dX11_spanAt_72 (by decide) (q_c1d rfl) ?_
                  refine A_eq (ls2 := [some (.ref (q_h G + 279)), some (.int (nI (x))), some (.int (nI (y))), some (.int (nI (0))), some (.int (q_d (e2))), some (.int (nI (k))), some (.int (nI (l))), some (.int (nI (((41 * (x - k)) + y) - l)))]) (st2 := []) (pc2 := 0) rfl rfl ?_
                  refine A_iload_n hg dX11_spanAt_74 rfl rfl ?_
                  refine A_if_eqN (tgt := 92) hg dX11_spanAt_75 (by decide) (by decide) (fun c75 => ?_) (fun c75 => absurd (by decide) c75)
                  refine A_iload_n hg dX11_spanAt_92 rfl rfl ?_
                  refine A_if_neN (tgt := 133) hg dX11_spanAt_93 (by decide) (by decide) (fun c93 => absurd (by decide) c93) (fun c93 => ?_)
                  refine A_aload_n hg dX11_spanAt_96 rfl rfl ?_
                  refine A_getf (v := .ref (q_h G + 286)) hg fl_RX11_29 dX11_spanAt_97 hc0 (by omega) rfl ?_
                  refine A_iload hg dX11_spanAt_100 rfl ?_
                  refine A_iald (j := (((41 * (x - k)) + y) - l)) hg dX11_spanAt_102 hc2 (by omega) (by omega) (by decide) ?_
                  refine A_if_neN (tgt := 133) hg dX11_spanAt_103 (by omega) (by decide) (fun c103 => ?_) (fun c103 => ?_)
                  · skip
                    refine A_iincN (k' := 1) hg dX11_spanAt_133 (by decide) rfl (by decide) (q_c1d rfl) ?_
                    refine A_eq (ls2 := [some (.ref (q_h G + 279)), some (.int (nI (x))), some (.int (nI (y))), some (.int (nI (0))), some (.int (q_d (e2))), some (.int (nI (k))), some (.int (nI (l + 1))), some (.int (nI (((41 * (x - k)) + y) - l)))]) (st2 := []) (pc2 := 0) rfl rfl ?_
                    refine A_goto (tgt := 35) hg dX11_spanAt_136 (by decide) ?_
                    refine A_drop 7 ?_
                    exact ih35 (l + 1) e2 (by omega) (by rw [he2]; exact (q_best_n (m := 41 * k + l) (to := 41 * (x - k) + y - l) (q_mv_t hy (by omega) (by omega) (s_bo_n c54)) c11 (by omega) (by rw [← he2]; rintro ⟨h1, h2⟩; first | exact c103 h1 | (rcases h2 with h2 | h2 <;> omega))).symm) (by omega)
                  · skip
                    refine A_iload hg dX11_spanAt_106 rfl ?_
                    refine A_iconst (v := (q_d (0))) hg dX11_spanAt_108 (by decide) ?_
                    refine A_icmp_eqM (tgt := 124) hg dX11_spanAt_109 (by omega) (by decide) (by decide) (fun c109 => ?_) (fun c109 => ?_)
                    · skip
                      refine A_aload_n hg dX11_spanAt_124 rfl rfl ?_
                      refine A_getf (v := .ref (q_h G + 287)) hg fl_RX11_32 dX11_spanAt_125 hc0 (by omega) rfl ?_
                      refine A_iload hg dX11_spanAt_128 rfl ?_
                      refine A_iald (j := (((41 * (x - k)) + y) - l)) hg dX11_spanAt_130 hc3 (by omega) (by omega) (by decide) ?_
                      refine A_top (w := .int (q_d (ns (41 * (x - k) + y - l) + 1))) (congrArg Value.int (q_dS _).symm) ?_
                      refine A_istore hg dX11_spanAt_131 (by decide) (q_c1d rfl) ?_
                      refine A_eq (ls2 := [some (.ref (q_h G + 279)), some (.int (nI (x))), some (.int (nI (y))), some (.int (nI (0))), some (.int (q_d (ns (41 * (x - k) + y - l) + 1))), some (.int (nI (k))), some (.int (nI (l))), some (.int (nI (((41 * (x - k)) + y) - l)))]) (st2 := []) (pc2 := 0) rfl rfl ?_
                      refine A_iincN (k' := 1) hg dX11_spanAt_133 (by decide) rfl (by decide) (q_c1d rfl) ?_
                      refine A_eq (ls2 := [some (.ref (q_h G + 279)), some (.int (nI (x))), some (.int (nI (y))), some (.int (nI (0))), some (.int (q_d (ns (41 * (x - k) + y - l) + 1))), some (.int (nI (k))), some (.int (nI (l + 1))), some (.int (nI (((41 * (x - k)) + y) - l)))]) (st2 := []) (pc2 := 0) rfl rfl ?_
                      refine A_goto (tgt := 35) hg dX11_spanAt_136 (by decide) ?_
                      refine A_drop 7 ?_
                      exact ih35 (l + 1) (ns (41 * (x - k) + y - l) + 1) (by omega) (by exact (q_best_w (m := 41 * k + l) (to := 41 * (x - k) + y - l) (q_mv_t hy (by omega) (by omega) (s_bo_n c54)) c11 (by omega) (by rw [← he2]; first | exact ⟨c103, Or.inl c109⟩ | exact ⟨c103, Or.inr (by omega)⟩)).symm) (by omega)
                    · skip
                      refine A_aload_n hg dX11_spanAt_112 rfl rfl ?_
                      refine A_getf (v := .ref (q_h G + 287)) hg fl_RX11_32 dX11_spanAt_113 hc0 (by omega) rfl ?_
                      refine A_iload hg dX11_spanAt_116 rfl ?_
                      refine A_iald (j := (((41 * (x - k)) + y) - l)) hg dX11_spanAt_118 hc3 (by omega) (by omega) (by decide) ?_
                      refine A_iload hg dX11_spanAt_119 rfl ?_
                      refine A_icmp_geNM (tgt := 133) hg dX11_spanAt_121 (by omega) (by omega) (by decide) (fun c121 => ?_) (fun c121 => ?_)
                      · skip
                        refine A_iincN (k' := 1) hg dX11_spanAt_133 (by decide) rfl (by decide) (q_c1d rfl) ?_
                        refine A_eq (ls2 := [some (.ref (q_h G + 279)), some (.int (nI (x))), some (.int (nI (y))), some (.int (nI (0))), some (.int (q_d (e2))), some (.int (nI (k))), some (.int (nI (l + 1))), some (.int (nI (((41 * (x - k)) + y) - l)))]) (st2 := []) (pc2 := 0) rfl rfl ?_
                        refine A_goto (tgt := 35) hg dX11_spanAt_136 (by decide) ?_
                        refine A_drop 7 ?_
                        exact ih35 (l + 1) e2 (by omega) (by rw [he2]; exact (q_best_n (m := 41 * k + l) (to := 41 * (x - k) + y - l) (q_mv_t hy (by omega) (by omega) (s_bo_n c54)) c11 (by omega) (by rw [← he2]; rintro ⟨h1, h2⟩; first | exact c103 h1 | (rcases h2 with h2 | h2 <;> omega))).symm) (by omega)
                      · skip
                        refine A_aload_n hg dX11_spanAt_124 rfl rfl ?_
                        refine A_getf (v := .ref (q_h G + 287)) hg fl_RX11_32 dX11_spanAt_125 hc0 (by omega) rfl ?_
                        refine A_iload hg dX11_spanAt_128 rfl ?_
                        refine A_iald (j := (((41 * (x - k)) + y) - l)) hg dX11_spanAt_130 hc3 (by omega) (by omega) (by decide) ?_
                        refine A_top (w := .int (q_d (ns (41 * (x - k) + y - l) + 1))) (congrArg Value.int (q_dS _).symm) ?_
                        refine A_istore hg dX11_spanAt_131 (by decide) (q_c1d rfl) ?_
                        refine A_eq (ls2 := [some (.ref (q_h G + 279)), some (.int (nI (x))), some (.int (nI (y))), some (.int (nI (0))), some (.int (q_d (ns (41 * (x - k) + y - l) + 1))), some (.int (nI (k))), some (.int (nI (l))), some (.int (nI (((41 * (x - k)) + y) - l)))]) (st2 := []) (pc2 := 0) rfl rfl ?_
                        refine A_iincN (k' := 1) hg dX11_spanAt_133 (by decide) rfl (by decide) (q_c1d rfl) ?_
                        refine A_eq (ls2 := [some (.ref (q_h G + 279)), some (.int (nI (x))), some (.int (nI (y))), some (.int (nI (0))), some (.int (q_d (ns (41 * (x - k) + y - l) + 1))), some (.int (nI (k))), some (.int (nI (l + 1))), some (.int (nI (((41 * (x - k)) + y) - l)))]) (st2 := []) (pc2 := 0) rfl rfl ?_
                        refine A_goto (tgt := 35) hg dX11_spanAt_136 (by decide) ?_
                        refine A_drop 7 ?_
                        exact ih35 (l + 1) (ns (41 * (x - k) + y - l) + 1) (by omega) (by exact (q_best_w (m := 41 * k + l) (to := 41 * (x - k) + y - l) (q_mv_t hy (by omega) (by omega) (s_bo_n c54)) c11 (by omega) (by rw [← he2]; first | exact ⟨c103, Or.inl c109⟩ | exact ⟨c103, Or.inr (by omega)⟩)).symm) (by omega)
                · skip
                  refine A_goto (tgt := 133) hg dX11_spanAt_57 (by decide) ?_
                  refine A_iincN (k' := 1) hg dX11_spanAt_133 (by decide) rfl (by decide) (q_c1d rfl) ?_
                  refine A_eq (ls2 := [some (.ref (q_h G + 279)), some (.int (nI (x))), some (.int (nI (y))), some (.int (nI (0))), some (.int (q_d (e2))), some (.int (nI (k))), some (.int (nI (l + 1))), none]) (st2 := []) (pc2 := 0) rfl rfl ?_
                  refine A_goto (tgt := 35) hg dX11_spanAt_136 (by decide) ?_
                  exact ih35 (l + 1) e2 (by omega) (by rw [he2]; exact (q_best_f (m := 41 * k + l) (q_mv_f hy (by omega) (s_bo_0.mp c54))).symm) (by omega)
          exact hL35 _ 0 e (Nat.zero_le _) he (Nat.lt_succ_self _)
    exact hL26 _ 0 0 (Nat.zero_le _) rfl (Nat.lt_succ_self _)
  · skip
    refine A_iconst (v := (nI (1))) hg dX11_spanAt_14 (by decide) ?_
    refine A_goto (tgt := 19) hg dX11_spanAt_15 (by decide) ?_
    refine A_istore_n hg dX11_spanAt_19 rfl (by decide) (q_c1d rfl) ?_
    refine A_eq (ls2 := [some (.ref (q_h G + 279)), some (.int (nI (x))), some (.int (nI (y))), some (.int (nI (1))), none, none, none, none]) (st2 := []) (pc2 := 0) rfl rfl ?_
    refine A_iconst (v := (q_d (0))) hg dX11_spanAt_20 (by decide) ?_
    refine A_istore hg dX11_spanAt_21 (by decide) (q_c1d rfl) ?_
    refine A_eq (ls2 := [some (.ref (q_h G + 279)), some (.int (nI (x))), some (.int (nI (y))), some (.int (nI (1))), some (.int (q_d (0))), none, none, none]) (st2 := []) (pc2 := 0) rfl rfl ?_
    refine A_iconst (v := (nI (0))) hg dX11_spanAt_23 (by decide) ?_
    refine A_istore hg dX11_spanAt_24 (by decide) (q_c1d rfl) ?_
    refine A_eq (ls2 := [some (.ref (q_h G + 279)), some (.int (nI (x))), some (.int (nI (y))), some (.int (nI (1))), some (.int (q_d (0))), some (.int (nI (0))), none, none]) (st2 := []) (pc2 := 0) rfl rfl ?_
    have hL26 : ∀ (fu : Nat) (k : Nat) (e : Nat), (k ≤ x + 1) → (e = s_best A nv ns (41 * x + y) (41 * k)) → (x + 1 - k) < fu → AJ G K Q 0 0 ex n 26 [some (.ref (q_h G + 279)), some (.int (nI (x))), some (.int (nI (y))), some (.int (nI (1))), some (.int (q_d (e))), some (.int (nI (k))), none, none] [] σ := by
      intro fu
      induction fu with
      | zero => intro k e hk he hm; exact absurd hm (Nat.not_lt_zero _)
      | succ fu ih26 =>
        intro k e hk he hm26
        refine A_iload hg dX11_spanAt_26 rfl ?_
        refine A_iload_n hg dX11_spanAt_28 rfl rfl ?_
        refine A_icmp_gtN (tgt := 145) hg dX11_spanAt_29 (by omega) (by omega) (by decide) (fun c29 => ?_) (fun c29 => ?_)
        · skip
          refine A_iload hg dX11_spanAt_145 rfl ?_
          refine A_iconst (v := (nI (1))) hg dX11_spanAt_147 (by decide) ?_
          refine A_iaddM hg dX11_spanAt_148 ?_
          rw [hQ]
          exact A_ireturn hg (by decide) (by decide) rfl dX11_spanAt_149 ⟨rfl, ⟨rfl, (by rw [he, ← s_best_skip (m := 41 * k) 1681 (by omega) (fun q h1 h2 => q_end_gap hy (by omega))])⟩⟩
        · skip
          refine A_iconst (v := (nI (0))) hg dX11_spanAt_32 (by decide) ?_
          refine A_istore hg dX11_spanAt_33 (by decide) (q_c1d rfl) ?_
          refine A_eq (ls2 := [some (.ref (q_h G + 279)), some (.int (nI (x))), some (.int (nI (y))), some (.int (nI (1))), some (.int (q_d (e))), some (.int (nI (k))), some (.int (nI (0))), none]) (st2 := []) (pc2 := 0) rfl rfl ?_
          have hL35 : ∀ (fu : Nat) (l : Nat) (e2 : Nat), (l ≤ y + 1) → (e2 = s_best A nv ns (41 * x + y) (41 * k + l)) → (y + 1 - l) < fu → AJ G K Q 0 0 ex n 35 [some (.ref (q_h G + 279)), some (.int (nI (x))), some (.int (nI (y))), some (.int (nI (1))), some (.int (q_d (e2))), some (.int (nI (k))), some (.int (nI (l))), none] [] σ := by
            intro fu
            induction fu with
            | zero => intro l e2 hl he2 hm; exact absurd hm (Nat.not_lt_zero _)
            | succ fu ih35 =>
              intro l e2 hl he2 hm35
              have heb : e2 ≤ 41 * x + y := by rw [he2]; exact s_best_le hA0 hns _
              refine A_iload hg dX11_spanAt_35 rfl ?_
              refine A_iload_n hg dX11_spanAt_37 rfl rfl ?_
              refine A_icmp_gtN (tgt := 139) hg dX11_spanAt_38 (by omega) (by omega) (by decide) (fun c38 => ?_) (fun c38 => ?_)
              · skip
                refine A_iincN (k' := 1) hg dX11_spanAt_139 (by decide) rfl (by decide) (q_c1d rfl) ?_
                refine A_eq (ls2 := [some (.ref (q_h G + 279)), some (.int (nI (x))), some (.int (nI (y))), some (.int (nI (1))), some (.int (q_d (e2))), some (.int (nI (k + 1))), some (.int (nI (l))), none]) (st2 := []) (pc2 := 0) rfl rfl ?_
                refine A_goto (tgt := 26) hg dX11_spanAt_142 (by decide) ?_
                refine A_drop 6 ?_
                exact ih26 (k + 1) e2 (by omega) (by rw [he2]; exact (s_best_skip (m := 41 * k + l) (41 * (k + 1)) (by omega) (fun q h1 h2 => q_row_gap (k := k) hy (by omega) (by omega))).symm) (by omega)
              · skip
                have hAk := hA (41 * k + l) (by omega)
                have hAb : f (41 * k + l) < 2 ^ 31 := by rw [hAk]; unfold s_bo; split <;> decide
                refine A_aload_n hg dX11_spanAt_41 rfl rfl ?_
                refine A_getf (v := .ref (q_h G + 285)) hg fl_RX11_25 dX11_spanAt_42 hc0 (by omega) rfl ?_
                refine A_bipush (v := (nI (41))) hg dX11_spanAt_45 (by decide) ?_
                refine A_iload hg dX11_spanAt_47 rfl ?_
                refine A_imulN hg dX11_spanAt_49 ?_
                refine A_iload hg dX11_spanAt_50 rfl ?_
                refine A_iaddN hg dX11_spanAt_52 ?_
                refine A_bald (j := ((41 * k) + l)) hg dX11_spanAt_53 hc1 (by omega) (by omega) (by decide) ?_
                refine A_top (w := .int (nI (s_bo (A (41 * k + l))))) (by rw [hAk]) ?_
                refine A_if_neN (tgt := 60) hg dX11_spanAt_54 (by rw [← hAk]; exact hAb) (by decide) (fun c54 => ?_) (fun c54 => ?_)
                · skip
                  have hq0 : 0 < 41 * k + l := by
                    rcases Nat.eq_zero_or_pos (41 * k + l) with e | e
                    · exfalso; rw [e, hA0] at c54; exact c54 rfl
                    · exact e
                  have hst := hns (41 * (x - k) + y - l) (by omega)
                  have hvt := hnvb (41 * (x - k) + y - l) (by omega)
                  refine A_bipush (v := (nI (41))) hg dX11_spanAt_60 (by decide) ?_
                  refine A_iload_n hg dX11_spanAt_62 rfl rfl ?_
                  refine A_iload hg dX11_spanAt_63 rfl ?_
                  refine A_isubN hg dX11_spanAt_65 (by omega) ?_
                  refine A_imulN hg dX11_spanAt_66 ?_
                  refine A_iload_n hg dX11_spanAt_67 rfl rfl ?_
                  refine A_iaddN hg dX11_spanAt_68 ?_
                  refine A_iload hg dX11_spanAt_69 rfl ?_
                  refine A_isubN hg dX11_spanAt_71 (by omega) ?_
                  refine A_istore hg dX11_spanAt_72 (by decide) (q_c1d rfl) ?_
                  refine A_eq (ls2 := [some (.ref (q_h G + 279)), some (.int (nI (x))), some (.int (nI (y))), some (.int (nI (1))), some (.int (q_d (e2))), some (.int (nI (k))), some (.int (nI (l))), some (.int (nI (((41 * (x - k)) + y) - l)))]) (st2 := []) (pc2 := 0) rfl rfl ?_
                  refine A_iload_n hg dX11_spanAt_74 rfl rfl ?_
                  refine A_if_eqN (tgt := 92) hg dX11_spanAt_75 (by decide) (by decide) (fun c75 => absurd c75 (by decide)) (fun c75 => ?_)
                  refine A_iload hg dX11_spanAt_78 rfl ?_
                  refine A_aload_n hg dX11_spanAt_80 rfl rfl ?_
                  refine A_getf (v := .ref (q_h G + 287)) hg fl_RX11_32 dX11_spanAt_81 hc0 (by omega) rfl ?_
                  refine A_iload hg dX11_spanAt_84 rfl ?_
                  refine A_iald (j := (((41 * (x - k)) + y) - l)) hg dX11_spanAt_86 hc3 (by omega) (by omega) (by decide) ?_
                  refine A_max hg ml_RX11_89 dX11_spanAt_87 ⟨by decide, by decide, by decide, by decide⟩ (Nat.le_of_ble_eq_true rfl) ?_
                  refine A_top (w := .int (q_d (max e2 (ns (((41 * (x - k)) + y) - l) + 1)))) (q_maxM (e := e2) (s := ns (((41 * (x - k)) + y) - l)) (by omega) (by omega)) ?_
                  refine A_istore hg dX11_spanAt_90 (by decide) (q_c1d rfl) ?_
                  refine A_eq (ls2 := [some (.ref (q_h G + 279)), some (.int (nI (x))), some (.int (nI (y))), some (.int (nI (1))), some (.int (q_d (max e2 (ns (((41 * (x - k)) + y) - l) + 1)))), some (.int (nI (k))), some (.int (nI (l))), some (.int (nI (((41 * (x - k)) + y) - l)))]) (st2 := []) (pc2 := 0) rfl rfl ?_
                  refine A_iload_n hg dX11_spanAt_92 rfl rfl ?_
                  refine A_if_neN (tgt := 133) hg dX11_spanAt_93 (by decide) (by decide) (fun c93 => ?_) (fun c93 => absurd c93 (by decide))
                  refine A_iincN (k' := 1) hg dX11_spanAt_133 (by decide) rfl (by decide) (q_c1d rfl) ?_
                  refine A_eq (ls2 := [some (.ref (q_h G + 279)), some (.int (nI (x))), some (.int (nI (y))), some (.int (nI (1))), some (.int (q_d (max e2 (ns (((41 * (x - k)) + y) - l) + 1)))), some (.int (nI (k))), some (.int (nI (l + 1))), some (.int (nI (((41 * (x - k)) + y) - l)))]) (st2 := []) (pc2 := 0) rfl rfl ?_
                  refine A_goto (tgt := 35) hg dX11_spanAt_136 (by decide) ?_
                  refine A_drop 7 ?_
                  exact ih35 (l + 1) (max e2 (ns (((41 * (x - k)) + y) - l) + 1)) (by omega) (by rw [he2]; exact (q_best_l (m := 41 * k + l) (q_mv_t hy (by omega) (by omega) (s_bo_n c54)) c11 (by omega)).symm) (by omega)
                · skip
                  refine A_goto (tgt := 133) hg dX11_spanAt_57 (by decide) ?_
                  refine A_iincN (k' := 1) hg dX11_spanAt_133 (by decide) rfl (by decide) (q_c1d rfl) ?_
                  refine A_eq (ls2 := [some (.ref (q_h G + 279)), some (.int (nI (x))), some (.int (nI (y))), some (.int (nI (1))), some (.int (q_d (e2))), some (.int (nI (k))), some (.int (nI (l + 1))), none]) (st2 := []) (pc2 := 0) rfl rfl ?_
                  refine A_goto (tgt := 35) hg dX11_spanAt_136 (by decide) ?_
                  exact ih35 (l + 1) e2 (by omega) (by rw [he2]; exact (q_best_f (m := 41 * k + l) (q_mv_f hy (by omega) (s_bo_0.mp c54))).symm) (by omega)
          exact hL35 _ 0 e (Nat.zero_le _) he (Nat.lt_succ_self _)
    exact hL26 _ 0 0 (Nat.zero_le _) rfl (Nat.lt_succ_self _)
set_option maxRecDepth 100000 in
set_option maxHeartbeats 4000000 in
theorem c_X11_laysSpans (G : GL) (ex : Bool) (n : Nat) (σ : Nat → va_E) (F : Nat → Int32) (A : Nat → Bool) (f : Nat → Nat) (nv : Nat → Nat) (ns : Nat → Nat) (hc0 : σ 279 = o11 G F) (hc1 : σ 285 = q_bn G 1681 f) (hc2 : σ 286 = q_an G 1681 nv) (hc3 : σ 287 = q_an G 1681 ns) (hn : 294 ≤ n) (hA : ∀ q : Nat, q < 1681 → f q = s_bo (A q)) (hA0 : A 0 = false) (hnv : ∀ j : Nat, j < 1681 → nv j = s_val A j) : Ct G yX11_laysSpans cX11_laysSpans 2 none ⟨2, 0, 0, 48⟩ [.ref (q_h G + 279)] ex n σ (fun v9 σ2 => v9 = none ∧ ∃ (ns' : Nat → Nat), (∀ j : Nat, j < 1681 → ns' j = s_spn A j) ∧ σ2 287 = q_an G 1681 ns' ∧ (∀ i : Nat, i ≠ 287 → σ2 i = σ i)) := by
  refine q_enter [some (.ref (q_h G + 279)), none] (by decide) (Nat.le_of_ble_eq_true rfl) rfl ?_
  intro K hg
  obtain ⟨Q, hQ⟩ : ∃ Q, Q = q_Q G K ex n 0 0 (fun v9 n' σ' => n' = n ∧ (fun v9 σ2 => v9 = none ∧ ∃ (ns' : Nat → Nat), (∀ j : Nat, j < 1681 → ns' j = s_spn A j) ∧ σ2 287 = q_an G 1681 ns' ∧ (∀ i : Nat, i ≠ 287 → σ2 i = σ i)) v9 σ') q_noX := ⟨_, rfl⟩
  refine (?_ : AJ G K (q_Q G K ex n 0 0 _ _) 0 0 ex n 0 _ _ σ)
  rw [← hQ]
  refine A_iconst (v := (nI (0))) hg dX11_laysSpans_0 (by decide) ?_
  refine A_istore_n hg dX11_laysSpans_1 rfl (by decide) (q_c1d rfl) ?_
  refine A_eq (ls2 := [some (.ref (q_h G + 279)), some (.int (nI (0)))]) (st2 := []) (pc2 := 0) rfl rfl ?_
  have hL2 : ∀ (fu : Nat) (p : Nat) (ns1 : Nat → Nat) (σ_1 : Nat → va_E), (σ_1 279 = o11 G F) → (σ_1 285 = q_bn G 1681 f) → (σ_1 286 = q_an G 1681 nv) → (σ_1 287 = q_an G 1681 ns1) → (∀ i : Nat, i ≠ 287 → σ_1 i = σ i) → (p ≤ 1681) → (∀ j : Nat, j < p → ns1 j = s_spn A j) → (1681 - p) < fu → AJ G K Q 0 0 ex n 2 [some (.ref (q_h G + 279)), some (.int (nI (p)))] [] σ_1 := by
    intro fu
    induction fu with
    | zero => intro p ns1 σ_1 hc_2 hc_3 hc_4 hc_5 hf_6 hp hs hm; exact absurd hm (Nat.not_lt_zero _)
    | succ fu ih2 =>
      intro p ns1 σ_1 hc_2 hc_3 hc_4 hc_5 hf_6 hp hs hm2
      refine A_iload_n hg dX11_laysSpans_2 rfl rfl ?_
      refine A_sipush (v := (nI (1681))) hg dX11_laysSpans_3 (by decide) ?_
      refine A_icmp_geN (tgt := 33) hg dX11_laysSpans_6 (by omega) (by decide) (by decide) (fun c6 => ?_) (fun c6 => ?_)
      · skip
        rw [hQ]
        exact A_return hg (by decide) (by decide) rfl dX11_laysSpans_33 ⟨rfl, ⟨rfl, ns1, (fun j hj => hs j (by omega)), hc_5, (fun i hi => (hf_6 i (by omega)))⟩⟩
      · skip
        refine A_aload_n hg dX11_laysSpans_9 rfl rfl ?_
        refine A_getf (v := .ref (q_h G + 287)) hg fl_RX11_32 dX11_laysSpans_10 hc_2 (by omega) rfl ?_
        refine A_iload_n hg dX11_laysSpans_13 rfl rfl ?_
        refine A_aload_n hg dX11_laysSpans_14 rfl rfl ?_
        refine A_iload_n hg dX11_laysSpans_15 rfl rfl ?_
        refine A_bipush (v := (nI (41))) hg dX11_laysSpans_16 (by decide) ?_
        refine A_idivN hg dX11_laysSpans_18 (by omega) (by decide) (by decide) ?_
        refine A_iload_n hg dX11_laysSpans_19 rfl rfl ?_
        refine A_bipush (v := (nI (41))) hg dX11_laysSpans_20 (by decide) ?_
        refine A_iremN hg dX11_laysSpans_22 (by omega) (by decide) (by decide) ?_
        refine A_eV (kc2 := 0) (ks2 := 0) (As := [.int (nI (p / 41)), .int (nI (p % 41))]) (rest := [.int (nI (p)), .ref (q_h G + 287)]) hg lk_RX11_123 in_X11_spanAt se_X11_spanAt rfl dX11_laysSpans_23 ⟨by decide, by decide⟩ rfl rfl ⟨by decide, by decide⟩ hc_2 (by omega) rfl rfl (Nat.le_of_ble_eq_true rfl) (c_X11_spanAt G ex n σ_1 F A f nv ns1 (p / 41) (p % 41) hc_2 hc_3 hc_4 hc_5 (by omega) (by omega) (by omega) hA hA0 (fun j hj => by rw [hnv j (by omega)]; have := s_val_le hA0 j (by omega); omega) (fun j hj => by rw [hs j (by omega)]; exact s_spn_le hA0 j)) ?_
        refine A_top (w := .int (nI (s_spn A p))) (congrArg (fun z => Value.int (nI z)) (by rw [show 41 * (p / 41) + p % 41 = p by omega]; exact s_spn_eq hA0 (fun j hj => hnv j (by omega)) hs)) ?_
        refine A_iast (j := p) (x := (s_spn A p)) hg dX11_laysSpans_26 hc_5 (by omega) (by omega) (by decide) (fun σ_7 hc_8 hf_9 => ?_)
        have hc_10 : σ_7 279 = o11 G F := (hf_9 _ (by omega)).trans hc_2
        have hc_11 : σ_7 285 = q_bn G 1681 f := (hf_9 _ (by omega)).trans hc_3
        have hc_12 : σ_7 286 = q_an G 1681 nv := (hf_9 _ (by omega)).trans hc_4
        refine A_iincN (k' := 1) hg dX11_laysSpans_27 (by decide) rfl (by decide) (q_c1d rfl) ?_
        refine A_eq (ls2 := [some (.ref (q_h G + 279)), some (.int (nI (p + 1)))]) (st2 := []) (pc2 := 0) rfl rfl ?_
        refine A_goto (tgt := 2) hg dX11_laysSpans_30 (by decide) ?_
        exact ih2 (p + 1) (va_up ns1 p (s_spn A p)) σ_7 hc_10 hc_11 hc_12 hc_8 (fun i hi => ((hf_9 i (by omega)).trans (hf_6 i (by omega)))) (by omega) (q_fill hs rfl) (by omega)
  exact hL2 _ 0 ns σ hc0 hc1 hc2 hc3 (fun _ _ => rfl) (by omega) (fun j h => absurd h (Nat.not_lt_zero j)) (Nat.lt_succ_self _)
set_option maxRecDepth 100000 in
set_option maxHeartbeats 4000000 in
theorem c_X11_losingNow (G : GL) (ex : Bool) (n : Nat) (σ : Nat → va_E) (F : Nat → Int32) (nv : Nat → Nat) (hc0 : σ 279 = o11 G F) (hc1 : σ 286 = q_an G 1681 nv) (hn : 294 ≤ n) (hnvb : ∀ j : Nat, j < 1681 → nv j ≤ 1680) : Ct G yX11_losingNow cX11_losingNow 3 (some .int) ⟨0, 0, 0, 0⟩ [.ref (q_h G + 279)] ex n σ (fun v9 σ2 => σ2 = σ ∧ v9 = some (.int (nI (s_cnt (fun p => nv p == 0) 1681)))) := by
  refine q_enter [some (.ref (q_h G + 279)), none, none] (by decide) (Nat.le_of_ble_eq_true rfl) rfl ?_
  intro K hg
  obtain ⟨Q, hQ⟩ : ∃ Q, Q = q_Q G K ex n 0 0 (fun v9 n' σ' => n' = n ∧ (fun v9 σ2 => σ2 = σ ∧ v9 = some (.int (nI (s_cnt (fun p => nv p == 0) 1681)))) v9 σ') q_noX := ⟨_, rfl⟩
  refine (?_ : AJ G K (q_Q G K ex n 0 0 _ _) 0 0 ex n 0 _ _ σ)
  rw [← hQ]
  refine A_iconst (v := (nI (0))) hg dX11_losingNow_0 (by decide) ?_
  refine A_istore_n hg dX11_losingNow_1 rfl (by decide) (q_c1d rfl) ?_
  refine A_eq (ls2 := [some (.ref (q_h G + 279)), some (.int (nI (0))), none]) (st2 := []) (pc2 := 0) rfl rfl ?_
  refine A_iconst (v := (nI (0))) hg dX11_losingNow_2 (by decide) ?_
  refine A_istore_n hg dX11_losingNow_3 rfl (by decide) (q_c1d rfl) ?_
  refine A_eq (ls2 := [some (.ref (q_h G + 279)), some (.int (nI (0))), some (.int (nI (0)))]) (st2 := []) (pc2 := 0) rfl rfl ?_
  have hL4 : ∀ (fu : Nat) (p : Nat) (c : Nat), (p ≤ 1681) → (c = s_cnt (fun p => nv p == 0) p) → (1681 - p) < fu → AJ G K Q 0 0 ex n 4 [some (.ref (q_h G + 279)), some (.int (nI (c))), some (.int (nI (p)))] [] σ := by
    intro fu
    induction fu with
    | zero => intro p c hp hc hm; exact absurd hm (Nat.not_lt_zero _)
    | succ fu ih4 =>
      intro p c hp hc hm4
      refine A_iload_n hg dX11_losingNow_4 rfl rfl ?_
      refine A_sipush (v := (nI (1681))) hg dX11_losingNow_5 (by decide) ?_
      refine A_icmp_geN (tgt := 34) hg dX11_losingNow_8 (by omega) (by decide) (by decide) (fun c8 => ?_) (fun c8 => ?_)
      · skip
        refine A_iload_n hg dX11_losingNow_34 rfl rfl ?_
        rw [hQ]
        exact A_ireturn hg (by decide) (by decide) rfl dX11_losingNow_35 ⟨rfl, ⟨rfl, (by rw [hc, show p = 1681 by omega])⟩⟩
      · skip
        refine A_iload_n hg dX11_losingNow_11 rfl rfl ?_
        refine A_aload_n hg dX11_losingNow_12 rfl rfl ?_
        refine A_getf (v := .ref (q_h G + 286)) hg fl_RX11_29 dX11_losingNow_13 hc0 (by omega) rfl ?_
        refine A_iload_n hg dX11_losingNow_16 rfl rfl ?_
        refine A_iald (j := p) hg dX11_losingNow_17 hc1 (by omega) (by omega) (by decide) ?_
        have hvb := hnvb p (by omega)
        refine A_if_neN (tgt := 25) hg dX11_losingNow_18 (by omega) (by decide) (fun c18 => ?_) (fun c18 => ?_)
        · skip
          refine A_iconst (v := (nI (0))) hg dX11_losingNow_25 (by decide) ?_
          refine A_iaddN hg dX11_losingNow_26 ?_
          refine A_istore_n hg dX11_losingNow_27 rfl (by decide) (q_c1d rfl) ?_
          refine A_eq (ls2 := [some (.ref (q_h G + 279)), some (.int (nI (c + 0))), some (.int (nI (p)))]) (st2 := []) (pc2 := 0) rfl rfl ?_
          refine A_iincN (k' := 1) hg dX11_losingNow_28 (by decide) rfl (by decide) (q_c1d rfl) ?_
          refine A_eq (ls2 := [some (.ref (q_h G + 279)), some (.int (nI (c + 0))), some (.int (nI (p + 1)))]) (st2 := []) (pc2 := 0) rfl rfl ?_
          refine A_goto (tgt := 4) hg dX11_losingNow_31 (by decide) ?_
          exact ih4 (p + 1) (c + 0) (by omega) (by unfold s_cnt; rw [← hc]; simp [c18]) (by omega)
        · skip
          refine A_iconst (v := (nI (1))) hg dX11_losingNow_21 (by decide) ?_
          refine A_goto (tgt := 26) hg dX11_losingNow_22 (by decide) ?_
          refine A_iaddN hg dX11_losingNow_26 ?_
          refine A_istore_n hg dX11_losingNow_27 rfl (by decide) (q_c1d rfl) ?_
          refine A_eq (ls2 := [some (.ref (q_h G + 279)), some (.int (nI (c + 1))), some (.int (nI (p)))]) (st2 := []) (pc2 := 0) rfl rfl ?_
          refine A_iincN (k' := 1) hg dX11_losingNow_28 (by decide) rfl (by decide) (q_c1d rfl) ?_
          refine A_eq (ls2 := [some (.ref (q_h G + 279)), some (.int (nI (c + 1))), some (.int (nI (p + 1)))]) (st2 := []) (pc2 := 0) rfl rfl ?_
          refine A_goto (tgt := 4) hg dX11_losingNow_31 (by decide) ?_
          exact ih4 (p + 1) (c + 1) (by omega) (by unfold s_cnt; rw [← hc]; simp [c18]) (by omega)
  exact hL4 _ 0 0 (by omega) rfl (Nat.lt_succ_self _)
set_option maxRecDepth 100000 in
set_option maxHeartbeats 4000000 in
theorem c_X11_isLaid (G : GL) (ex : Bool) (n : Nat) (σ : Nat → va_E) (F : Nat → Int32) (g : Nat → Nat) (r : Nat) (lo : Nat → Nat) (z : Nat) (hc0 : σ 279 = o11 G F) (hc1 : σ 280 = q_an G 265 g) (hc2 : σ 291 = q_an G 80 lo) (hn : 294 ≤ n) (hr : r < 4) (hw : s_rwf (s_rule g r)) (hF16 : F 16 = nI z) (hz : z < 16) (hlo : ∀ j : Nat, j < 80 → lo j < 2 ^ 31) : Ct G yX11_isLaid cX11_isLaid 3 (some .boolean) ⟨1, 0, 0, 22⟩ [.ref (q_h G + 279), .int (nI (r))] ex n σ (fun v9 σ2 => (v9 = some (.int (nI (1))) ∧ (z.testBit r = true) ∧ (∀ k : Nat, k < 20 → lo (20 * r + k) = s_rule g r (9 + k)) ∧ σ2 = σ) ∨ (v9 = some (.int (nI (0))) ∧ σ2 = σ)) := by
  refine q_enter [some (.ref (q_h G + 279)), some (.int (nI (r))), none] (by decide) (Nat.le_of_ble_eq_true rfl) rfl ?_
  intro K hg
  obtain ⟨Q, hQ⟩ : ∃ Q, Q = q_Q G K ex n 0 0 (fun v9 n' σ' => n' = n ∧ (fun v9 σ2 => (v9 = some (.int (nI (1))) ∧ (z.testBit r = true) ∧ (∀ k : Nat, k < 20 → lo (20 * r + k) = s_rule g r (9 + k)) ∧ σ2 = σ) ∨ (v9 = some (.int (nI (0))) ∧ σ2 = σ)) v9 σ') q_noX := ⟨_, rfl⟩
  refine (?_ : AJ G K (q_Q G K ex n 0 0 _ _) 0 0 ex n 0 _ _ σ)
  rw [← hQ]
  have hbits := hw
  have hwb : ∀ j : Nat, j < 20 → s_rule g r (9 + j) ≤ 40 := s_rwf_le hw
  refine A_aload_n hg dX11_isLaid_0 rfl rfl ?_
  refine A_getf (v := .int (nI (z))) hg fl_RX11_126 dX11_isLaid_1 hc0 (by omega) (congrArg (fun z => some (Value.int z)) hF16) ?_
  refine A_iload_n hg dX11_isLaid_4 rfl rfl ?_
  refine A_ishr hg dX11_isLaid_5 ?_
  refine A_iconst (v := (nI (1))) hg dX11_isLaid_6 (by decide) ?_
  refine A_iand hg dX11_isLaid_7 ?_
  refine A_top (w := .int (nI (s_bo (z.testBit r)))) (congrArg Value.int (q_bit z hz r hr)) ?_
  refine A_if_neN (tgt := 13) hg dX11_isLaid_8 (by unfold s_bo; split <;> decide) (by decide) (fun c8 => ?_) (fun c8 => ?_)
  · skip
    refine A_iconst (v := (nI (0))) hg dX11_isLaid_13 (by decide) ?_
    refine A_istore_n hg dX11_isLaid_14 rfl (by decide) (q_c1d rfl) ?_
    refine A_eq (ls2 := [some (.ref (q_h G + 279)), some (.int (nI (r))), some (.int (nI (0)))]) (st2 := []) (pc2 := 0) rfl rfl ?_
    have hL15 : ∀ (fu : Nat) (k : Nat), (k ≤ 20) → (∀ j : Nat, j < k → lo (20 * r + j) = s_rule g r (9 + j)) → (20 - k) < fu → AJ G K Q 0 0 ex n 15 [some (.ref (q_h G + 279)), some (.int (nI (r))), some (.int (nI (k)))] [] σ := by
      intro fu
      induction fu with
      | zero => intro k hk he hm; exact absurd hm (Nat.not_lt_zero _)
      | succ fu ih15 =>
        intro k hk he hm15
        refine A_iload_n hg dX11_isLaid_15 rfl rfl ?_
        refine A_bipush (v := (nI (20))) hg dX11_isLaid_16 (by decide) ?_
        refine A_icmp_geN (tgt := 52) hg dX11_isLaid_18 (by omega) (by decide) (by decide) (fun c18 => ?_) (fun c18 => ?_)
        · skip
          refine A_iconst (v := (nI (1))) hg dX11_isLaid_52 (by decide) ?_
          rw [hQ]
          exact A_zreturn hg (by decide) (by decide) rfl rfl dX11_isLaid_53 ⟨rfl, Or.inl (⟨rfl, (s_bo_n c8), (fun j hj => he j (by omega)), rfl⟩)⟩
        · skip
          refine A_aload_n hg dX11_isLaid_21 rfl rfl ?_
          refine A_getf (v := .ref (q_h G + 291)) hg fl_RX11_44 dX11_isLaid_22 hc0 (by omega) rfl ?_
          refine A_bipush (v := (nI (20))) hg dX11_isLaid_25 (by decide) ?_
          refine A_iload_n hg dX11_isLaid_27 rfl rfl ?_
          refine A_imulN hg dX11_isLaid_28 ?_
          refine A_iload_n hg dX11_isLaid_29 rfl rfl ?_
          refine A_iaddN hg dX11_isLaid_30 ?_
          refine A_iald (j := ((20 * r) + k)) hg dX11_isLaid_31 hc2 (by omega) (by omega) (by decide) ?_
          refine A_aload_n hg dX11_isLaid_32 rfl rfl ?_
          refine A_iload_n hg dX11_isLaid_33 rfl rfl ?_
          refine A_bipush (v := (nI (9))) hg dX11_isLaid_34 (by decide) ?_
          refine A_iload_n hg dX11_isLaid_36 rfl rfl ?_
          refine A_iaddN hg dX11_isLaid_37 ?_
          refine A_eV (kc2 := 0) (ks2 := 0) (As := [.int (nI (r)), .int (nI (9 + k))]) (rest := [.int (nI (lo ((20 * r) + k)))]) hg lk_RX11_85 in_X11_of se_X11_of rfl dX11_isLaid_38 ⟨by decide, by decide⟩ rfl rfl ⟨by decide, by decide⟩ hc0 (by omega) rfl rfl (Nat.le_of_ble_eq_true rfl) (c_X11_of G ex n σ F g r (9 + k) hc0 hc1 (by omega) (by omega)) ?_
          have hlb := hlo (20 * r + k) (by omega)
          have hrb := hwb k (by omega)
          refine A_icmp_eqN (tgt := 46) hg dX11_isLaid_41 (by omega) (by omega) (by decide) (fun c41 => ?_) (fun c41 => ?_)
          · skip
            refine A_iincN (k' := 1) hg dX11_isLaid_46 (by decide) rfl (by decide) (q_c1d rfl) ?_
            refine A_eq (ls2 := [some (.ref (q_h G + 279)), some (.int (nI (r))), some (.int (nI (k + 1)))]) (st2 := []) (pc2 := 0) rfl rfl ?_
            refine A_goto (tgt := 15) hg dX11_isLaid_49 (by decide) ?_
            exact ih15 (k + 1) (by omega) (lt_s he c41) (by omega)
          · skip
            refine A_iconst (v := (nI (0))) hg dX11_isLaid_44 (by decide) ?_
            rw [hQ]
            exact A_zreturn hg (by decide) (by decide) rfl rfl dX11_isLaid_45 ⟨rfl, Or.inr ((⟨rfl, rfl⟩))⟩
    exact hL15 _ 0 (by omega) (fun j h => absurd h (Nat.not_lt_zero j)) (Nat.lt_succ_self _)
  · skip
    refine A_iconst (v := (nI (0))) hg dX11_isLaid_11 (by decide) ?_
    rw [hQ]
    exact A_zreturn hg (by decide) (by decide) rfl rfl dX11_isLaid_12 ⟨rfl, Or.inr ((⟨rfl, rfl⟩))⟩
end
