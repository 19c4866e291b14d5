section
set_option maxRecDepth 100000 in
set_option maxHeartbeats 4000000 in
theorem c_X3_readRule (G : GL) (ex : Bool) (n : Nat) (σ : Nat → va_E) (f : Nat → Nat) (m : Nat) (t : Nat) (nu : Int32) (ft : Nat) (g : Nat → Nat) (pl : Nat) (tn : Nat) (gm : Nat) (tk : Nat) (nm : Nat → Nat) (on : Nat → Nat) (sl : Nat → Nat) (mo : Nat → Nat) (nb : Nat → Nat) (bm : Nat → Nat → Nat) (hc0 : σ 2 = o3 G (2) (nI (ft)) (nI (0)) (q_d (0))) (hc1 : σ 3 = o9 G (1) (nI (m)) (nI (x_kd f m t)) (nI (t)) (nI (tk_be f m t)) (nu)) (hc2 : σ 1 = q_an G 600 f) (hc3 : σ 5 = o0 G (5) (nI (g 0)) (nI (pl)) (nI (tn)) (nI (gm)) (nI (tk))) (hc4 : σ 6 = q_rn G 3 4 (fun j => some (5 + 10 + 2 * j))) (hc5 : ∀ j9 : Nat, j9 < 4 → σ (5 + 10 + 2 * j9) = o7 G (5 + 10 + 2 * j9) (lN (nm j9)) (lN (on j9)) (nI (sl j9)) (nI (mo j9)) (nI (nb j9))) (hc6 : ∀ j9 : Nat, j9 < 4 → σ (5 + 10 + 2 * j9 + 1) = q_an G 5 (bm j9)) (hn9 : 279 ≤ n) (hm6 : m ≤ 600) (hbb : ∀ k : Nat, s_byte f m k ≤ 256) (ht9 : t ≤ m) (hnu : tk_kd f m t = 2 → nu = nI (tk_vl f m t)) (hinv : rd_inv g) (hrl : x_rl g (g 0) nm on sl mo nb bm) : Ct G yX3_readRule cX3_readRule 2 (some .boolean) ⟨6, 0, 0, 131⟩ [.ref (q_h G + 2)] ex n σ (fun v9 σ2 => (∃ (c : Nat), ∃ (o : Nat), ∃ (kd2 : Int32), ∃ (st2 : Int32), ∃ (be2 : Int32), ∃ (nu2 : Int32), ∃ (rm2 : Nat), ∃ (nm2 : Nat → Nat), ∃ (on2 : Nat → Nat), ∃ (sl2 : Nat → Nat), ∃ (mo2 : Nat → Nat), ∃ (nb2 : Nat → Nat), ∃ (bm2 : Nat → Nat → Nat), v9 = some (.int (nI (0))) ∧ (rd_r f m g t = .inl (c, o)) ∧ (¬ c = 0) ∧ σ2 2 = o3 G (2) (nI (ft)) (nI (c)) (nI (o)) ∧ σ2 3 = o9 G (1) (nI (m)) (kd2) (st2) (be2) (nu2) ∧ σ2 5 = o0 G (5) (nI (rm2)) (nI (pl)) (nI (tn)) (nI (gm)) (nI (tk)) ∧ (∀ j9 : Nat, j9 < 4 → σ2 (5 + 10 + 2 * j9) = o7 G (5 + 10 + 2 * j9) (lN (nm2 j9)) (lN (on2 j9)) (nI (sl2 j9)) (nI (mo2 j9)) (nI (nb2 j9))) ∧ (∀ j9 : Nat, j9 < 4 → σ2 (5 + 10 + 2 * j9 + 1) = q_an G 5 (bm2 j9)) ∧ (∀ i : Nat, i ≠ 2 ∧ i ≠ 3 ∧ i ≠ 5 ∧ (i < 15 ∨ 22 < i) → σ2 i = σ i)) ∨ (∃ (g' : Nat → Nat), ∃ (t2 : Nat), ∃ (nu2 : Int32), ∃ (nm2 : Nat → Nat), ∃ (on2 : Nat → Nat), ∃ (sl2 : Nat → Nat), ∃ (mo2 : Nat → Nat), ∃ (nb2 : Nat → Nat), ∃ (bm2 : Nat → Nat → Nat), v9 = some (.int (nI (1))) ∧ (rd_r f m g t = .inr (g', t2)) ∧ (x_rl g' (g' 0) nm2 on2 sl2 mo2 nb2 bm2) ∧ (t2 ≤ m) ∧ (tk_kd f m t2 = 2 → nu2 = nI (tk_vl f m t2)) ∧ σ2 2 = o3 G (2) (nI (ft)) (nI (0)) (q_d (0)) ∧ σ2 3 = o9 G (1) (nI (m)) (nI (x_kd f m t2)) (nI (t2)) (nI (tk_be f m t2)) (nu2) ∧ σ2 5 = o0 G (5) (nI (g' 0)) (nI (pl)) (nI (tn)) (nI (gm)) (nI (tk)) ∧ (∀ j9 : Nat, j9 < 4 → σ2 (5 + 10 + 2 * j9) = o7 G (5 + 10 + 2 * j9) (lN (nm2 j9)) (lN (on2 j9)) (nI (sl2 j9)) (nI (mo2 j9)) (nI (nb2 j9))) ∧ (∀ j9 : Nat, j9 < 4 → σ2 (5 + 10 + 2 * j9 + 1) = q_an G 5 (bm2 j9)) ∧ (∀ i : Nat, i ≠ 2 ∧ i ≠ 3 ∧ i ≠ 5 ∧ (i < 15 ∨ 22 < i) → σ2 i = σ i)) ∨ (∃ (o : Nat), ∃ (nu2 : Int32), ∃ (rm2 : Nat), ∃ (nm2 : Nat → Nat), ∃ (on2 : Nat → Nat), ∃ (sl2 : Nat → Nat), ∃ (mo2 : Nat → Nat), ∃ (nb2 : Nat → Nat), ∃ (bm2 : Nat → Nat → Nat), v9 = some (.int (nI (1))) ∧ (rd_r f m g t = .inl (1, o)) ∧ (x_kd f m o = 4) ∧ (o ≤ m) ∧ (tk_kd f m o = 2 → nu2 = nI (tk_vl f m o)) ∧ σ2 3 = o9 G (1) (nI (m)) (nI (x_kd f m o)) (nI (o)) (nI (tk_be f m o)) (nu2) ∧ σ2 2 = o3 G (2) (nI (ft)) (nI (0)) (q_d (0)) ∧ σ2 5 = o0 G (5) (nI (rm2)) (nI (pl)) (nI (tn)) (nI (gm)) (nI (tk)) ∧ (∀ j9 : Nat, j9 < 4 → σ2 (5 + 10 + 2 * j9) = o7 G (5 + 10 + 2 * j9) (lN (nm2 j9)) (lN (on2 j9)) (nI (sl2 j9)) (nI (mo2 j9)) (nI (nb2 j9))) ∧ (∀ j9 : Nat, j9 < 4 → σ2 (5 + 10 + 2 * j9 + 1) = q_an G 5 (bm2 j9)) ∧ (∀ i : Nat, i ≠ 2 ∧ i ≠ 3 ∧ i ≠ 5 ∧ (i < 15 ∨ 22 < i) → σ2 i = σ i))) := by
  refine q_enter [some (.ref (q_h G + 2)), none] (by decide) (Nat.le_of_ble_eq_true rfl) rfl ?_
  intro K hg
  obtain ⟨Q, hQ⟩ : ∃ Q, Q = q_Q G K ex n 0 0 (fun v9 n' σ' => n' = n ∧ (fun v9 σ2 => (∃ (c : Nat), ∃ (o : Nat), ∃ (kd2 : Int32), ∃ (st2 : Int32), ∃ (be2 : Int32), ∃ (nu2 : Int32), ∃ (rm2 : Nat), ∃ (nm2 : Nat → Nat), ∃ (on2 : Nat → Nat), ∃ (sl2 : Nat → Nat), ∃ (mo2 : Nat → Nat), ∃ (nb2 : Nat → Nat), ∃ (bm2 : Nat → Nat → Nat), v9 = some (.int (nI (0))) ∧ (rd_r f m g t = .inl (c, o)) ∧ (¬ c = 0) ∧ σ2 2 = o3 G (2) (nI (ft)) (nI (c)) (nI (o)) ∧ σ2 3 = o9 G (1) (nI (m)) (kd2) (st2) (be2) (nu2) ∧ σ2 5 = o0 G (5) (nI (rm2)) (nI (pl)) (nI (tn)) (nI (gm)) (nI (tk)) ∧ (∀ j9 : Nat, j9 < 4 → σ2 (5 + 10 + 2 * j9) = o7 G (5 + 10 + 2 * j9) (lN (nm2 j9)) (lN (on2 j9)) (nI (sl2 j9)) (nI (mo2 j9)) (nI (nb2 j9))) ∧ (∀ j9 : Nat, j9 < 4 → σ2 (5 + 10 + 2 * j9 + 1) = q_an G 5 (bm2 j9)) ∧ (∀ i : Nat, i ≠ 2 ∧ i ≠ 3 ∧ i ≠ 5 ∧ (i < 15 ∨ 22 < i) → σ2 i = σ i)) ∨ (∃ (g' : Nat → Nat), ∃ (t2 : Nat), ∃ (nu2 : Int32), ∃ (nm2 : Nat → Nat), ∃ (on2 : Nat → Nat), ∃ (sl2 : Nat → Nat), ∃ (mo2 : Nat → Nat), ∃ (nb2 : Nat → Nat), ∃ (bm2 : Nat → Nat → Nat), v9 = some (.int (nI (1))) ∧ (rd_r f m g t = .inr (g', t2)) ∧ (x_rl g' (g' 0) nm2 on2 sl2 mo2 nb2 bm2) ∧ (t2 ≤ m) ∧ (tk_kd f m t2 = 2 → nu2 = nI (tk_vl f m t2)) ∧ σ2 2 = o3 G (2) (nI (ft)) (nI (0)) (q_d (0)) ∧ σ2 3 = o9 G (1) (nI (m)) (nI (x_kd f m t2)) (nI (t2)) (nI (tk_be f m t2)) (nu2) ∧ σ2 5 = o0 G (5) (nI (g' 0)) (nI (pl)) (nI (tn)) (nI (gm)) (nI (tk)) ∧ (∀ j9 : Nat, j9 < 4 → σ2 (5 + 10 + 2 * j9) = o7 G (5 + 10 + 2 * j9) (lN (nm2 j9)) (lN (on2 j9)) (nI (sl2 j9)) (nI (mo2 j9)) (nI (nb2 j9))) ∧ (∀ j9 : Nat, j9 < 4 → σ2 (5 + 10 + 2 * j9 + 1) = q_an G 5 (bm2 j9)) ∧ (∀ i : Nat, i ≠ 2 ∧ i ≠ 3 ∧ i ≠ 5 ∧ (i < 15 ∨ 22 < i) → σ2 i = σ i)) ∨ (∃ (o : Nat), ∃ (nu2 : Int32), ∃ (rm2 : Nat), ∃ (nm2 : Nat → Nat), ∃ (on2 : Nat → Nat), ∃ (sl2 : Nat → Nat), ∃ (mo2 : Nat → Nat), ∃ (nb2 : Nat → Nat), ∃ (bm2 : Nat → Nat → Nat), v9 = some (.int (nI (1))) ∧ (rd_r f m g t = .inl (1, o)) ∧ (x_kd f m o = 4) ∧ (o ≤ m) ∧ (tk_kd f m o = 2 → nu2 = nI (tk_vl f m o)) ∧ σ2 3 = o9 G (1) (nI (m)) (nI (x_kd f m o)) (nI (o)) (nI (tk_be f m o)) (nu2) ∧ σ2 2 = o3 G (2) (nI (ft)) (nI (0)) (q_d (0)) ∧ σ2 5 = o0 G (5) (nI (rm2)) (nI (pl)) (nI (tn)) (nI (gm)) (nI (tk)) ∧ (∀ j9 : Nat, j9 < 4 → σ2 (5 + 10 + 2 * j9) = o7 G (5 + 10 + 2 * j9) (lN (nm2 j9)) (lN (on2 j9)) (nI (sl2 j9)) (nI (mo2 j9)) (nI (nb2 j9))) ∧ (∀ j9 : Nat, j9 < 4 → σ2 (5 + 10 + 2 * j9 + 1) = q_an G 5 (bm2 j9)) ∧ (∀ i : Nat, i ≠ 2 ∧ i ≠ 3 ∧ i ≠ 5 ∧ (i < 15 ∨ 22 < i) → σ2 i = σ i))) v9 σ') q_noX := ⟨_, rfl⟩
  refine (?_ : AJ G K (q_Q G K ex n 0 0 _ _) 0 0 ex n 0 _ _ σ)
  rw [← hQ]
  have hbe := tk_be_le (f := f) ht9
  have hbg := tk_be_ge (f := f) (m := m) (t := t)
  have hkl := x_kd_lt f m t
  have hg0 := hinv.1.1
  have hnmb : ∀ r : Nat, r < g 0 → x_nmr (s_rule g r) (nm r) := fun r hr => (hrl r hr).1
  refine A_aload_n hg dX3_readRule_0 rfl rfl ?_
  refine A_getf (v := .ref (q_h G + 5)) hg fl_RX3_21 dX3_readRule_1 hc0 (by omega) rfl ?_
  refine A_getf (v := .int (nI (g 0))) hg fl_RX3_78 dX3_readRule_4 hc3 (by omega) rfl ?_
  refine A_iconst (v := (nI (4))) hg dX3_readRule_7 (by decide) ?_
  refine A_icmp_ltN (tgt := 17) hg dX3_readRule_8 (by omega) (by decide) (by decide) (fun c8 => ?_) (fun c8 => ?_)
  · skip
    refine A_aload_n hg dX3_readRule_17 rfl rfl ?_
    refine A_getf (v := .ref (q_h G + 3)) hg fl_RX3_12 dX3_readRule_18 hc0 (by omega) rfl ?_
    refine A_vV (kc2 := 0) (ks2 := 0) (As := []) (rest := []) hg lk_RX3_84 in_X9_advance se_X9_advance rfl dX3_readRule_21 ⟨by decide, by decide⟩ rfl rfl ⟨by decide, by decide⟩ hc1 (by omega) rfl rfl (Nat.le_of_ble_eq_true rfl) (c_X9_advance G ex n σ f m (nI (x_kd f m t)) (nI (t)) (tk_be f m t) nu hc1 hc2 (by omega) hm6 hbb (by omega)) ?_
    rintro σ_3 ⟨t2, nu3, ht2, hnu2, hc_1, hf_2⟩
    have hc_4 : σ_3 2 = o3 G (2) (nI (ft)) (nI (0)) (q_d (0)) := (hf_2 _ (by omega)).trans hc0
    have hc_5 : σ_3 1 = q_an G 600 f := (hf_2 _ (by omega)).trans hc2
    have hc_6 : σ_3 5 = o0 G (5) (nI (g 0)) (nI (pl)) (nI (tn)) (nI (gm)) (nI (tk)) := (hf_2 _ (by omega)).trans hc3
    have hc_7 : σ_3 6 = q_rn G 3 4 (fun j => some (5 + 10 + 2 * j)) := (hf_2 _ (by omega)).trans hc4
    have hc_8 : ∀ j9 : Nat, j9 < 4 → σ_3 (5 + 10 + 2 * j9) = o7 G (5 + 10 + 2 * j9) (lN (nm j9)) (lN (on j9)) (nI (sl j9)) (nI (mo j9)) (nI (nb j9)) := fun j9 hj0 => (hf_2 _ (by omega)).trans (hc5 j9 (by omega))
    have hc_9 : ∀ j9 : Nat, j9 < 4 → σ_3 (5 + 10 + 2 * j9 + 1) = q_an G 5 (bm j9) := fun j9 hj0 => (hf_2 _ (by omega)).trans (hc6 j9 (by omega))
    have htm2 : t2 ≤ m := by rw [ht2]; exact tk_nx_le ht9
    have hbe2 := tk_be_le (f := f) htm2
    have h4 : g 0 < 4 := c8
    refine A_aload_n hg dX3_readRule_24 rfl rfl ?_
    refine A_getf (v := .ref (q_h G + 3)) hg fl_RX3_12 dX3_readRule_25 hc_4 (by omega) rfl ?_
    refine A_eV (kc2 := 0) (ks2 := 0) (As := []) (rest := []) hg lk_RX3_87 in_X9_isName se_X9_isName rfl dX3_readRule_28 ⟨by decide, by decide⟩ rfl rfl ⟨by decide, by decide⟩ hc_1 (by omega) rfl rfl (Nat.le_of_ble_eq_true rfl) (c_X9_isName G ex n σ_3 f m t2 nu3 hc_1 hc_5 (by omega) hm6 hbb htm2) ?_
    refine A_if_neB (tgt := 40) hg dX3_readRule_31 (by decide) (fun c31 => ?_) (fun c31 => ?_)
    · skip
      refine A_aload_n hg dX3_readRule_40 rfl rfl ?_
      refine A_getf (v := .ref (q_h G + 5)) hg fl_RX3_21 dX3_readRule_41 hc_4 (by omega) rfl ?_
      refine A_aload_n hg dX3_readRule_44 rfl rfl ?_
      refine A_getf (v := .ref (q_h G + 3)) hg fl_RX3_12 dX3_readRule_45 hc_4 (by omega) rfl ?_
      refine A_eV (kc2 := 0) (ks2 := 0) (As := []) (rest := [.ref (q_h G + 5)]) hg lk_RX3_90 in_X9_name se_X9_name rfl dX3_readRule_48 ⟨by decide, by decide⟩ rfl rfl ⟨by decide, by decide⟩ hc_1 (by omega) rfl rfl (Nat.le_of_ble_eq_true rfl) (c_X9_name G ex n σ_3 f m t2 nu3 hc_1 hc_5 (by omega) hm6 hbb htm2 c31) ?_
      refine A_hV (kc2 := 0) (ks2 := 0) (As := [.long (lN (x_tn f m t2))]) (rest := []) hg lk_RX3_94 in_X0_ruleNamed se_X0_ruleNamed rfl dX3_readRule_51 ⟨by decide, by decide⟩ rfl rfl ⟨by decide, by decide⟩ hc_6 (by omega) rfl rfl (Nat.le_of_ble_eq_true rfl) (c_X0_ruleNamed G ex n σ_3 5 (g 0) pl tn gm tk nm on sl mo nb (x_tn f m t2) hc_6 hc_7 hc_8 (by omega) (fun j hj => x_nmr_lt (hnmb j hj)) (x_nmr_lt (x_tn_r c31)) (by omega)) ?_
      rintro _ σ_12 (⟨r9, rfl, hr9, hnr9, hno9, he_10⟩ | ⟨rfl, hno9, he_11⟩)
      · skip
        rw [he_10]
        refine (?_ : AJ G K Q 0 0 ex n 54 [some (.ref (q_h G + 2)), none] [.int (nI (r9))] σ_3)
        refine A_iconst (v := (q_d (0))) hg dX3_readRule_54 (by decide) ?_
        refine A_icmp_eq (tgt := 64) hg dX3_readRule_55 (by decide) (fun c55 => absurd c55 (q_nM (by omega))) (fun c55 => ?_)
        refine A_aload_n hg dX3_readRule_58 rfl rfl ?_
        refine A_iconst (v := (nI (4))) hg dX3_readRule_59 (by decide) ?_
        refine A_hV (kc2 := 0) (ks2 := 0) (As := [.int (nI (4))]) (rest := []) hg lk_RX3_71 in_X3_fail se_X3_fail rfl dX3_readRule_60 ⟨by decide, by decide⟩ rfl rfl ⟨by decide, by decide⟩ hc_4 (by omega) rfl rfl (Nat.le_of_ble_eq_true rfl) (c_X3_fail G ex n σ_3 m t2 (nI (x_kd f m t2)) (nI (tk_be f m t2)) nu3 ft (nI (0)) (q_d (0)) 4 hc_4 hc_1 (by omega)) ?_
        rintro _ σ_15 ⟨rfl, hc_13, hf_14⟩
        refine (?_ : AJ G K Q 0 0 ex n 63 [some (.ref (q_h G + 2)), none] [.int (nI (0))] σ_15)
        have hc_16 : σ_15 1 = q_an G 600 f := (hf_14 _ (by omega)).trans hc_5
        have hc_17 : σ_15 5 = o0 G (5) (nI (g 0)) (nI (pl)) (nI (tn)) (nI (gm)) (nI (tk)) := (hf_14 _ (by omega)).trans hc_6
        have hc_18 : σ_15 6 = q_rn G 3 4 (fun j => some (5 + 10 + 2 * j)) := (hf_14 _ (by omega)).trans hc_7
        have hc_19 : ∀ j9 : Nat, j9 < 4 → σ_15 (5 + 10 + 2 * j9) = o7 G (5 + 10 + 2 * j9) (lN (nm j9)) (lN (on j9)) (nI (sl j9)) (nI (mo j9)) (nI (nb j9)) := fun j9 hj0 => (hf_14 _ (by omega)).trans (hc_8 j9 (by omega))
        have hc_20 : ∀ j9 : Nat, j9 < 4 → σ_15 (5 + 10 + 2 * j9 + 1) = q_an G 5 (bm j9) := fun j9 hj0 => (hf_14 _ (by omega)).trans (hc_9 j9 (by omega))
        have hc_21 : σ_15 3 = o9 G (1) (nI (m)) (nI (x_kd f m t2)) (nI (t2)) (nI (tk_be f m t2)) (nu3) := (hf_14 _ (by omega)).trans hc_1
        rw [hQ]
        exact A_zreturn hg (by decide) (by decide) rfl rfl dX3_readRule_63 ⟨rfl, Or.inl (⟨4, t2, (nI (x_kd f m t2)), (nI (t2)), (nI (tk_be f m t2)), (nu3), (g 0), nm, on, sl, mo, nb, bm, rfl, (rd_r_4 (by omega) ht2 c31 (by rw [x_nmi_t c31 hnmb hr9 hnr9 hno9]; exact hr9)), (by first | assumption | omega), hc_13, hc_21, hc_17, hc_19, hc_20, (fun i hi => ((hf_14 i (by omega)).trans (hf_2 i (by omega))))⟩)⟩
      · skip
        rw [he_11]
        refine (?_ : AJ G K Q 0 0 ex n 54 [some (.ref (q_h G + 2)), none] [.int (q_d (0))] σ_3)
        refine A_iconst (v := (q_d (0))) hg dX3_readRule_54 (by decide) ?_
        refine A_icmp_eqM (tgt := 64) hg dX3_readRule_55 (by decide) (by decide) (by decide) (fun c55 => ?_) (fun c55 => absurd rfl c55)
        have hnf := x_nmi_f c31 hnmb hno9
        refine A_aload_n hg dX3_readRule_64 rfl rfl ?_
        refine A_getf (v := .ref (q_h G + 5)) hg fl_RX3_21 dX3_readRule_65 hc_4 (by omega) rfl ?_
        refine A_aload_n hg dX3_readRule_68 rfl rfl ?_
        refine A_getf (v := .ref (q_h G + 3)) hg fl_RX3_12 dX3_readRule_69 hc_4 (by omega) rfl ?_
        refine A_eV (kc2 := 0) (ks2 := 0) (As := []) (rest := [.ref (q_h G + 5)]) hg lk_RX3_90 in_X9_name se_X9_name rfl dX3_readRule_72 ⟨by decide, by decide⟩ rfl rfl ⟨by decide, by decide⟩ hc_1 (by omega) rfl rfl (Nat.le_of_ble_eq_true rfl) (c_X9_name G ex n σ_3 f m t2 nu3 hc_1 hc_5 (by omega) hm6 hbb htm2 c31) ?_
        refine A_hV (kc2 := 0) (ks2 := 0) (As := [.long (lN (x_tn f m t2))]) (rest := []) hg lk_RX3_98 in_X0_addRule se_X0_addRule rfl dX3_readRule_75 ⟨by decide, by decide⟩ rfl rfl ⟨by decide, by decide⟩ hc_6 (by omega) rfl rfl (Nat.le_of_ble_eq_true rfl) (c_X0_addRule G ex n σ_3 5 (g 0) pl tn gm tk nm on sl mo nb bm (x_tn f m t2) hc_6 hc_7 hc_8 hc_9 (by omega) (by omega)) ?_
        rintro _ σ_26 ⟨rfl, hc_22, hc_23, hc_24, hf_25⟩
        refine (?_ : AJ G K Q 0 0 ex n 78 [some (.ref (q_h G + 2)), none] [.ref (q_h G + (5 + 10 + 2 * (g 0)))] σ_26)
        have hc_27 : σ_26 2 = o3 G (2) (nI (ft)) (nI (0)) (q_d (0)) := (hf_25 _ (by omega)).trans hc_4
        have hc_28 : σ_26 1 = q_an G 600 f := (hf_25 _ (by omega)).trans hc_5
        have hc_29 : σ_26 6 = q_rn G 3 4 (fun j => some (5 + 10 + 2 * j)) := (hf_25 _ (by omega)).trans hc_7
        have hc_30 : σ_26 3 = o9 G (1) (nI (m)) (nI (x_kd f m t2)) (nI (t2)) (nI (tk_be f m t2)) (nu3) := (hf_25 _ (by omega)).trans hc_1
        have hcr : σ_26 (5 + 10 + 2 * g 0) = o7 G (5 + 10 + 2 * g 0) (lN (x_tn f m t2)) (lN (0)) (nI (1)) (nI (40)) (nI (0)) := (hc_23 (g 0) (by omega)).trans (by simp only [va_up_at])
        obtain ⟨hn0, hn1, hn2, hn3, hn4, hn5, hn6⟩ := x_new hinv h4 c31
        have hkn := rd_new_ok hinv h4 c31
        refine A_astore_n hg dX3_readRule_78 rfl (by decide) (q_c1d rfl) ?_
        refine A_eq (ls2 := [some (.ref (q_h G + 2)), some (.ref (q_h G + (5 + 10 + 2 * (g 0))))]) (st2 := []) (pc2 := 0) rfl rfl ?_
        refine A_aload_n hg dX3_readRule_79 rfl rfl ?_
        refine A_getf (v := .ref (q_h G + 3)) hg fl_RX3_12 dX3_readRule_80 hc_27 (by omega) rfl ?_
        refine A_vV (kc2 := 0) (ks2 := 0) (As := []) (rest := []) hg lk_RX3_84 in_X9_advance se_X9_advance rfl dX3_readRule_83 ⟨by decide, by decide⟩ rfl rfl ⟨by decide, by decide⟩ hc_30 (by omega) rfl rfl (Nat.le_of_ble_eq_true rfl) (c_X9_advance G ex n σ_26 f m (nI (x_kd f m t2)) (nI (t2)) (tk_be f m t2) nu3 hc_30 hc_28 (by omega) hm6 hbb (by omega)) ?_
        rintro σ_33 ⟨t3, nu4, ht3, hnu3, hc_31, hf_32⟩
        have hc_34 : σ_33 (5 + 10 + 2 * g 0) = o7 G (5 + 10 + 2 * g 0) (lN (x_tn f m t2)) (lN (0)) (nI (1)) (nI (40)) (nI (0)) := (hf_32 _ (by omega)).trans hcr
        have hc_35 : σ_33 2 = o3 G (2) (nI (ft)) (nI (0)) (q_d (0)) := (hf_32 _ (by omega)).trans hc_27
        have hc_36 : σ_33 1 = q_an G 600 f := (hf_32 _ (by omega)).trans hc_28
        have hc_37 : σ_33 6 = q_rn G 3 4 (fun j => some (5 + 10 + 2 * j)) := (hf_32 _ (by omega)).trans hc_29
        have hc_38 : σ_33 5 = o0 G (5) (nI ((g 0) + 1)) (nI (pl)) (nI (tn)) (nI (gm)) (nI (tk)) := (hf_32 _ (by omega)).trans hc_22
        have hc_39 : ∀ j9 : Nat, j9 < 4 → σ_33 (5 + 10 + 2 * j9) = o7 G (5 + 10 + 2 * j9) (lN (va_up nm (g 0) (x_tn f m t2) j9)) (lN (va_up on (g 0) 0 j9)) (nI (va_up sl (g 0) 1 j9)) (nI (va_up mo (g 0) 40 j9)) (nI (va_up nb (g 0) 0 j9)) := fun j9 hj0 => (hf_32 _ (by omega)).trans (hc_23 j9 (by omega))
        have hc_40 : ∀ j9 : Nat, j9 < 4 → σ_33 (5 + 10 + 2 * j9 + 1) = q_an G 5 (bm j9) := fun j9 hj0 => (hf_32 _ (by omega)).trans (hc_24 j9 (by omega))
        have htm3 : t3 ≤ m := by rw [ht3]; exact tk_nx_le htm2
        refine A_aload_n hg dX3_readRule_86 rfl rfl ?_
        refine A_aload_n hg dX3_readRule_87 rfl rfl ?_
        refine A_hV (kc2 := 0) (ks2 := 0) (As := [.ref (q_h G + (5 + 10 + 2 * (g 0)))]) (rest := []) hg lk_RX3_102 in_X3_readOnly se_X3_readOnly rfl dX3_readRule_88 ⟨by decide, by decide⟩ rfl rfl ⟨by decide, by decide⟩ hc_35 (by omega) rfl rfl (Nat.le_of_ble_eq_true rfl) (c_X3_readOnly G ex n σ_33 f m t3 nu4 ft (5 + 10 + 2 * (g 0)) (x_tn f m t2) 0 1 40 0 (rd_new f m g t2) (g 0) hc_35 hc_31 hc_36 hc_34 (by omega) hm6 hbb htm3 hnu3 (by omega) hn1 hn2 hn3) ?_
        rintro _ σ_56 (⟨c_41, t4, kd2_42, st2_43, be2_44, nu5, on3, rfl, hR1, hc0_45, hc_46, hc_47, hc_48, hf_49⟩ | ⟨g2, t4, nu5, on3, rfl, hR1, hon3, hos3, hsm1, htm4, hnu5, hc_50, hc_51, hf_52⟩ | ⟨t4, nu5, on3, rfl, hR1, hk4, htm4, hnu5, hc_53, hc_54, hf_55⟩)
        · skip
          refine (?_ : AJ G K Q 0 0 ex n 91 [some (.ref (q_h G + 2)), some (.ref (q_h G + (5 + 10 + 2 * (g 0))))] [.int (nI (0))] σ_56)
          have hc_57 : σ_56 1 = q_an G 600 f := (hf_49 _ (by omega)).trans hc_36
          have hc_58 : σ_56 6 = q_rn G 3 4 (fun j => some (5 + 10 + 2 * j)) := (hf_49 _ (by omega)).trans hc_37
          have hc_59 : σ_56 5 = o0 G (5) (nI ((g 0) + 1)) (nI (pl)) (nI (tn)) (nI (gm)) (nI (tk)) := (hf_49 _ (by omega)).trans hc_38
          have hc_60 : ∀ j9 : Nat, j9 < 4 → j9 ≠ (g 0) → σ_56 (5 + 10 + 2 * j9) = o7 G (5 + 10 + 2 * j9) (lN (va_up nm (g 0) (x_tn f m t2) j9)) (lN (va_up on (g 0) 0 j9)) (nI (va_up sl (g 0) 1 j9)) (nI (va_up mo (g 0) 40 j9)) (nI (va_up nb (g 0) 0 j9)) := fun j9 hj0 hj1 => (hf_49 _ (by omega)).trans (hc_39 j9 (by omega))
          have hc_61 : ∀ j9 : Nat, j9 < 4 → σ_56 (5 + 10 + 2 * j9 + 1) = q_an G 5 (bm j9) := fun j9 hj0 => (hf_49 _ (by omega)).trans (hc_40 j9 (by omega))
          refine A_if_eqN (tgt := 122) hg dX3_readRule_91 (by decide) (by decide) (fun c91 => ?_) (fun c91 => absurd (by decide) c91)
          refine A_iconst (v := (nI (0))) hg dX3_readRule_122 (by decide) ?_
          have hc_62 : ∀ j9 : Nat, j9 < 4 → σ_56 (5 + 10 + 2 * j9) = o7 G (5 + 10 + 2 * j9) (lN ((x_pt nm (g 0) (x_tn f m t2)) j9)) (lN ((x_pt on (g 0) on3) j9)) (nI ((x_pt sl (g 0) 1) j9)) (nI ((x_pt mo (g 0) 40) j9)) (nI ((x_pt nb (g 0) 0) j9)) := by
            intro j9 hj0
            by_cases ej : j9 = g 0
            · rw [ej]; exact hc_48.trans (by simp only [x_pt_at])
            · exact (hc_60 j9 hj0 ej).trans (by simp only [x_pt_ne ej, va_up_off ej])
          rw [hQ]
          exact A_zreturn hg (by decide) (by decide) rfl rfl dX3_readRule_123 ⟨rfl, Or.inl (⟨c_41, t4, (kd2_42), (st2_43), (be2_44), (nu5), ((g 0) + 1), (x_pt nm (g 0) (x_tn f m t2)), (x_pt on (g 0) on3), (x_pt sl (g 0) 1), (x_pt mo (g 0) 40), (x_pt nb (g 0) 0), bm, rfl, ((rd_r_go (by omega) ht2 c31 hnf ht3).trans (rd_r2_1 hR1)), (by first | assumption | omega), hc_46, hc_47, hc_59, hc_62, hc_61, (fun i hi => ((hf_49 i (by omega)).trans ((hf_32 i (by omega)).trans ((hf_25 i (by omega)).trans (hf_2 i (by omega))))))⟩)⟩
        · skip
          refine (?_ : AJ G K Q 0 0 ex n 91 [some (.ref (q_h G + 2)), some (.ref (q_h G + (5 + 10 + 2 * (g 0))))] [.int (nI (1))] σ_56)
          have hc_63 : σ_56 2 = o3 G (2) (nI (ft)) (nI (0)) (q_d (0)) := (hf_52 _ (by omega)).trans hc_35
          have hc_64 : σ_56 1 = q_an G 600 f := (hf_52 _ (by omega)).trans hc_36
          have hc_65 : σ_56 6 = q_rn G 3 4 (fun j => some (5 + 10 + 2 * j)) := (hf_52 _ (by omega)).trans hc_37
          have hc_66 : σ_56 5 = o0 G (5) (nI ((g 0) + 1)) (nI (pl)) (nI (tn)) (nI (gm)) (nI (tk)) := (hf_52 _ (by omega)).trans hc_38
          have hc_67 : ∀ j9 : Nat, j9 < 4 → j9 ≠ (g 0) → σ_56 (5 + 10 + 2 * j9) = o7 G (5 + 10 + 2 * j9) (lN (va_up nm (g 0) (x_tn f m t2) j9)) (lN (va_up on (g 0) 0 j9)) (nI (va_up sl (g 0) 1 j9)) (nI (va_up mo (g 0) 40 j9)) (nI (va_up nb (g 0) 0 j9)) := fun j9 hj0 hj1 => (hf_52 _ (by omega)).trans (hc_39 j9 (by omega))
          have hc_68 : ∀ j9 : Nat, j9 < 4 → σ_56 (5 + 10 + 2 * j9 + 1) = q_an G 5 (bm j9) := fun j9 hj0 => (hf_52 _ (by omega)).trans (hc_40 j9 (by omega))
          refine A_if_eqN (tgt := 122) hg dX3_readRule_91 (by decide) (by decide) (fun c91 => absurd c91 (by decide)) (fun c91 => ?_)
          refine A_aload_n hg dX3_readRule_94 rfl rfl ?_
          refine A_aload_n hg dX3_readRule_95 rfl rfl ?_
          refine A_hV (kc2 := 0) (ks2 := 0) (As := [.ref (q_h G + (5 + 10 + 2 * (g 0)))]) (rest := []) hg lk_RX3_106 in_X3_readSlack se_X3_readSlack rfl dX3_readRule_96 ⟨by decide, by decide⟩ rfl rfl ⟨by decide, by decide⟩ hc_63 (by omega) rfl rfl (Nat.le_of_ble_eq_true rfl) (c_X3_readSlack G ex n σ_56 f m t4 nu5 ft (5 + 10 + 2 * (g 0)) (x_tn f m t2) on3 1 40 0 g2 (g 0) hc_63 hc_50 hc_64 hc_51 (by omega) hm6 hbb htm4 hnu5 (by omega) (((hsm1 18 (Or.inr (by decide))).trans hn4).symm)) ?_
          rintro _ σ_82 (⟨c_69, o_70, kd2_71, st2_72, be2_73, nu6, rfl, hR2, hc0_74, hc_75, hc_76, hc_77, hf_78⟩ | ⟨g3, t5, nu6, sl3, rfl, hR2, hx2, hsm2, htm5, hnu6, hc_79, hc_80, hf_81⟩)
          · skip
            refine (?_ : AJ G K Q 0 0 ex n 99 [some (.ref (q_h G + 2)), some (.ref (q_h G + (5 + 10 + 2 * (g 0))))] [.int (nI (0))] σ_82)
            have hc_83 : σ_82 1 = q_an G 600 f := (hf_78 _ (by omega)).trans hc_64
            have hc_84 : σ_82 6 = q_rn G 3 4 (fun j => some (5 + 10 + 2 * j)) := (hf_78 _ (by omega)).trans hc_65
            have hc_85 : σ_82 5 = o0 G (5) (nI ((g 0) + 1)) (nI (pl)) (nI (tn)) (nI (gm)) (nI (tk)) := (hf_78 _ (by omega)).trans hc_66
            have hc_86 : ∀ j9 : Nat, j9 < 4 → j9 ≠ (g 0) → σ_82 (5 + 10 + 2 * j9) = o7 G (5 + 10 + 2 * j9) (lN (va_up nm (g 0) (x_tn f m t2) j9)) (lN (va_up on (g 0) 0 j9)) (nI (va_up sl (g 0) 1 j9)) (nI (va_up mo (g 0) 40 j9)) (nI (va_up nb (g 0) 0 j9)) := fun j9 hj0 hj1 => (hf_78 _ (by omega)).trans (hc_67 j9 (by omega) (by omega))
            have hc_87 : ∀ j9 : Nat, j9 < 4 → σ_82 (5 + 10 + 2 * j9 + 1) = q_an G 5 (bm j9) := fun j9 hj0 => (hf_78 _ (by omega)).trans (hc_68 j9 (by omega))
            refine A_if_eqN (tgt := 122) hg dX3_readRule_99 (by decide) (by decide) (fun c99 => ?_) (fun c99 => absurd (by decide) c99)
            refine A_iconst (v := (nI (0))) hg dX3_readRule_122 (by decide) ?_
            have hc_88 : ∀ j9 : Nat, j9 < 4 → σ_82 (5 + 10 + 2 * j9) = o7 G (5 + 10 + 2 * j9) (lN ((x_pt nm (g 0) (x_tn f m t2)) j9)) (lN ((x_pt on (g 0) on3) j9)) (nI ((x_pt sl (g 0) 0) j9)) (nI ((x_pt mo (g 0) 40) j9)) (nI ((x_pt nb (g 0) 0) j9)) := by
              intro j9 hj0
              by_cases ej : j9 = g 0
              · rw [ej]; exact hc_77.trans (by simp only [x_pt_at])
              · exact (hc_86 j9 hj0 ej).trans (by simp only [x_pt_ne ej, va_up_off ej])
            rw [hQ]
            exact A_zreturn hg (by decide) (by decide) rfl rfl dX3_readRule_123 ⟨rfl, Or.inl (⟨c_69, o_70, (kd2_71), (st2_72), (be2_73), (nu6), ((g 0) + 1), (x_pt nm (g 0) (x_tn f m t2)), (x_pt on (g 0) on3), (x_pt sl (g 0) 0), (x_pt mo (g 0) 40), (x_pt nb (g 0) 0), bm, rfl, ((rd_r_go (by omega) ht2 c31 hnf ht3).trans (rd_r2_2 hR1 hR2)), (by first | assumption | omega), hc_75, hc_76, hc_85, hc_88, hc_87, (fun i hi => ((hf_78 i (by omega)).trans ((hf_52 i (by omega)).trans ((hf_32 i (by omega)).trans ((hf_25 i (by omega)).trans (hf_2 i (by omega)))))))⟩)⟩
          · skip
            refine (?_ : AJ G K Q 0 0 ex n 99 [some (.ref (q_h G + 2)), some (.ref (q_h G + (5 + 10 + 2 * (g 0))))] [.int (nI (1))] σ_82)
            have hc_89 : σ_82 2 = o3 G (2) (nI (ft)) (nI (0)) (q_d (0)) := (hf_81 _ (by omega)).trans hc_63
            have hc_90 : σ_82 1 = q_an G 600 f := (hf_81 _ (by omega)).trans hc_64
            have hc_91 : σ_82 6 = q_rn G 3 4 (fun j => some (5 + 10 + 2 * j)) := (hf_81 _ (by omega)).trans hc_65
            have hc_92 : σ_82 5 = o0 G (5) (nI ((g 0) + 1)) (nI (pl)) (nI (tn)) (nI (gm)) (nI (tk)) := (hf_81 _ (by omega)).trans hc_66
            have hc_93 : ∀ j9 : Nat, j9 < 4 → j9 ≠ (g 0) → σ_82 (5 + 10 + 2 * j9) = o7 G (5 + 10 + 2 * j9) (lN (va_up nm (g 0) (x_tn f m t2) j9)) (lN (va_up on (g 0) 0 j9)) (nI (va_up sl (g 0) 1 j9)) (nI (va_up mo (g 0) 40 j9)) (nI (va_up nb (g 0) 0 j9)) := fun j9 hj0 hj1 => (hf_81 _ (by omega)).trans (hc_67 j9 (by omega) (by omega))
            have hc_94 : ∀ j9 : Nat, j9 < 4 → σ_82 (5 + 10 + 2 * j9 + 1) = q_an G 5 (bm j9) := fun j9 hj0 => (hf_81 _ (by omega)).trans (hc_68 j9 (by omega))
            refine A_if_eqN (tgt := 122) hg dX3_readRule_99 (by decide) (by decide) (fun c99 => absurd c99 (by decide)) (fun c99 => ?_)
            refine A_aload_n hg dX3_readRule_102 rfl rfl ?_
            refine A_aload_n hg dX3_readRule_103 rfl rfl ?_
            refine A_hV (kc2 := 0) (ks2 := 0) (As := [.ref (q_h G + (5 + 10 + 2 * (g 0)))]) (rest := []) hg lk_RX3_109 in_X3_readMost se_X3_readMost rfl dX3_readRule_104 ⟨by decide, by decide⟩ rfl rfl ⟨by decide, by decide⟩ hc_89 (by omega) rfl rfl (Nat.le_of_ble_eq_true rfl) (c_X3_readMost G ex n σ_82 f m t5 nu6 ft (5 + 10 + 2 * (g 0)) (x_tn f m t2) on3 sl3 40 0 g3 (g 0) hc_89 hc_79 hc_90 hc_80 (by omega) hm6 hbb htm5 hnu6 (by omega) (((hsm2 19 (by decide)).trans ((hsm1 19 (Or.inr (by decide))).trans hn5)).symm)) ?_
            rintro _ σ_108 (⟨c_95, o_96, kd2_97, st2_98, be2_99, nu7, rfl, hR3, hc0_100, hc_101, hc_102, hc_103, hf_104⟩ | ⟨g4, t6, nu7, mo3, rfl, hR3, hx3, hsm3, htm6, hnu7, hc_105, hc_106, hf_107⟩)
            · skip
              refine (?_ : AJ G K Q 0 0 ex n 107 [some (.ref (q_h G + 2)), some (.ref (q_h G + (5 + 10 + 2 * (g 0))))] [.int (nI (0))] σ_108)
              have hc_109 : σ_108 1 = q_an G 600 f := (hf_104 _ (by omega)).trans hc_90
              have hc_110 : σ_108 6 = q_rn G 3 4 (fun j => some (5 + 10 + 2 * j)) := (hf_104 _ (by omega)).trans hc_91
              have hc_111 : σ_108 5 = o0 G (5) (nI ((g 0) + 1)) (nI (pl)) (nI (tn)) (nI (gm)) (nI (tk)) := (hf_104 _ (by omega)).trans hc_92
              have hc_112 : ∀ j9 : Nat, j9 < 4 → j9 ≠ (g 0) → σ_108 (5 + 10 + 2 * j9) = o7 G (5 + 10 + 2 * j9) (lN (va_up nm (g 0) (x_tn f m t2) j9)) (lN (va_up on (g 0) 0 j9)) (nI (va_up sl (g 0) 1 j9)) (nI (va_up mo (g 0) 40 j9)) (nI (va_up nb (g 0) 0 j9)) := fun j9 hj0 hj1 => (hf_104 _ (by omega)).trans (hc_93 j9 (by omega) (by omega))
              have hc_113 : ∀ j9 : Nat, j9 < 4 → σ_108 (5 + 10 + 2 * j9 + 1) = q_an G 5 (bm j9) := fun j9 hj0 => (hf_104 _ (by omega)).trans (hc_94 j9 (by omega))
              refine A_if_eqN (tgt := 122) hg dX3_readRule_107 (by decide) (by decide) (fun c107 => ?_) (fun c107 => absurd (by decide) c107)
              refine A_iconst (v := (nI (0))) hg dX3_readRule_122 (by decide) ?_
              have hc_114 : ∀ j9 : Nat, j9 < 4 → σ_108 (5 + 10 + 2 * j9) = o7 G (5 + 10 + 2 * j9) (lN ((x_pt nm (g 0) (x_tn f m t2)) j9)) (lN ((x_pt on (g 0) on3) j9)) (nI ((x_pt sl (g 0) sl3) j9)) (nI ((x_pt mo (g 0) 0) j9)) (nI ((x_pt nb (g 0) 0) j9)) := by
                intro j9 hj0
                by_cases ej : j9 = g 0
                · rw [ej]; exact hc_103.trans (by simp only [x_pt_at])
                · exact (hc_112 j9 hj0 ej).trans (by simp only [x_pt_ne ej, va_up_off ej])
              rw [hQ]
              exact A_zreturn hg (by decide) (by decide) rfl rfl dX3_readRule_123 ⟨rfl, Or.inl (⟨c_95, o_96, (kd2_97), (st2_98), (be2_99), (nu7), ((g 0) + 1), (x_pt nm (g 0) (x_tn f m t2)), (x_pt on (g 0) on3), (x_pt sl (g 0) sl3), (x_pt mo (g 0) 0), (x_pt nb (g 0) 0), bm, rfl, ((rd_r_go (by omega) ht2 c31 hnf ht3).trans (rd_r2_3 hR1 hR2 hR3)), (by first | assumption | omega), hc_101, hc_102, hc_111, hc_114, hc_113, (fun i hi => ((hf_104 i (by omega)).trans ((hf_81 i (by omega)).trans ((hf_52 i (by omega)).trans ((hf_32 i (by omega)).trans ((hf_25 i (by omega)).trans (hf_2 i (by omega))))))))⟩)⟩
            · skip
              refine (?_ : AJ G K Q 0 0 ex n 107 [some (.ref (q_h G + 2)), some (.ref (q_h G + (5 + 10 + 2 * (g 0))))] [.int (nI (1))] σ_108)
              have hc_115 : σ_108 2 = o3 G (2) (nI (ft)) (nI (0)) (q_d (0)) := (hf_107 _ (by omega)).trans hc_89
              have hc_116 : σ_108 1 = q_an G 600 f := (hf_107 _ (by omega)).trans hc_90
              have hc_117 : σ_108 6 = q_rn G 3 4 (fun j => some (5 + 10 + 2 * j)) := (hf_107 _ (by omega)).trans hc_91
              have hc_118 : σ_108 5 = o0 G (5) (nI ((g 0) + 1)) (nI (pl)) (nI (tn)) (nI (gm)) (nI (tk)) := (hf_107 _ (by omega)).trans hc_92
              have hc_119 : ∀ j9 : Nat, j9 < 4 → j9 ≠ (g 0) → σ_108 (5 + 10 + 2 * j9) = o7 G (5 + 10 + 2 * j9) (lN (va_up nm (g 0) (x_tn f m t2) j9)) (lN (va_up on (g 0) 0 j9)) (nI (va_up sl (g 0) 1 j9)) (nI (va_up mo (g 0) 40 j9)) (nI (va_up nb (g 0) 0 j9)) := fun j9 hj0 hj1 => (hf_107 _ (by omega)).trans (hc_93 j9 (by omega) (by omega))
              have hc_120 : ∀ j9 : Nat, j9 < 4 → σ_108 (5 + 10 + 2 * j9 + 1) = q_an G 5 (bm j9) := fun j9 hj0 => (hf_107 _ (by omega)).trans (hc_94 j9 (by omega))
              refine A_if_eqN (tgt := 122) hg dX3_readRule_107 (by decide) (by decide) (fun c107 => absurd c107 (by decide)) (fun c107 => ?_)
              have w4 := rd_o_wf hkn.1 hR1
              have w5 := rd_w_wf w4.1 (by omega) hR2
              have w6 := rd_w_wf w5.1 (by omega) hR3
              have e418 : s_rule g4 (g 0) 18 = sl3 := (hsm3 18 (by decide)).trans hx2.symm
              have e420 : s_rule g4 (g 0) 20 = 0 := (hsm3 20 (by decide)).trans ((hsm2 20 (by decide)).trans ((hsm1 20 (by decide)).trans hn6))
              have hon4 : x_on (s_rule g4 (g 0)) on3 := x_on_congr (fun j h1 h2 => (hsm3 j (by omega)).trans (hsm2 j (by omega))) w4.1.1.2.1 hon3
              have hc_121 : σ_108 (5 + 10 + 2 * (g 0)) = o7 G (5 + 10 + 2 * g 0) (lN (x_tn f m t2)) (lN (on3)) (nI ((s_rule g4 (g 0)) 18)) (nI ((s_rule g4 (g 0)) 19)) (nI ((s_rule g4 (g 0)) 20)) := hc_106.trans (by rw [e418, e420, ← hx3])
              refine A_aload_n hg dX3_readRule_110 rfl rfl ?_
              refine A_aload_n hg dX3_readRule_111 rfl rfl ?_
              refine A_hV (kc2 := 0) (ks2 := 0) (As := [.ref (q_h G + (5 + 10 + 2 * (g 0)))]) (rest := []) hg lk_RX3_112 in_X3_readBars se_X3_readBars rfl dX3_readRule_112 ⟨by decide, by decide⟩ rfl rfl ⟨by decide, by decide⟩ hc_115 (by omega) rfl rfl (Nat.le_of_ble_eq_true rfl) (c_X3_readBars G ex n σ_108 f m t6 nu7 ft (5 + 10 + 2 * (g 0)) (x_tn f m t2) on3 (bm (g 0)) g4 (g 0) hc_115 hc_105 hc_116 hc_121 (hc_120 (g 0) (by omega)) (by omega) hm6 hbb htm6 hnu7 (by omega) w6.1 hon4 (fun i hi => absurd hi (by rw [e420]; exact Nat.not_lt_zero i)) e420) ?_
              rintro _ σ_140 (⟨c_122, o_123, kd2_124, st2_125, be2_126, nu8, sl2_127, mo2_128, nb2_129, bm5, rfl, hR4, hc0_130, hc_131, hc_132, hc_133, hc_134, hf_135⟩ | ⟨g5, t7, nu8, bm5, rfl, hR4, hbm5, hsm4, htm7, hnu8, hc_136, hc_137, hc_138, hf_139⟩)
              · skip
                refine (?_ : AJ G K Q 0 0 ex n 115 [some (.ref (q_h G + 2)), some (.ref (q_h G + (5 + 10 + 2 * (g 0))))] [.int (nI (0))] σ_140)
                have hc_141 : σ_140 1 = q_an G 600 f := (hf_135 _ (by omega)).trans hc_116
                have hc_142 : σ_140 6 = q_rn G 3 4 (fun j => some (5 + 10 + 2 * j)) := (hf_135 _ (by omega)).trans hc_117
                have hc_143 : σ_140 5 = o0 G (5) (nI ((g 0) + 1)) (nI (pl)) (nI (tn)) (nI (gm)) (nI (tk)) := (hf_135 _ (by omega)).trans hc_118
                have hc_144 : ∀ j9 : Nat, j9 < 4 → j9 ≠ (g 0) → σ_140 (5 + 10 + 2 * j9) = o7 G (5 + 10 + 2 * j9) (lN (va_up nm (g 0) (x_tn f m t2) j9)) (lN (va_up on (g 0) 0 j9)) (nI (va_up sl (g 0) 1 j9)) (nI (va_up mo (g 0) 40 j9)) (nI (va_up nb (g 0) 0 j9)) := fun j9 hj0 hj1 => (hf_135 _ (by omega)).trans (hc_119 j9 (by omega) (by omega))
                have hc_145 : ∀ j9 : Nat, j9 < 4 → j9 ≠ (g 0) → σ_140 (5 + 10 + 2 * j9 + 1) = q_an G 5 (bm j9) := fun j9 hj0 hj1 => (hf_135 _ (by omega)).trans (hc_120 j9 (by omega))
                refine A_if_eqN (tgt := 122) hg dX3_readRule_115 (by decide) (by decide) (fun c115 => ?_) (fun c115 => absurd (by decide) c115)
                refine A_iconst (v := (nI (0))) hg dX3_readRule_122 (by decide) ?_
                have hc_146 : ∀ j9 : Nat, j9 < 4 → σ_140 (5 + 10 + 2 * j9) = o7 G (5 + 10 + 2 * j9) (lN ((x_pt nm (g 0) (x_tn f m t2)) j9)) (lN ((x_pt on (g 0) on3) j9)) (nI ((x_pt sl (g 0) sl2_127) j9)) (nI ((x_pt mo (g 0) mo2_128) j9)) (nI ((x_pt nb (g 0) nb2_129) j9)) := by
                  intro j9 hj0
                  by_cases ej : j9 = g 0
                  · rw [ej]; exact hc_133.trans (by simp only [x_pt_at])
                  · exact (hc_144 j9 hj0 ej).trans (by simp only [x_pt_ne ej, va_up_off ej])
                have hc_147 : ∀ j9 : Nat, j9 < 4 → σ_140 (5 + 10 + 2 * j9 + 1) = q_an G 5 ((x_pt bm (g 0) bm5) j9) := by
                  intro j9 hj0
                  by_cases ej : j9 = g 0
                  · rw [ej]; exact hc_134.trans (by simp only [x_pt_at])
                  · exact (hc_145 j9 hj0 ej).trans (by simp only [x_pt_ne ej])
                rw [hQ]
                exact A_zreturn hg (by decide) (by decide) rfl rfl dX3_readRule_123 ⟨rfl, Or.inl (⟨c_122, o_123, (kd2_124), (st2_125), (be2_126), (nu8), ((g 0) + 1), (x_pt nm (g 0) (x_tn f m t2)), (x_pt on (g 0) on3), (x_pt sl (g 0) sl2_127), (x_pt mo (g 0) mo2_128), (x_pt nb (g 0) nb2_129), (x_pt bm (g 0) bm5), rfl, ((rd_r_go (by omega) ht2 c31 hnf ht3).trans (rd_r2_4 hR1 hR2 hR3 hR4)), (by first | assumption | omega), hc_131, hc_132, hc_143, hc_146, hc_147, (fun i hi => ((hf_135 i (by omega)).trans ((hf_107 i (by omega)).trans ((hf_81 i (by omega)).trans ((hf_52 i (by omega)).trans ((hf_32 i (by omega)).trans ((hf_25 i (by omega)).trans (hf_2 i (by omega)))))))))⟩)⟩
              · skip
                refine (?_ : AJ G K Q 0 0 ex n 115 [some (.ref (q_h G + 2)), some (.ref (q_h G + (5 + 10 + 2 * (g 0))))] [.int (nI (1))] σ_140)
                have hc_148 : σ_140 2 = o3 G (2) (nI (ft)) (nI (0)) (q_d (0)) := (hf_139 _ (by omega)).trans hc_115
                have hc_149 : σ_140 1 = q_an G 600 f := (hf_139 _ (by omega)).trans hc_116
                have hc_150 : σ_140 6 = q_rn G 3 4 (fun j => some (5 + 10 + 2 * j)) := (hf_139 _ (by omega)).trans hc_117
                have hc_151 : σ_140 5 = o0 G (5) (nI ((g 0) + 1)) (nI (pl)) (nI (tn)) (nI (gm)) (nI (tk)) := (hf_139 _ (by omega)).trans hc_118
                have hc_152 : ∀ j9 : Nat, j9 < 4 → j9 ≠ (g 0) → σ_140 (5 + 10 + 2 * j9) = o7 G (5 + 10 + 2 * j9) (lN (va_up nm (g 0) (x_tn f m t2) j9)) (lN (va_up on (g 0) 0 j9)) (nI (va_up sl (g 0) 1 j9)) (nI (va_up mo (g 0) 40 j9)) (nI (va_up nb (g 0) 0 j9)) := fun j9 hj0 hj1 => (hf_139 _ (by omega)).trans (hc_119 j9 (by omega) (by omega))
                have hc_153 : ∀ j9 : Nat, j9 < 4 → j9 ≠ (g 0) → σ_140 (5 + 10 + 2 * j9 + 1) = q_an G 5 (bm j9) := fun j9 hj0 hj1 => (hf_139 _ (by omega)).trans (hc_120 j9 (by omega))
                refine A_if_eqN (tgt := 122) hg dX3_readRule_115 (by decide) (by decide) (fun c115 => absurd c115 (by decide)) (fun c115 => ?_)
                refine A_iconst (v := (nI (1))) hg dX3_readRule_118 (by decide) ?_
                refine A_goto (tgt := 123) hg dX3_readRule_119 (by decide) ?_
                have hc_154 : ∀ j9 : Nat, j9 < 4 → σ_140 (5 + 10 + 2 * j9) = o7 G (5 + 10 + 2 * j9) (lN ((x_pt nm (g 0) (x_tn f m t2)) j9)) (lN ((x_pt on (g 0) on3) j9)) (nI ((x_pt sl (g 0) ((s_rule g5 (g 0)) 18)) j9)) (nI ((x_pt mo (g 0) ((s_rule g5 (g 0)) 19)) j9)) (nI ((x_pt nb (g 0) ((s_rule g5 (g 0)) 20)) j9)) := by
                  intro j9 hj0
                  by_cases ej : j9 = g 0
                  · rw [ej]; exact hc_137.trans (by simp only [x_pt_at])
                  · exact (hc_152 j9 hj0 ej).trans (by simp only [x_pt_ne ej, va_up_off ej])
                have hc_155 : ∀ j9 : Nat, j9 < 4 → σ_140 (5 + 10 + 2 * j9 + 1) = q_an G 5 ((x_pt bm (g 0) bm5) j9) := by
                  intro j9 hj0
                  by_cases ej : j9 = g 0
                  · rw [ej]; exact hc_138.trans (by simp only [x_pt_at])
                  · exact (hc_153 j9 hj0 ej).trans (by simp only [x_pt_ne ej])
                have w4 := rd_o_wf hkn.1 hR1
                have w5 := rd_w_wf w4.1 (by omega) hR2
                have w6 := rd_w_wf w5.1 (by omega) hR3
                have w7 := rd_bL_wf 5 w6.1 hR4
                have hsmA := rw_sm_trans (rw_sm_trans (rw_sm_trans (rw_sm_trans hkn.2 w4.2) w5.2) w6.2) w7.2
                have hrr : x_rr (s_rule g5 (g 0)) (x_tn f m t2) on3 ((s_rule g5 (g 0)) 18) ((s_rule g5 (g 0)) 19) ((s_rule g5 (g 0)) 20) bm5 := ⟨x_nmr_congr (fun j hj => (hsm4 j (by omega)).trans ((hsm3 j (by omega)).trans ((hsm2 j (by omega)).trans (hsm1 j (by omega))))) hn0, x_on_congr (fun j h1 h2 => hsm4 j (by omega)) w6.1.1.2.1 hon4, x_os_congr (fun j h1 h2 => (hsm4 j (by omega)).trans ((hsm3 j (by omega)).trans (hsm2 j (by omega)))) w4.1.1.2.1 hos3, rfl, rfl, rfl, hbm5⟩
                have hg5 : g5 0 = g 0 := rw_sm_g0 hsmA
                have hc_156 : σ_140 5 = o0 G (5) (nI (va_up g5 0 (g5 0 + 1) 0)) (nI (pl)) (nI (tn)) (nI (gm)) (nI (tk)) := hc_151.trans (by rw [va_up_at, hg5])
                rw [hQ]
                exact A_zreturn hg (by decide) (by decide) rfl rfl dX3_readRule_123 ⟨rfl, Or.inr (Or.inl (⟨(va_up g5 0 (g5 0 + 1)), t7, nu8, (x_pt nm (g 0) (x_tn f m t2)), (x_pt on (g 0) on3), (x_pt sl (g 0) ((s_rule g5 (g 0)) 18)), (x_pt mo (g 0) ((s_rule g5 (g 0)) 19)), (x_pt nb (g 0) ((s_rule g5 (g 0)) 20)), (x_pt bm (g 0) bm5), rfl, ((rd_r_go (by omega) ht2 c31 hnf ht3).trans (rd_r2_5 hR1 hR2 hR3 hR4)), (x_rl_new hinv h4 hsmA hrl hrr w7.1), htm7, hnu8, hc_148, hc_136, hc_156, hc_154, hc_155, (fun i hi => ((hf_139 i (by omega)).trans ((hf_107 i (by omega)).trans ((hf_81 i (by omega)).trans ((hf_52 i (by omega)).trans ((hf_32 i (by omega)).trans ((hf_25 i (by omega)).trans (hf_2 i (by omega)))))))))⟩))⟩
        · skip
          refine (?_ : AJ G K Q 0 0 ex n 91 [some (.ref (q_h G + 2)), some (.ref (q_h G + (5 + 10 + 2 * (g 0))))] [.int (nI (1))] σ_56)
          have hc_157 : σ_56 2 = o3 G (2) (nI (ft)) (nI (0)) (q_d (0)) := (hf_55 _ (by omega)).trans hc_35
          have hc_158 : σ_56 1 = q_an G 600 f := (hf_55 _ (by omega)).trans hc_36
          have hc_159 : σ_56 6 = q_rn G 3 4 (fun j => some (5 + 10 + 2 * j)) := (hf_55 _ (by omega)).trans hc_37
          have hc_160 : σ_56 5 = o0 G (5) (nI ((g 0) + 1)) (nI (pl)) (nI (tn)) (nI (gm)) (nI (tk)) := (hf_55 _ (by omega)).trans hc_38
          have hc_161 : ∀ j9 : Nat, j9 < 4 → j9 ≠ (g 0) → σ_56 (5 + 10 + 2 * j9) = o7 G (5 + 10 + 2 * j9) (lN (va_up nm (g 0) (x_tn f m t2) j9)) (lN (va_up on (g 0) 0 j9)) (nI (va_up sl (g 0) 1 j9)) (nI (va_up mo (g 0) 40 j9)) (nI (va_up nb (g 0) 0 j9)) := fun j9 hj0 hj1 => (hf_55 _ (by omega)).trans (hc_39 j9 (by omega))
          have hc_162 : ∀ j9 : Nat, j9 < 4 → σ_56 (5 + 10 + 2 * j9 + 1) = q_an G 5 (bm j9) := fun j9 hj0 => (hf_55 _ (by omega)).trans (hc_40 j9 (by omega))
          refine A_if_eqN (tgt := 122) hg dX3_readRule_91 (by decide) (by decide) (fun c91 => absurd c91 (by decide)) (fun c91 => ?_)
          refine A_aload_n hg dX3_readRule_94 rfl rfl ?_
          refine A_aload_n hg dX3_readRule_95 rfl rfl ?_
          refine A_eV (kc2 := 0) (ks2 := 0) (As := [.ref (q_h G + (5 + 10 + 2 * (g 0)))]) (rest := []) hg lk_RX3_106 in_X3_readSlack se_X3_readSlack rfl dX3_readRule_96 ⟨by decide, by decide⟩ rfl rfl ⟨by decide, by decide⟩ hc_157 (by omega) rfl rfl (Nat.le_of_ble_eq_true rfl) (c_X3_readSlackN G ex n σ_56 f m t4 nu5 ft (5 + 10 + 2 * g 0) hc_157 hc_53 hc_158 (by omega) hm6 hbb htm4 hnu5 (x_wd_no (fun z => by have := x_kd_1.mpr z; omega))) ?_
          refine A_if_eqN (tgt := 122) hg dX3_readRule_99 (by decide) (by decide) (fun c99 => absurd c99 (by decide)) (fun c99 => ?_)
          refine A_aload_n hg dX3_readRule_102 rfl rfl ?_
          refine A_aload_n hg dX3_readRule_103 rfl rfl ?_
          refine A_eV (kc2 := 0) (ks2 := 0) (As := [.ref (q_h G + (5 + 10 + 2 * (g 0)))]) (rest := []) hg lk_RX3_109 in_X3_readMost se_X3_readMost rfl dX3_readRule_104 ⟨by decide, by decide⟩ rfl rfl ⟨by decide, by decide⟩ hc_157 (by omega) rfl rfl (Nat.le_of_ble_eq_true rfl) (c_X3_readMostN G ex n σ_56 f m t4 nu5 ft (5 + 10 + 2 * g 0) hc_157 hc_53 hc_158 (by omega) hm6 hbb htm4 hnu5 (x_wd_no (fun z => by have := x_kd_1.mpr z; omega))) ?_
          refine A_if_eqN (tgt := 122) hg dX3_readRule_107 (by decide) (by decide) (fun c107 => absurd c107 (by decide)) (fun c107 => ?_)
          refine A_aload_n hg dX3_readRule_110 rfl rfl ?_
          refine A_aload_n hg dX3_readRule_111 rfl rfl ?_
          refine A_eV (kc2 := 0) (ks2 := 0) (As := [.ref (q_h G + (5 + 10 + 2 * (g 0)))]) (rest := []) hg lk_RX3_112 in_X3_readBars se_X3_readBars rfl dX3_readRule_112 ⟨by decide, by decide⟩ rfl rfl ⟨by decide, by decide⟩ hc_157 (by omega) rfl rfl (Nat.le_of_ble_eq_true rfl) (c_X3_readBarsN G ex n σ_56 f m t4 nu5 ft (5 + 10 + 2 * g 0) hc_157 hc_53 hc_158 (by omega) hm6 hbb htm4 hnu5 (x_wd_no (fun z => by have := x_kd_1.mpr z; omega))) ?_
          refine A_if_eqN (tgt := 122) hg dX3_readRule_115 (by decide) (by decide) (fun c115 => absurd c115 (by decide)) (fun c115 => ?_)
          refine A_iconst (v := (nI (1))) hg dX3_readRule_118 (by decide) ?_
          refine A_goto (tgt := 123) hg dX3_readRule_119 (by decide) ?_
          have hc_163 : ∀ j9 : Nat, j9 < 4 → σ_56 (5 + 10 + 2 * j9) = o7 G (5 + 10 + 2 * j9) (lN ((x_pt nm (g 0) (x_tn f m t2)) j9)) (lN ((x_pt on (g 0) on3) j9)) (nI ((x_pt sl (g 0) 1) j9)) (nI ((x_pt mo (g 0) 40) j9)) (nI ((x_pt nb (g 0) 0) j9)) := by
            intro j9 hj0
            by_cases ej : j9 = g 0
            · rw [ej]; exact hc_54.trans (by simp only [x_pt_at])
            · exact (hc_161 j9 hj0 ej).trans (by simp only [x_pt_ne ej, va_up_off ej])
          rw [hQ]
          exact A_zreturn hg (by decide) (by decide) rfl rfl dX3_readRule_123 ⟨rfl, Or.inr (Or.inr ((⟨t4, nu5, ((g 0) + 1), (x_pt nm (g 0) (x_tn f m t2)), (x_pt on (g 0) on3), (x_pt sl (g 0) 1), (x_pt mo (g 0) 40), (x_pt nb (g 0) 0), bm, rfl, ((rd_r_go (by omega) ht2 c31 hnf ht3).trans (rd_r2_1 hR1)), hk4, htm4, hnu5, hc_53, hc_157, hc_160, hc_163, hc_162, (fun i hi => ((hf_55 i (by omega)).trans ((hf_32 i (by omega)).trans ((hf_25 i (by omega)).trans (hf_2 i (by omega))))))⟩)))⟩
    · skip
      refine A_aload_n hg dX3_readRule_34 rfl rfl ?_
      refine A_iconst (v := (nI (1))) hg dX3_readRule_35 (by decide) ?_
      refine A_hV (kc2 := 0) (ks2 := 0) (As := [.int (nI (1))]) (rest := []) hg lk_RX3_71 in_X3_fail se_X3_fail rfl dX3_readRule_36 ⟨by decide, by decide⟩ rfl rfl ⟨by decide, by decide⟩ hc_4 (by omega) rfl rfl (Nat.le_of_ble_eq_true rfl) (c_X3_fail G ex n σ_3 m t2 (nI (x_kd f m t2)) (nI (tk_be f m t2)) nu3 ft (nI (0)) (q_d (0)) 1 hc_4 hc_1 (by omega)) ?_
      rintro _ σ_166 ⟨rfl, hc_164, hf_165⟩
      refine (?_ : AJ G K Q 0 0 ex n 39 [some (.ref (q_h G + 2)), none] [.int (nI (0))] σ_166)
      have hc_167 : σ_166 1 = q_an G 600 f := (hf_165 _ (by omega)).trans hc_5
      have hc_168 : σ_166 5 = o0 G (5) (nI (g 0)) (nI (pl)) (nI (tn)) (nI (gm)) (nI (tk)) := (hf_165 _ (by omega)).trans hc_6
      have hc_169 : σ_166 6 = q_rn G 3 4 (fun j => some (5 + 10 + 2 * j)) := (hf_165 _ (by omega)).trans hc_7
      have hc_170 : ∀ j9 : Nat, j9 < 4 → σ_166 (5 + 10 + 2 * j9) = o7 G (5 + 10 + 2 * j9) (lN (nm j9)) (lN (on j9)) (nI (sl j9)) (nI (mo j9)) (nI (nb j9)) := fun j9 hj0 => (hf_165 _ (by omega)).trans (hc_8 j9 (by omega))
      have hc_171 : ∀ j9 : Nat, j9 < 4 → σ_166 (5 + 10 + 2 * j9 + 1) = q_an G 5 (bm j9) := fun j9 hj0 => (hf_165 _ (by omega)).trans (hc_9 j9 (by omega))
      have hc_172 : σ_166 3 = o9 G (1) (nI (m)) (nI (x_kd f m t2)) (nI (t2)) (nI (tk_be f m t2)) (nu3) := (hf_165 _ (by omega)).trans hc_1
      rw [hQ]
      exact A_zreturn hg (by decide) (by decide) rfl rfl dX3_readRule_39 ⟨rfl, Or.inl (⟨1, t2, (nI (x_kd f m t2)), (nI (t2)), (nI (tk_be f m t2)), (nu3), (g 0), nm, on, sl, mo, nb, bm, rfl, (rd_r_1 (by omega) ht2 c31), (by first | assumption | omega), hc_164, hc_172, hc_168, hc_170, hc_171, (fun i hi => ((hf_165 i (by omega)).trans (hf_2 i (by omega))))⟩)⟩
  · skip
    refine A_aload_n hg dX3_readRule_11 rfl rfl ?_
    refine A_iconst (v := (nI (5))) hg dX3_readRule_12 (by decide) ?_
    refine A_hV (kc2 := 0) (ks2 := 0) (As := [.int (nI (5))]) (rest := []) hg lk_RX3_71 in_X3_fail se_X3_fail rfl dX3_readRule_13 ⟨by decide, by decide⟩ rfl rfl ⟨by decide, by decide⟩ hc0 (by omega) rfl rfl (Nat.le_of_ble_eq_true rfl) (c_X3_fail G ex n σ m t (nI (x_kd f m t)) (nI (tk_be f m t)) nu ft (nI (0)) (q_d (0)) 5 hc0 hc1 (by omega)) ?_
    rintro _ σ_175 ⟨rfl, hc_173, hf_174⟩
    refine (?_ : AJ G K Q 0 0 ex n 16 [some (.ref (q_h G + 2)), none] [.int (nI (0))] σ_175)
    have hc_176 : σ_175 3 = o9 G (1) (nI (m)) (nI (x_kd f m t)) (nI (t)) (nI (tk_be f m t)) (nu) := (hf_174 _ (by omega)).trans hc1
    have hc_177 : σ_175 1 = q_an G 600 f := (hf_174 _ (by omega)).trans hc2
    have hc_178 : σ_175 5 = o0 G (5) (nI (g 0)) (nI (pl)) (nI (tn)) (nI (gm)) (nI (tk)) := (hf_174 _ (by omega)).trans hc3
    have hc_179 : σ_175 6 = q_rn G 3 4 (fun j => some (5 + 10 + 2 * j)) := (hf_174 _ (by omega)).trans hc4
    have hc_180 : ∀ j9 : Nat, j9 < 4 → σ_175 (5 + 10 + 2 * j9) = o7 G (5 + 10 + 2 * j9) (lN (nm j9)) (lN (on j9)) (nI (sl j9)) (nI (mo j9)) (nI (nb j9)) := fun j9 hj0 => (hf_174 _ (by omega)).trans (hc5 j9 (by omega))
    have hc_181 : ∀ j9 : Nat, j9 < 4 → σ_175 (5 + 10 + 2 * j9 + 1) = q_an G 5 (bm j9) := fun j9 hj0 => (hf_174 _ (by omega)).trans (hc6 j9 (by omega))
    rw [hQ]
    exact A_zreturn hg (by decide) (by decide) rfl rfl dX3_readRule_16 ⟨rfl, Or.inl (⟨5, t, (nI (x_kd f m t)), (nI (t)), (nI (tk_be f m t)), (nu), (g 0), nm, on, sl, mo, nb, bm, rfl, (rd_r_5 (by omega)), (by first | assumption | omega), hc_173, hc_176, hc_178, hc_180, hc_181, (fun i hi => (hf_174 i (by omega)))⟩)⟩
end
