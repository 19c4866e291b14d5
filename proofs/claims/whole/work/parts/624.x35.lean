section
theorem x_gj_o {G : GL} {σ : Nat → va_E} {gb : Nat} (h : x_gj G σ gb) : ∃ a b c d e : Nat, σ gb = o0 G (gb) (nI (a)) (nI (b)) (nI (c)) (nI (d)) (nI (e)) := by
  obtain ⟨rm, pl, tn, gm, tk, b, sk, kd, fi, se, tf, ts, ac, tu, nm, on, sl, mo, nb, bm, h, -⟩ := h
  exact ⟨_, _, _, _, _, h⟩
set_option maxRecDepth 100000 in
set_option maxHeartbeats 4000000 in
theorem c_X0_copyG (G : GL) (ex : Bool) (n : Nat) (σ : Nat → va_E) (gb : Nat) (g2 : Nat) (g : Nat → Nat)  (hgb : gb + 17 < n) (hg2 : g2 + 17 < n) (hap : gb + 17 < g2 ∨ g2 + 17 < gb) (hJ : x_gj G σ gb) (hG2 : x_gm G σ g2 g) : Ct G yX0_copyFrom cX0_copyFrom 3 none ⟨2, 0, 0, 51⟩ [.ref (q_h G + gb), .ref (q_h G + g2)] ex n σ (fun v9 σ2 => v9 = none ∧ (x_gm G σ2 gb g) ∧ σ2 gb = o0 G (gb) (nI (g 0)) (nI (g 3)) (nI (g 4)) (nI (g 5)) (nI (g 6)) ∧ (∀ i : Nat, i < gb ∨ gb + 17 < i → σ2 i = σ i)) := by
  refine q_enter [some (.ref (q_h G + gb)), some (.ref (q_h G + g2)), none] (by decide) (Nat.le_of_ble_eq_true rfl) rfl ?_
  intro K hg
  obtain ⟨Q, hQ⟩ : ∃ Q, Q = q_Q G K ex n 0 0 (fun v9 n' σ' => n' = n ∧ (fun v9 σ2 => v9 = none ∧ (x_gm G σ2 gb g) ∧ σ2 gb = o0 G (gb) (nI (g 0)) (nI (g 3)) (nI (g 4)) (nI (g 5)) (nI (g 6)) ∧ (∀ i : Nat, i < gb ∨ gb + 17 < i → σ2 i = σ i)) v9 σ') q_noX := ⟨_, rfl⟩
  refine (?_ : AJ G K (q_Q G K ex n 0 0 _ _) 0 0 ex n 0 _ _ σ)
  rw [← hQ]
  obtain ⟨rm, pl, tn, gm, tk, b, sk, kd, fi, se, tf, ts, ac, tu, nm, on, sl, mo, nb, bm, hj_1, hj_2, hj_3, hj_4, hj_5, hj_6, hj_7, hj_8, hj_9, hj_10, hj_11, hj_12⟩ := hJ
  obtain ⟨kd2, fi2, se2, tf2, ts2, ac2, tu2, nm2, on2, sl2, mo2, nb2, bm2, ⟨hg_13, hg_14, hg_15, hg_16, hg_17, hg_18, hg_19, hg_20, hg_21, hg_22, hg_23, hg_24⟩, hgr2⟩ := hG2
  refine A_iconst (v := (nI (0))) hg dX0_copyFrom_0 (by decide) ?_
  refine A_istore_n hg dX0_copyFrom_1 rfl (by decide) (q_c1d rfl) ?_
  refine A_eq (ls2 := [some (.ref (q_h G + gb)), some (.ref (q_h G + g2)), some (.int (nI (0)))]) (st2 := []) (pc2 := 0) rfl rfl ?_
  have hL2 : ∀ (fu : Nat) (i : Nat) (σ_25 : Nat → va_E), (σ_25 gb = o0 G (gb) (nI (rm)) (nI (pl)) (nI (tn)) (nI (gm)) (nI (tk))) → (σ_25 (gb + 1) = q_rn G 3 4 (fun j => some (gb + 10 + 2 * j))) → (σ_25 (gb + 2) = o6 G (gb + 2) (nI (b)) (nI (sk))) → (σ_25 (gb + 2 + 1) = q_an G 8 kd) → (σ_25 (gb + 2 + 2) = q_an G 8 fi) → (σ_25 (gb + 2 + 3) = q_an G 8 se) → (σ_25 (gb + 2 + 4) = q_an G 8 tf) → (σ_25 (gb + 2 + 5) = q_an G 8 ts) → (σ_25 (gb + 8) = q_an G 10 ac) → (σ_25 (gb + 9) = q_an G 100 tu) → (∀ j9 : Nat, j9 < 4 → σ_25 (gb + 10 + 2 * j9) = o7 G (gb + 10 + 2 * j9) (lN (x_mix i nm2 nm j9)) (lN (x_mix i on2 on j9)) (nI (x_mix i sl2 sl j9)) (nI (x_mix i mo2 mo j9)) (nI (x_mix i nb2 nb j9))) → (∀ j9 : Nat, j9 < 4 → σ_25 (gb + 10 + 2 * j9 + 1) = q_an G 5 (x_mix i bm2 bm j9)) → (σ_25 g2 = o0 G (g2) (nI (g 0)) (nI (g 3)) (nI (g 4)) (nI (g 5)) (nI (g 6))) → (σ_25 (g2 + 1) = q_rn G 3 4 (fun j => some (g2 + 10 + 2 * j))) → (σ_25 (g2 + 2) = o6 G (g2 + 2) (nI (g 1)) (nI (g 2))) → (σ_25 (g2 + 2 + 1) = q_an G 8 kd2) → (σ_25 (g2 + 2 + 2) = q_an G 8 fi2) → (σ_25 (g2 + 2 + 3) = q_an G 8 se2) → (σ_25 (g2 + 2 + 4) = q_an G 8 tf2) → (σ_25 (g2 + 2 + 5) = q_an G 8 ts2) → (σ_25 (g2 + 8) = q_an G 10 ac2) → (σ_25 (g2 + 9) = q_an G 100 tu2) → (∀ j9 : Nat, j9 < 4 → σ_25 (g2 + 10 + 2 * j9) = o7 G (g2 + 10 + 2 * j9) (lN (nm2 j9)) (lN (on2 j9)) (nI (sl2 j9)) (nI (mo2 j9)) (nI (nb2 j9))) → (∀ j9 : Nat, j9 < 4 → σ_25 (g2 + 10 + 2 * j9 + 1) = q_an G 5 (bm2 j9)) → (∀ i : Nat, i < gb ∨ gb + 17 < i → σ_25 i = σ i) → (i ≤ 4) → (4 - i) < fu → AJ G K Q 0 0 ex n 2 [some (.ref (q_h G + gb)), some (.ref (q_h G + g2)), some (.int (nI (i)))] [] σ_25 := by
    intro fu
    induction fu with
    | zero => intro i σ_25 hc_26 hc_27 hc_28 hc_29 hc_30 hc_31 hc_32 hc_33 hc_34 hc_35 hc_36 hc_37 hc_38 hc_39 hc_40 hc_41 hc_42 hc_43 hc_44 hc_45 hc_46 hc_47 hc_48 hc_49 hf_50 hi hm; exact absurd hm (Nat.not_lt_zero _)
    | succ fu ih2 =>
      intro i σ_25 hc_26 hc_27 hc_28 hc_29 hc_30 hc_31 hc_32 hc_33 hc_34 hc_35 hc_36 hc_37 hc_38 hc_39 hc_40 hc_41 hc_42 hc_43 hc_44 hc_45 hc_46 hc_47 hc_48 hc_49 hf_50 hi hm2
      refine A_iload_n hg dX0_copyFrom_2 rfl rfl ?_
      refine A_iconst (v := (nI (4))) hg dX0_copyFrom_3 (by decide) ?_
      refine A_icmp_geN (tgt := 28) hg dX0_copyFrom_4 (by omega) (by decide) (by decide) (fun c4 => ?_) (fun c4 => ?_)
      · skip
        have hc_51 : ∀ j9 : Nat, j9 < 4 → σ_25 (gb + 10 + 2 * j9) = o7 G (gb + 10 + 2 * j9) (lN (nm2 j9)) (lN (on2 j9)) (nI (sl2 j9)) (nI (mo2 j9)) (nI (nb2 j9)) := fun j9 hj0 => (hc_36 j9 (by omega)).trans (by simp only [x_mix_d (show j9 < i by omega)])
        have hc_52 : ∀ j9 : Nat, j9 < 4 → σ_25 (gb + 10 + 2 * j9 + 1) = q_an G 5 (bm2 j9) := fun j9 hj0 => (hc_37 j9 (by omega)).trans (by simp only [x_mix_d (show j9 < i by omega)])
        refine A_aload_n hg dX0_copyFrom_28 rfl rfl ?_
        refine A_aload_n hg dX0_copyFrom_29 rfl rfl ?_
        refine A_getf (v := .int (nI (g 0))) hg fl_RX0_17 dX0_copyFrom_30 hc_38 (by omega) rfl ?_
        refine A_putf hg fl_RX0_17 dX0_copyFrom_33 hc_26 (by omega) (Nat.le_of_ble_eq_true rfl) rfl rfl rfl (fun σ_53 hc_54 hf_55 => ?_)
        have hc_54 : σ_53 gb = o0 G (gb) (nI (g 0)) (nI (pl)) (nI (tn)) (nI (gm)) (nI (tk)) := hc_54
        have hc_56 : σ_53 (gb + 1) = q_rn G 3 4 (fun j => some (gb + 10 + 2 * j)) := (hf_55 _ (by omega)).trans hc_27
        have hc_57 : σ_53 (gb + 2) = o6 G (gb + 2) (nI (b)) (nI (sk)) := (hf_55 _ (by omega)).trans hc_28
        have hc_58 : σ_53 (gb + 2 + 1) = q_an G 8 kd := (hf_55 _ (by omega)).trans hc_29
        have hc_59 : σ_53 (gb + 2 + 2) = q_an G 8 fi := (hf_55 _ (by omega)).trans hc_30
        have hc_60 : σ_53 (gb + 2 + 3) = q_an G 8 se := (hf_55 _ (by omega)).trans hc_31
        have hc_61 : σ_53 (gb + 2 + 4) = q_an G 8 tf := (hf_55 _ (by omega)).trans hc_32
        have hc_62 : σ_53 (gb + 2 + 5) = q_an G 8 ts := (hf_55 _ (by omega)).trans hc_33
        have hc_63 : σ_53 (gb + 8) = q_an G 10 ac := (hf_55 _ (by omega)).trans hc_34
        have hc_64 : σ_53 (gb + 9) = q_an G 100 tu := (hf_55 _ (by omega)).trans hc_35
        have hc_65 : σ_53 g2 = o0 G (g2) (nI (g 0)) (nI (g 3)) (nI (g 4)) (nI (g 5)) (nI (g 6)) := (hf_55 _ (by omega)).trans hc_38
        have hc_66 : σ_53 (g2 + 1) = q_rn G 3 4 (fun j => some (g2 + 10 + 2 * j)) := (hf_55 _ (by omega)).trans hc_39
        have hc_67 : σ_53 (g2 + 2) = o6 G (g2 + 2) (nI (g 1)) (nI (g 2)) := (hf_55 _ (by omega)).trans hc_40
        have hc_68 : σ_53 (g2 + 2 + 1) = q_an G 8 kd2 := (hf_55 _ (by omega)).trans hc_41
        have hc_69 : σ_53 (g2 + 2 + 2) = q_an G 8 fi2 := (hf_55 _ (by omega)).trans hc_42
        have hc_70 : σ_53 (g2 + 2 + 3) = q_an G 8 se2 := (hf_55 _ (by omega)).trans hc_43
        have hc_71 : σ_53 (g2 + 2 + 4) = q_an G 8 tf2 := (hf_55 _ (by omega)).trans hc_44
        have hc_72 : σ_53 (g2 + 2 + 5) = q_an G 8 ts2 := (hf_55 _ (by omega)).trans hc_45
        have hc_73 : σ_53 (g2 + 8) = q_an G 10 ac2 := (hf_55 _ (by omega)).trans hc_46
        have hc_74 : σ_53 (g2 + 9) = q_an G 100 tu2 := (hf_55 _ (by omega)).trans hc_47
        have hc_75 : ∀ j9 : Nat, j9 < 4 → σ_53 (g2 + 10 + 2 * j9) = o7 G (g2 + 10 + 2 * j9) (lN (nm2 j9)) (lN (on2 j9)) (nI (sl2 j9)) (nI (mo2 j9)) (nI (nb2 j9)) := fun j9 hj0 => (hf_55 _ (by omega)).trans (hc_48 j9 (by omega))
        have hc_76 : ∀ j9 : Nat, j9 < 4 → σ_53 (g2 + 10 + 2 * j9 + 1) = q_an G 5 (bm2 j9) := fun j9 hj0 => (hf_55 _ (by omega)).trans (hc_49 j9 (by omega))
        have hc_77 : ∀ j9 : Nat, j9 < 4 → σ_53 (gb + 10 + 2 * j9) = o7 G (gb + 10 + 2 * j9) (lN (nm2 j9)) (lN (on2 j9)) (nI (sl2 j9)) (nI (mo2 j9)) (nI (nb2 j9)) := fun j9 hj0 => (hf_55 _ (by omega)).trans (hc_51 j9 (by omega))
        have hc_78 : ∀ j9 : Nat, j9 < 4 → σ_53 (gb + 10 + 2 * j9 + 1) = q_an G 5 (bm2 j9) := fun j9 hj0 => (hf_55 _ (by omega)).trans (hc_52 j9 (by omega))
        refine A_aload_n hg dX0_copyFrom_36 rfl rfl ?_
        refine A_getf (v := .ref (q_h G + (gb + 2))) hg fl_RX0_24 dX0_copyFrom_37 hc_54 (by omega) rfl ?_
        refine A_aload_n hg dX0_copyFrom_40 rfl rfl ?_
        refine A_getf (v := .ref (q_h G + (g2 + 2))) hg fl_RX0_24 dX0_copyFrom_41 hc_65 (by omega) rfl ?_
        refine A_vV (kc2 := 0) (ks2 := 0) (As := [.ref (q_h G + (g2 + 2))]) (rest := []) hg lk_RX0_78 in_X6_copyFrom se_X6_copyFrom rfl dX0_copyFrom_44 ⟨by decide, by decide⟩ rfl rfl ⟨by decide, by decide⟩ hc_57 (by omega) rfl rfl (Nat.le_of_ble_eq_true rfl) (c_X6_copyFrom G ex n σ_53 (gb + 2) b sk kd fi se tf ts (g2 + 2) (g 1) (g 2) kd2 fi2 se2 tf2 ts2 hc_57 hc_58 hc_59 hc_60 hc_61 hc_62 hc_67 hc_68 hc_69 hc_70 hc_71 hc_72 (by omega) (by omega) (by omega)) ?_
        rintro σ_86 ⟨hc_79, hc_80, hc_81, hc_82, hc_83, hc_84, hf_85⟩
        have hc_87 : σ_86 (gb + 1) = q_rn G 3 4 (fun j => some (gb + 10 + 2 * j)) := (hf_85 _ (by omega)).trans hc_56
        have hc_88 : σ_86 (gb + 8) = q_an G 10 ac := (hf_85 _ (by omega)).trans hc_63
        have hc_89 : σ_86 (gb + 9) = q_an G 100 tu := (hf_85 _ (by omega)).trans hc_64
        have hc_90 : σ_86 g2 = o0 G (g2) (nI (g 0)) (nI (g 3)) (nI (g 4)) (nI (g 5)) (nI (g 6)) := (hf_85 _ (by omega)).trans hc_65
        have hc_91 : σ_86 (g2 + 1) = q_rn G 3 4 (fun j => some (g2 + 10 + 2 * j)) := (hf_85 _ (by omega)).trans hc_66
        have hc_92 : σ_86 (g2 + 2) = o6 G (g2 + 2) (nI (g 1)) (nI (g 2)) := (hf_85 _ (by omega)).trans hc_67
        have hc_93 : σ_86 (g2 + 2 + 1) = q_an G 8 kd2 := (hf_85 _ (by omega)).trans hc_68
        have hc_94 : σ_86 (g2 + 2 + 2) = q_an G 8 fi2 := (hf_85 _ (by omega)).trans hc_69
        have hc_95 : σ_86 (g2 + 2 + 3) = q_an G 8 se2 := (hf_85 _ (by omega)).trans hc_70
        have hc_96 : σ_86 (g2 + 2 + 4) = q_an G 8 tf2 := (hf_85 _ (by omega)).trans hc_71
        have hc_97 : σ_86 (g2 + 2 + 5) = q_an G 8 ts2 := (hf_85 _ (by omega)).trans hc_72
        have hc_98 : σ_86 (g2 + 8) = q_an G 10 ac2 := (hf_85 _ (by omega)).trans hc_73
        have hc_99 : σ_86 (g2 + 9) = q_an G 100 tu2 := (hf_85 _ (by omega)).trans hc_74
        have hc_100 : ∀ j9 : Nat, j9 < 4 → σ_86 (g2 + 10 + 2 * j9) = o7 G (g2 + 10 + 2 * j9) (lN (nm2 j9)) (lN (on2 j9)) (nI (sl2 j9)) (nI (mo2 j9)) (nI (nb2 j9)) := fun j9 hj0 => (hf_85 _ (by omega)).trans (hc_75 j9 (by omega))
        have hc_101 : ∀ j9 : Nat, j9 < 4 → σ_86 (g2 + 10 + 2 * j9 + 1) = q_an G 5 (bm2 j9) := fun j9 hj0 => (hf_85 _ (by omega)).trans (hc_76 j9 (by omega))
        have hc_102 : ∀ j9 : Nat, j9 < 4 → σ_86 (gb + 10 + 2 * j9) = o7 G (gb + 10 + 2 * j9) (lN (nm2 j9)) (lN (on2 j9)) (nI (sl2 j9)) (nI (mo2 j9)) (nI (nb2 j9)) := fun j9 hj0 => (hf_85 _ (by omega)).trans (hc_77 j9 (by omega))
        have hc_103 : ∀ j9 : Nat, j9 < 4 → σ_86 (gb + 10 + 2 * j9 + 1) = q_an G 5 (bm2 j9) := fun j9 hj0 => (hf_85 _ (by omega)).trans (hc_78 j9 (by omega))
        have hc_104 : σ_86 gb = o0 G (gb) (nI (g 0)) (nI (pl)) (nI (tn)) (nI (gm)) (nI (tk)) := (hf_85 _ (by omega)).trans hc_54
        refine A_aload_n hg dX0_copyFrom_47 rfl rfl ?_
        refine A_aload_n hg dX0_copyFrom_48 rfl rfl ?_
        refine A_getf (v := .int (nI (g 3))) hg fl_RX0_28 dX0_copyFrom_49 hc_90 (by omega) rfl ?_
        refine A_putf hg fl_RX0_28 dX0_copyFrom_52 hc_104 (by omega) (Nat.le_of_ble_eq_true rfl) rfl rfl rfl (fun σ_105 hc_106 hf_107 => ?_)
        have hc_106 : σ_105 gb = o0 G (gb) (nI (g 0)) (nI (g 3)) (nI (tn)) (nI (gm)) (nI (tk)) := hc_106
        have hc_108 : σ_105 (gb + 1) = q_rn G 3 4 (fun j => some (gb + 10 + 2 * j)) := (hf_107 _ (by omega)).trans hc_87
        have hc_109 : σ_105 (gb + 8) = q_an G 10 ac := (hf_107 _ (by omega)).trans hc_88
        have hc_110 : σ_105 (gb + 9) = q_an G 100 tu := (hf_107 _ (by omega)).trans hc_89
        have hc_111 : σ_105 g2 = o0 G (g2) (nI (g 0)) (nI (g 3)) (nI (g 4)) (nI (g 5)) (nI (g 6)) := (hf_107 _ (by omega)).trans hc_90
        have hc_112 : σ_105 (g2 + 1) = q_rn G 3 4 (fun j => some (g2 + 10 + 2 * j)) := (hf_107 _ (by omega)).trans hc_91
        have hc_113 : σ_105 (g2 + 2) = o6 G (g2 + 2) (nI (g 1)) (nI (g 2)) := (hf_107 _ (by omega)).trans hc_92
        have hc_114 : σ_105 (g2 + 2 + 1) = q_an G 8 kd2 := (hf_107 _ (by omega)).trans hc_93
        have hc_115 : σ_105 (g2 + 2 + 2) = q_an G 8 fi2 := (hf_107 _ (by omega)).trans hc_94
        have hc_116 : σ_105 (g2 + 2 + 3) = q_an G 8 se2 := (hf_107 _ (by omega)).trans hc_95
        have hc_117 : σ_105 (g2 + 2 + 4) = q_an G 8 tf2 := (hf_107 _ (by omega)).trans hc_96
        have hc_118 : σ_105 (g2 + 2 + 5) = q_an G 8 ts2 := (hf_107 _ (by omega)).trans hc_97
        have hc_119 : σ_105 (g2 + 8) = q_an G 10 ac2 := (hf_107 _ (by omega)).trans hc_98
        have hc_120 : σ_105 (g2 + 9) = q_an G 100 tu2 := (hf_107 _ (by omega)).trans hc_99
        have hc_121 : ∀ j9 : Nat, j9 < 4 → σ_105 (g2 + 10 + 2 * j9) = o7 G (g2 + 10 + 2 * j9) (lN (nm2 j9)) (lN (on2 j9)) (nI (sl2 j9)) (nI (mo2 j9)) (nI (nb2 j9)) := fun j9 hj0 => (hf_107 _ (by omega)).trans (hc_100 j9 (by omega))
        have hc_122 : ∀ j9 : Nat, j9 < 4 → σ_105 (g2 + 10 + 2 * j9 + 1) = q_an G 5 (bm2 j9) := fun j9 hj0 => (hf_107 _ (by omega)).trans (hc_101 j9 (by omega))
        have hc_123 : ∀ j9 : Nat, j9 < 4 → σ_105 (gb + 10 + 2 * j9) = o7 G (gb + 10 + 2 * j9) (lN (nm2 j9)) (lN (on2 j9)) (nI (sl2 j9)) (nI (mo2 j9)) (nI (nb2 j9)) := fun j9 hj0 => (hf_107 _ (by omega)).trans (hc_102 j9 (by omega))
        have hc_124 : ∀ j9 : Nat, j9 < 4 → σ_105 (gb + 10 + 2 * j9 + 1) = q_an G 5 (bm2 j9) := fun j9 hj0 => (hf_107 _ (by omega)).trans (hc_103 j9 (by omega))
        have hc_125 : σ_105 (gb + 2) = o6 G (gb + 2) (nI (g 1)) (nI (g 2)) := (hf_107 _ (by omega)).trans hc_79
        have hc_126 : σ_105 ((gb + 2) + 1) = q_an G 8 kd2 := (hf_107 _ (by omega)).trans hc_80
        have hc_127 : σ_105 ((gb + 2) + 2) = q_an G 8 fi2 := (hf_107 _ (by omega)).trans hc_81
        have hc_128 : σ_105 ((gb + 2) + 3) = q_an G 8 se2 := (hf_107 _ (by omega)).trans hc_82
        have hc_129 : σ_105 ((gb + 2) + 4) = q_an G 8 tf2 := (hf_107 _ (by omega)).trans hc_83
        have hc_130 : σ_105 ((gb + 2) + 5) = q_an G 8 ts2 := (hf_107 _ (by omega)).trans hc_84
        refine A_aload_n hg dX0_copyFrom_55 rfl rfl ?_
        refine A_aload_n hg dX0_copyFrom_56 rfl rfl ?_
        refine A_getf (v := .int (nI (g 4))) hg fl_RX0_31 dX0_copyFrom_57 hc_111 (by omega) rfl ?_
        refine A_putf hg fl_RX0_31 dX0_copyFrom_60 hc_106 (by omega) (Nat.le_of_ble_eq_true rfl) rfl rfl rfl (fun σ_131 hc_132 hf_133 => ?_)
        have hc_132 : σ_131 gb = o0 G (gb) (nI (g 0)) (nI (g 3)) (nI (g 4)) (nI (gm)) (nI (tk)) := hc_132
        have hc_134 : σ_131 (gb + 1) = q_rn G 3 4 (fun j => some (gb + 10 + 2 * j)) := (hf_133 _ (by omega)).trans hc_108
        have hc_135 : σ_131 (gb + 8) = q_an G 10 ac := (hf_133 _ (by omega)).trans hc_109
        have hc_136 : σ_131 (gb + 9) = q_an G 100 tu := (hf_133 _ (by omega)).trans hc_110
        have hc_137 : σ_131 g2 = o0 G (g2) (nI (g 0)) (nI (g 3)) (nI (g 4)) (nI (g 5)) (nI (g 6)) := (hf_133 _ (by omega)).trans hc_111
        have hc_138 : σ_131 (g2 + 1) = q_rn G 3 4 (fun j => some (g2 + 10 + 2 * j)) := (hf_133 _ (by omega)).trans hc_112
        have hc_139 : σ_131 (g2 + 2) = o6 G (g2 + 2) (nI (g 1)) (nI (g 2)) := (hf_133 _ (by omega)).trans hc_113
        have hc_140 : σ_131 (g2 + 2 + 1) = q_an G 8 kd2 := (hf_133 _ (by omega)).trans hc_114
        have hc_141 : σ_131 (g2 + 2 + 2) = q_an G 8 fi2 := (hf_133 _ (by omega)).trans hc_115
        have hc_142 : σ_131 (g2 + 2 + 3) = q_an G 8 se2 := (hf_133 _ (by omega)).trans hc_116
        have hc_143 : σ_131 (g2 + 2 + 4) = q_an G 8 tf2 := (hf_133 _ (by omega)).trans hc_117
        have hc_144 : σ_131 (g2 + 2 + 5) = q_an G 8 ts2 := (hf_133 _ (by omega)).trans hc_118
        have hc_145 : σ_131 (g2 + 8) = q_an G 10 ac2 := (hf_133 _ (by omega)).trans hc_119
        have hc_146 : σ_131 (g2 + 9) = q_an G 100 tu2 := (hf_133 _ (by omega)).trans hc_120
        have hc_147 : ∀ j9 : Nat, j9 < 4 → σ_131 (g2 + 10 + 2 * j9) = o7 G (g2 + 10 + 2 * j9) (lN (nm2 j9)) (lN (on2 j9)) (nI (sl2 j9)) (nI (mo2 j9)) (nI (nb2 j9)) := fun j9 hj0 => (hf_133 _ (by omega)).trans (hc_121 j9 (by omega))
        have hc_148 : ∀ j9 : Nat, j9 < 4 → σ_131 (g2 + 10 + 2 * j9 + 1) = q_an G 5 (bm2 j9) := fun j9 hj0 => (hf_133 _ (by omega)).trans (hc_122 j9 (by omega))
        have hc_149 : ∀ j9 : Nat, j9 < 4 → σ_131 (gb + 10 + 2 * j9) = o7 G (gb + 10 + 2 * j9) (lN (nm2 j9)) (lN (on2 j9)) (nI (sl2 j9)) (nI (mo2 j9)) (nI (nb2 j9)) := fun j9 hj0 => (hf_133 _ (by omega)).trans (hc_123 j9 (by omega))
        have hc_150 : ∀ j9 : Nat, j9 < 4 → σ_131 (gb + 10 + 2 * j9 + 1) = q_an G 5 (bm2 j9) := fun j9 hj0 => (hf_133 _ (by omega)).trans (hc_124 j9 (by omega))
        have hc_151 : σ_131 (gb + 2) = o6 G (gb + 2) (nI (g 1)) (nI (g 2)) := (hf_133 _ (by omega)).trans hc_125
        have hc_152 : σ_131 ((gb + 2) + 1) = q_an G 8 kd2 := (hf_133 _ (by omega)).trans hc_126
        have hc_153 : σ_131 ((gb + 2) + 2) = q_an G 8 fi2 := (hf_133 _ (by omega)).trans hc_127
        have hc_154 : σ_131 ((gb + 2) + 3) = q_an G 8 se2 := (hf_133 _ (by omega)).trans hc_128
        have hc_155 : σ_131 ((gb + 2) + 4) = q_an G 8 tf2 := (hf_133 _ (by omega)).trans hc_129
        have hc_156 : σ_131 ((gb + 2) + 5) = q_an G 8 ts2 := (hf_133 _ (by omega)).trans hc_130
        refine A_aload_n hg dX0_copyFrom_63 rfl rfl ?_
        refine A_aload_n hg dX0_copyFrom_64 rfl rfl ?_
        refine A_getf (v := .int (nI (g 5))) hg fl_RX0_34 dX0_copyFrom_65 hc_137 (by omega) rfl ?_
        refine A_putf hg fl_RX0_34 dX0_copyFrom_68 hc_132 (by omega) (Nat.le_of_ble_eq_true rfl) rfl rfl rfl (fun σ_157 hc_158 hf_159 => ?_)
        have hc_158 : σ_157 gb = o0 G (gb) (nI (g 0)) (nI (g 3)) (nI (g 4)) (nI (g 5)) (nI (tk)) := hc_158
        have hc_160 : σ_157 (gb + 1) = q_rn G 3 4 (fun j => some (gb + 10 + 2 * j)) := (hf_159 _ (by omega)).trans hc_134
        have hc_161 : σ_157 (gb + 8) = q_an G 10 ac := (hf_159 _ (by omega)).trans hc_135
        have hc_162 : σ_157 (gb + 9) = q_an G 100 tu := (hf_159 _ (by omega)).trans hc_136
        have hc_163 : σ_157 g2 = o0 G (g2) (nI (g 0)) (nI (g 3)) (nI (g 4)) (nI (g 5)) (nI (g 6)) := (hf_159 _ (by omega)).trans hc_137
        have hc_164 : σ_157 (g2 + 1) = q_rn G 3 4 (fun j => some (g2 + 10 + 2 * j)) := (hf_159 _ (by omega)).trans hc_138
        have hc_165 : σ_157 (g2 + 2) = o6 G (g2 + 2) (nI (g 1)) (nI (g 2)) := (hf_159 _ (by omega)).trans hc_139
        have hc_166 : σ_157 (g2 + 2 + 1) = q_an G 8 kd2 := (hf_159 _ (by omega)).trans hc_140
        have hc_167 : σ_157 (g2 + 2 + 2) = q_an G 8 fi2 := (hf_159 _ (by omega)).trans hc_141
        have hc_168 : σ_157 (g2 + 2 + 3) = q_an G 8 se2 := (hf_159 _ (by omega)).trans hc_142
        have hc_169 : σ_157 (g2 + 2 + 4) = q_an G 8 tf2 := (hf_159 _ (by omega)).trans hc_143
        have hc_170 : σ_157 (g2 + 2 + 5) = q_an G 8 ts2 := (hf_159 _ (by omega)).trans hc_144
        have hc_171 : σ_157 (g2 + 8) = q_an G 10 ac2 := (hf_159 _ (by omega)).trans hc_145
        have hc_172 : σ_157 (g2 + 9) = q_an G 100 tu2 := (hf_159 _ (by omega)).trans hc_146
        have hc_173 : ∀ j9 : Nat, j9 < 4 → σ_157 (g2 + 10 + 2 * j9) = o7 G (g2 + 10 + 2 * j9) (lN (nm2 j9)) (lN (on2 j9)) (nI (sl2 j9)) (nI (mo2 j9)) (nI (nb2 j9)) := fun j9 hj0 => (hf_159 _ (by omega)).trans (hc_147 j9 (by omega))
        have hc_174 : ∀ j9 : Nat, j9 < 4 → σ_157 (g2 + 10 + 2 * j9 + 1) = q_an G 5 (bm2 j9) := fun j9 hj0 => (hf_159 _ (by omega)).trans (hc_148 j9 (by omega))
        have hc_175 : ∀ j9 : Nat, j9 < 4 → σ_157 (gb + 10 + 2 * j9) = o7 G (gb + 10 + 2 * j9) (lN (nm2 j9)) (lN (on2 j9)) (nI (sl2 j9)) (nI (mo2 j9)) (nI (nb2 j9)) := fun j9 hj0 => (hf_159 _ (by omega)).trans (hc_149 j9 (by omega))
        have hc_176 : ∀ j9 : Nat, j9 < 4 → σ_157 (gb + 10 + 2 * j9 + 1) = q_an G 5 (bm2 j9) := fun j9 hj0 => (hf_159 _ (by omega)).trans (hc_150 j9 (by omega))
        have hc_177 : σ_157 (gb + 2) = o6 G (gb + 2) (nI (g 1)) (nI (g 2)) := (hf_159 _ (by omega)).trans hc_151
        have hc_178 : σ_157 ((gb + 2) + 1) = q_an G 8 kd2 := (hf_159 _ (by omega)).trans hc_152
        have hc_179 : σ_157 ((gb + 2) + 2) = q_an G 8 fi2 := (hf_159 _ (by omega)).trans hc_153
        have hc_180 : σ_157 ((gb + 2) + 3) = q_an G 8 se2 := (hf_159 _ (by omega)).trans hc_154
        have hc_181 : σ_157 ((gb + 2) + 4) = q_an G 8 tf2 := (hf_159 _ (by omega)).trans hc_155
        have hc_182 : σ_157 ((gb + 2) + 5) = q_an G 8 ts2 := (hf_159 _ (by omega)).trans hc_156
        refine A_aload_n hg dX0_copyFrom_71 rfl rfl ?_
        refine A_getf (v := .ref (q_h G + (g2 + 8))) hg fl_RX0_37 dX0_copyFrom_72 hc_163 (by omega) rfl ?_
        refine A_iconst (v := (nI (0))) hg dX0_copyFrom_75 (by decide) ?_
        refine A_aload_n hg dX0_copyFrom_76 rfl rfl ?_
        refine A_getf (v := .ref (q_h G + (gb + 8))) hg fl_RX0_37 dX0_copyFrom_77 hc_158 (by omega) rfl ?_
        refine A_iconst (v := (nI (0))) hg dX0_copyFrom_80 (by decide) ?_
        refine A_aload_n hg dX0_copyFrom_81 rfl rfl ?_
        refine A_getf (v := .ref (q_h G + (gb + 8))) hg fl_RX0_37 dX0_copyFrom_82 hc_158 (by omega) rfl ?_
        refine A_alen (t := 0) (len := 10) hg dX0_copyFrom_85 hc_161 (by decide) (by omega) ?_
        refine A_copy (x := 0) (y := 0) (z := 10) hg (q_mt 639 (by decide +kernel)) (q_mt 633 (by decide +kernel)) (q_mt 632 (by decide +kernel)) (q_mt 19 (by decide +kernel)) dX0_copyFrom_86 ⟨by decide, by decide⟩ (Nat.le_of_ble_eq_true rfl) hc_171 hc_161 (by omega) (by omega) (by omega) (by omega) (by decide) (by decide) (by decide) (fun σ_183 hc_184 hf_185 => ?_)
        have hc_186 : σ_183 (gb + 1) = q_rn G 3 4 (fun j => some (gb + 10 + 2 * j)) := (hf_185 _ (by omega)).trans hc_160
        have hc_187 : σ_183 (gb + 9) = q_an G 100 tu := (hf_185 _ (by omega)).trans hc_162
        have hc_188 : σ_183 g2 = o0 G (g2) (nI (g 0)) (nI (g 3)) (nI (g 4)) (nI (g 5)) (nI (g 6)) := (hf_185 _ (by omega)).trans hc_163
        have hc_189 : σ_183 (g2 + 1) = q_rn G 3 4 (fun j => some (g2 + 10 + 2 * j)) := (hf_185 _ (by omega)).trans hc_164
        have hc_190 : σ_183 (g2 + 2) = o6 G (g2 + 2) (nI (g 1)) (nI (g 2)) := (hf_185 _ (by omega)).trans hc_165
        have hc_191 : σ_183 (g2 + 2 + 1) = q_an G 8 kd2 := (hf_185 _ (by omega)).trans hc_166
        have hc_192 : σ_183 (g2 + 2 + 2) = q_an G 8 fi2 := (hf_185 _ (by omega)).trans hc_167
        have hc_193 : σ_183 (g2 + 2 + 3) = q_an G 8 se2 := (hf_185 _ (by omega)).trans hc_168
        have hc_194 : σ_183 (g2 + 2 + 4) = q_an G 8 tf2 := (hf_185 _ (by omega)).trans hc_169
        have hc_195 : σ_183 (g2 + 2 + 5) = q_an G 8 ts2 := (hf_185 _ (by omega)).trans hc_170
        have hc_196 : σ_183 (g2 + 8) = q_an G 10 ac2 := (hf_185 _ (by omega)).trans hc_171
        have hc_197 : σ_183 (g2 + 9) = q_an G 100 tu2 := (hf_185 _ (by omega)).trans hc_172
        have hc_198 : ∀ j9 : Nat, j9 < 4 → σ_183 (g2 + 10 + 2 * j9) = o7 G (g2 + 10 + 2 * j9) (lN (nm2 j9)) (lN (on2 j9)) (nI (sl2 j9)) (nI (mo2 j9)) (nI (nb2 j9)) := fun j9 hj0 => (hf_185 _ (by omega)).trans (hc_173 j9 (by omega))
        have hc_199 : ∀ j9 : Nat, j9 < 4 → σ_183 (g2 + 10 + 2 * j9 + 1) = q_an G 5 (bm2 j9) := fun j9 hj0 => (hf_185 _ (by omega)).trans (hc_174 j9 (by omega))
        have hc_200 : ∀ j9 : Nat, j9 < 4 → σ_183 (gb + 10 + 2 * j9) = o7 G (gb + 10 + 2 * j9) (lN (nm2 j9)) (lN (on2 j9)) (nI (sl2 j9)) (nI (mo2 j9)) (nI (nb2 j9)) := fun j9 hj0 => (hf_185 _ (by omega)).trans (hc_175 j9 (by omega))
        have hc_201 : ∀ j9 : Nat, j9 < 4 → σ_183 (gb + 10 + 2 * j9 + 1) = q_an G 5 (bm2 j9) := fun j9 hj0 => (hf_185 _ (by omega)).trans (hc_176 j9 (by omega))
        have hc_202 : σ_183 (gb + 2) = o6 G (gb + 2) (nI (g 1)) (nI (g 2)) := (hf_185 _ (by omega)).trans hc_177
        have hc_203 : σ_183 ((gb + 2) + 1) = q_an G 8 kd2 := (hf_185 _ (by omega)).trans hc_178
        have hc_204 : σ_183 ((gb + 2) + 2) = q_an G 8 fi2 := (hf_185 _ (by omega)).trans hc_179
        have hc_205 : σ_183 ((gb + 2) + 3) = q_an G 8 se2 := (hf_185 _ (by omega)).trans hc_180
        have hc_206 : σ_183 ((gb + 2) + 4) = q_an G 8 tf2 := (hf_185 _ (by omega)).trans hc_181
        have hc_207 : σ_183 ((gb + 2) + 5) = q_an G 8 ts2 := (hf_185 _ (by omega)).trans hc_182
        have hc_208 : σ_183 gb = o0 G (gb) (nI (g 0)) (nI (g 3)) (nI (g 4)) (nI (g 5)) (nI (tk)) := (hf_185 _ (by omega)).trans hc_158
        refine A_aload_n hg dX0_copyFrom_89 rfl rfl ?_
        refine A_getf (v := .ref (q_h G + (g2 + 9))) hg fl_RX0_41 dX0_copyFrom_90 hc_188 (by omega) rfl ?_
        refine A_iconst (v := (nI (0))) hg dX0_copyFrom_93 (by decide) ?_
        refine A_aload_n hg dX0_copyFrom_94 rfl rfl ?_
        refine A_getf (v := .ref (q_h G + (gb + 9))) hg fl_RX0_41 dX0_copyFrom_95 hc_208 (by omega) rfl ?_
        refine A_iconst (v := (nI (0))) hg dX0_copyFrom_98 (by decide) ?_
        refine A_aload_n hg dX0_copyFrom_99 rfl rfl ?_
        refine A_getf (v := .ref (q_h G + (gb + 9))) hg fl_RX0_41 dX0_copyFrom_100 hc_208 (by omega) rfl ?_
        refine A_alen (t := 0) (len := 100) hg dX0_copyFrom_103 hc_187 (by decide) (by omega) ?_
        refine A_copy (x := 0) (y := 0) (z := 100) hg (q_mt 639 (by decide +kernel)) (q_mt 633 (by decide +kernel)) (q_mt 632 (by decide +kernel)) (q_mt 19 (by decide +kernel)) dX0_copyFrom_104 ⟨by decide, by decide⟩ (Nat.le_of_ble_eq_true rfl) hc_197 hc_187 (by omega) (by omega) (by omega) (by omega) (by decide) (by decide) (by decide) (fun σ_209 hc_210 hf_211 => ?_)
        have hc_212 : σ_209 (gb + 1) = q_rn G 3 4 (fun j => some (gb + 10 + 2 * j)) := (hf_211 _ (by omega)).trans hc_186
        have hc_213 : σ_209 g2 = o0 G (g2) (nI (g 0)) (nI (g 3)) (nI (g 4)) (nI (g 5)) (nI (g 6)) := (hf_211 _ (by omega)).trans hc_188
        have hc_214 : σ_209 (g2 + 1) = q_rn G 3 4 (fun j => some (g2 + 10 + 2 * j)) := (hf_211 _ (by omega)).trans hc_189
        have hc_215 : σ_209 (g2 + 2) = o6 G (g2 + 2) (nI (g 1)) (nI (g 2)) := (hf_211 _ (by omega)).trans hc_190
        have hc_216 : σ_209 (g2 + 2 + 1) = q_an G 8 kd2 := (hf_211 _ (by omega)).trans hc_191
        have hc_217 : σ_209 (g2 + 2 + 2) = q_an G 8 fi2 := (hf_211 _ (by omega)).trans hc_192
        have hc_218 : σ_209 (g2 + 2 + 3) = q_an G 8 se2 := (hf_211 _ (by omega)).trans hc_193
        have hc_219 : σ_209 (g2 + 2 + 4) = q_an G 8 tf2 := (hf_211 _ (by omega)).trans hc_194
        have hc_220 : σ_209 (g2 + 2 + 5) = q_an G 8 ts2 := (hf_211 _ (by omega)).trans hc_195
        have hc_221 : σ_209 (g2 + 8) = q_an G 10 ac2 := (hf_211 _ (by omega)).trans hc_196
        have hc_222 : σ_209 (g2 + 9) = q_an G 100 tu2 := (hf_211 _ (by omega)).trans hc_197
        have hc_223 : ∀ j9 : Nat, j9 < 4 → σ_209 (g2 + 10 + 2 * j9) = o7 G (g2 + 10 + 2 * j9) (lN (nm2 j9)) (lN (on2 j9)) (nI (sl2 j9)) (nI (mo2 j9)) (nI (nb2 j9)) := fun j9 hj0 => (hf_211 _ (by omega)).trans (hc_198 j9 (by omega))
        have hc_224 : ∀ j9 : Nat, j9 < 4 → σ_209 (g2 + 10 + 2 * j9 + 1) = q_an G 5 (bm2 j9) := fun j9 hj0 => (hf_211 _ (by omega)).trans (hc_199 j9 (by omega))
        have hc_225 : ∀ j9 : Nat, j9 < 4 → σ_209 (gb + 10 + 2 * j9) = o7 G (gb + 10 + 2 * j9) (lN (nm2 j9)) (lN (on2 j9)) (nI (sl2 j9)) (nI (mo2 j9)) (nI (nb2 j9)) := fun j9 hj0 => (hf_211 _ (by omega)).trans (hc_200 j9 (by omega))
        have hc_226 : ∀ j9 : Nat, j9 < 4 → σ_209 (gb + 10 + 2 * j9 + 1) = q_an G 5 (bm2 j9) := fun j9 hj0 => (hf_211 _ (by omega)).trans (hc_201 j9 (by omega))
        have hc_227 : σ_209 (gb + 2) = o6 G (gb + 2) (nI (g 1)) (nI (g 2)) := (hf_211 _ (by omega)).trans hc_202
        have hc_228 : σ_209 ((gb + 2) + 1) = q_an G 8 kd2 := (hf_211 _ (by omega)).trans hc_203
        have hc_229 : σ_209 ((gb + 2) + 2) = q_an G 8 fi2 := (hf_211 _ (by omega)).trans hc_204
        have hc_230 : σ_209 ((gb + 2) + 3) = q_an G 8 se2 := (hf_211 _ (by omega)).trans hc_205
        have hc_231 : σ_209 ((gb + 2) + 4) = q_an G 8 tf2 := (hf_211 _ (by omega)).trans hc_206
        have hc_232 : σ_209 ((gb + 2) + 5) = q_an G 8 ts2 := (hf_211 _ (by omega)).trans hc_207
        have hc_233 : σ_209 gb = o0 G (gb) (nI (g 0)) (nI (g 3)) (nI (g 4)) (nI (g 5)) (nI (tk)) := (hf_211 _ (by omega)).trans hc_208
        have hc_234 : σ_209 (gb + 8) = q_an G 10 (va_cpy ac2 ac 0 0 10) := (hf_211 _ (by omega)).trans hc_184
        refine A_aload_n hg dX0_copyFrom_107 rfl rfl ?_
        refine A_aload_n hg dX0_copyFrom_108 rfl rfl ?_
        refine A_getf (v := .int (nI (g 6))) hg fl_RX0_44 dX0_copyFrom_109 hc_213 (by omega) rfl ?_
        refine A_putf hg fl_RX0_44 dX0_copyFrom_112 hc_233 (by omega) (Nat.le_of_ble_eq_true rfl) rfl rfl rfl (fun σ_235 hc_236 hf_237 => ?_)
        have hc_236 : σ_235 gb = o0 G (gb) (nI (g 0)) (nI (g 3)) (nI (g 4)) (nI (g 5)) (nI (g 6)) := hc_236
        have hc_238 : σ_235 (gb + 1) = q_rn G 3 4 (fun j => some (gb + 10 + 2 * j)) := (hf_237 _ (by omega)).trans hc_212
        have hc_239 : σ_235 g2 = o0 G (g2) (nI (g 0)) (nI (g 3)) (nI (g 4)) (nI (g 5)) (nI (g 6)) := (hf_237 _ (by omega)).trans hc_213
        have hc_240 : σ_235 (g2 + 1) = q_rn G 3 4 (fun j => some (g2 + 10 + 2 * j)) := (hf_237 _ (by omega)).trans hc_214
        have hc_241 : σ_235 (g2 + 2) = o6 G (g2 + 2) (nI (g 1)) (nI (g 2)) := (hf_237 _ (by omega)).trans hc_215
        have hc_242 : σ_235 (g2 + 2 + 1) = q_an G 8 kd2 := (hf_237 _ (by omega)).trans hc_216
        have hc_243 : σ_235 (g2 + 2 + 2) = q_an G 8 fi2 := (hf_237 _ (by omega)).trans hc_217
        have hc_244 : σ_235 (g2 + 2 + 3) = q_an G 8 se2 := (hf_237 _ (by omega)).trans hc_218
        have hc_245 : σ_235 (g2 + 2 + 4) = q_an G 8 tf2 := (hf_237 _ (by omega)).trans hc_219
        have hc_246 : σ_235 (g2 + 2 + 5) = q_an G 8 ts2 := (hf_237 _ (by omega)).trans hc_220
        have hc_247 : σ_235 (g2 + 8) = q_an G 10 ac2 := (hf_237 _ (by omega)).trans hc_221
        have hc_248 : σ_235 (g2 + 9) = q_an G 100 tu2 := (hf_237 _ (by omega)).trans hc_222
        have hc_249 : ∀ j9 : Nat, j9 < 4 → σ_235 (g2 + 10 + 2 * j9) = o7 G (g2 + 10 + 2 * j9) (lN (nm2 j9)) (lN (on2 j9)) (nI (sl2 j9)) (nI (mo2 j9)) (nI (nb2 j9)) := fun j9 hj0 => (hf_237 _ (by omega)).trans (hc_223 j9 (by omega))
        have hc_250 : ∀ j9 : Nat, j9 < 4 → σ_235 (g2 + 10 + 2 * j9 + 1) = q_an G 5 (bm2 j9) := fun j9 hj0 => (hf_237 _ (by omega)).trans (hc_224 j9 (by omega))
        have hc_251 : ∀ j9 : Nat, j9 < 4 → σ_235 (gb + 10 + 2 * j9) = o7 G (gb + 10 + 2 * j9) (lN (nm2 j9)) (lN (on2 j9)) (nI (sl2 j9)) (nI (mo2 j9)) (nI (nb2 j9)) := fun j9 hj0 => (hf_237 _ (by omega)).trans (hc_225 j9 (by omega))
        have hc_252 : ∀ j9 : Nat, j9 < 4 → σ_235 (gb + 10 + 2 * j9 + 1) = q_an G 5 (bm2 j9) := fun j9 hj0 => (hf_237 _ (by omega)).trans (hc_226 j9 (by omega))
        have hc_253 : σ_235 (gb + 2) = o6 G (gb + 2) (nI (g 1)) (nI (g 2)) := (hf_237 _ (by omega)).trans hc_227
        have hc_254 : σ_235 ((gb + 2) + 1) = q_an G 8 kd2 := (hf_237 _ (by omega)).trans hc_228
        have hc_255 : σ_235 ((gb + 2) + 2) = q_an G 8 fi2 := (hf_237 _ (by omega)).trans hc_229
        have hc_256 : σ_235 ((gb + 2) + 3) = q_an G 8 se2 := (hf_237 _ (by omega)).trans hc_230
        have hc_257 : σ_235 ((gb + 2) + 4) = q_an G 8 tf2 := (hf_237 _ (by omega)).trans hc_231
        have hc_258 : σ_235 ((gb + 2) + 5) = q_an G 8 ts2 := (hf_237 _ (by omega)).trans hc_232
        have hc_259 : σ_235 (gb + 8) = q_an G 10 (va_cpy ac2 ac 0 0 10) := (hf_237 _ (by omega)).trans hc_234
        have hc_260 : σ_235 (gb + 9) = q_an G 100 (va_cpy tu2 tu 0 0 100) := (hf_237 _ (by omega)).trans hc_210
        refine A_canon ac2 hc_259 (fun jj hj => by unfold va_cpy; rw [if_pos (by omega)]; congr 1; omega) (fun σ_261 hc_262 hf_263 => ?_)
        have hc_264 : σ_261 (gb + 1) = q_rn G 3 4 (fun j => some (gb + 10 + 2 * j)) := (hf_263 _ (by omega)).trans hc_238
        have hc_265 : σ_261 g2 = o0 G (g2) (nI (g 0)) (nI (g 3)) (nI (g 4)) (nI (g 5)) (nI (g 6)) := (hf_263 _ (by omega)).trans hc_239
        have hc_266 : σ_261 (g2 + 1) = q_rn G 3 4 (fun j => some (g2 + 10 + 2 * j)) := (hf_263 _ (by omega)).trans hc_240
        have hc_267 : σ_261 (g2 + 2) = o6 G (g2 + 2) (nI (g 1)) (nI (g 2)) := (hf_263 _ (by omega)).trans hc_241
        have hc_268 : σ_261 (g2 + 2 + 1) = q_an G 8 kd2 := (hf_263 _ (by omega)).trans hc_242
        have hc_269 : σ_261 (g2 + 2 + 2) = q_an G 8 fi2 := (hf_263 _ (by omega)).trans hc_243
        have hc_270 : σ_261 (g2 + 2 + 3) = q_an G 8 se2 := (hf_263 _ (by omega)).trans hc_244
        have hc_271 : σ_261 (g2 + 2 + 4) = q_an G 8 tf2 := (hf_263 _ (by omega)).trans hc_245
        have hc_272 : σ_261 (g2 + 2 + 5) = q_an G 8 ts2 := (hf_263 _ (by omega)).trans hc_246
        have hc_273 : σ_261 (g2 + 8) = q_an G 10 ac2 := (hf_263 _ (by omega)).trans hc_247
        have hc_274 : σ_261 (g2 + 9) = q_an G 100 tu2 := (hf_263 _ (by omega)).trans hc_248
        have hc_275 : ∀ j9 : Nat, j9 < 4 → σ_261 (g2 + 10 + 2 * j9) = o7 G (g2 + 10 + 2 * j9) (lN (nm2 j9)) (lN (on2 j9)) (nI (sl2 j9)) (nI (mo2 j9)) (nI (nb2 j9)) := fun j9 hj0 => (hf_263 _ (by omega)).trans (hc_249 j9 (by omega))
        have hc_276 : ∀ j9 : Nat, j9 < 4 → σ_261 (g2 + 10 + 2 * j9 + 1) = q_an G 5 (bm2 j9) := fun j9 hj0 => (hf_263 _ (by omega)).trans (hc_250 j9 (by omega))
        have hc_277 : ∀ j9 : Nat, j9 < 4 → σ_261 (gb + 10 + 2 * j9) = o7 G (gb + 10 + 2 * j9) (lN (nm2 j9)) (lN (on2 j9)) (nI (sl2 j9)) (nI (mo2 j9)) (nI (nb2 j9)) := fun j9 hj0 => (hf_263 _ (by omega)).trans (hc_251 j9 (by omega))
        have hc_278 : ∀ j9 : Nat, j9 < 4 → σ_261 (gb + 10 + 2 * j9 + 1) = q_an G 5 (bm2 j9) := fun j9 hj0 => (hf_263 _ (by omega)).trans (hc_252 j9 (by omega))
        have hc_279 : σ_261 (gb + 2) = o6 G (gb + 2) (nI (g 1)) (nI (g 2)) := (hf_263 _ (by omega)).trans hc_253
        have hc_280 : σ_261 ((gb + 2) + 1) = q_an G 8 kd2 := (hf_263 _ (by omega)).trans hc_254
        have hc_281 : σ_261 ((gb + 2) + 2) = q_an G 8 fi2 := (hf_263 _ (by omega)).trans hc_255
        have hc_282 : σ_261 ((gb + 2) + 3) = q_an G 8 se2 := (hf_263 _ (by omega)).trans hc_256
        have hc_283 : σ_261 ((gb + 2) + 4) = q_an G 8 tf2 := (hf_263 _ (by omega)).trans hc_257
        have hc_284 : σ_261 ((gb + 2) + 5) = q_an G 8 ts2 := (hf_263 _ (by omega)).trans hc_258
        have hc_285 : σ_261 (gb + 9) = q_an G 100 (va_cpy tu2 tu 0 0 100) := (hf_263 _ (by omega)).trans hc_260
        have hc_286 : σ_261 gb = o0 G (gb) (nI (g 0)) (nI (g 3)) (nI (g 4)) (nI (g 5)) (nI (g 6)) := (hf_263 _ (by omega)).trans hc_236
        refine A_canon tu2 hc_285 (fun jj hj => by unfold va_cpy; rw [if_pos (by omega)]; congr 1; omega) (fun σ_287 hc_288 hf_289 => ?_)
        have hc_290 : σ_287 (gb + 1) = q_rn G 3 4 (fun j => some (gb + 10 + 2 * j)) := (hf_289 _ (by omega)).trans hc_264
        have hc_291 : σ_287 g2 = o0 G (g2) (nI (g 0)) (nI (g 3)) (nI (g 4)) (nI (g 5)) (nI (g 6)) := (hf_289 _ (by omega)).trans hc_265
        have hc_292 : σ_287 (g2 + 1) = q_rn G 3 4 (fun j => some (g2 + 10 + 2 * j)) := (hf_289 _ (by omega)).trans hc_266
        have hc_293 : σ_287 (g2 + 2) = o6 G (g2 + 2) (nI (g 1)) (nI (g 2)) := (hf_289 _ (by omega)).trans hc_267
        have hc_294 : σ_287 (g2 + 2 + 1) = q_an G 8 kd2 := (hf_289 _ (by omega)).trans hc_268
        have hc_295 : σ_287 (g2 + 2 + 2) = q_an G 8 fi2 := (hf_289 _ (by omega)).trans hc_269
        have hc_296 : σ_287 (g2 + 2 + 3) = q_an G 8 se2 := (hf_289 _ (by omega)).trans hc_270
        have hc_297 : σ_287 (g2 + 2 + 4) = q_an G 8 tf2 := (hf_289 _ (by omega)).trans hc_271
        have hc_298 : σ_287 (g2 + 2 + 5) = q_an G 8 ts2 := (hf_289 _ (by omega)).trans hc_272
        have hc_299 : σ_287 (g2 + 8) = q_an G 10 ac2 := (hf_289 _ (by omega)).trans hc_273
        have hc_300 : σ_287 (g2 + 9) = q_an G 100 tu2 := (hf_289 _ (by omega)).trans hc_274
        have hc_301 : ∀ j9 : Nat, j9 < 4 → σ_287 (g2 + 10 + 2 * j9) = o7 G (g2 + 10 + 2 * j9) (lN (nm2 j9)) (lN (on2 j9)) (nI (sl2 j9)) (nI (mo2 j9)) (nI (nb2 j9)) := fun j9 hj0 => (hf_289 _ (by omega)).trans (hc_275 j9 (by omega))
        have hc_302 : ∀ j9 : Nat, j9 < 4 → σ_287 (g2 + 10 + 2 * j9 + 1) = q_an G 5 (bm2 j9) := fun j9 hj0 => (hf_289 _ (by omega)).trans (hc_276 j9 (by omega))
        have hc_303 : ∀ j9 : Nat, j9 < 4 → σ_287 (gb + 10 + 2 * j9) = o7 G (gb + 10 + 2 * j9) (lN (nm2 j9)) (lN (on2 j9)) (nI (sl2 j9)) (nI (mo2 j9)) (nI (nb2 j9)) := fun j9 hj0 => (hf_289 _ (by omega)).trans (hc_277 j9 (by omega))
        have hc_304 : ∀ j9 : Nat, j9 < 4 → σ_287 (gb + 10 + 2 * j9 + 1) = q_an G 5 (bm2 j9) := fun j9 hj0 => (hf_289 _ (by omega)).trans (hc_278 j9 (by omega))
        have hc_305 : σ_287 (gb + 2) = o6 G (gb + 2) (nI (g 1)) (nI (g 2)) := (hf_289 _ (by omega)).trans hc_279
        have hc_306 : σ_287 ((gb + 2) + 1) = q_an G 8 kd2 := (hf_289 _ (by omega)).trans hc_280
        have hc_307 : σ_287 ((gb + 2) + 2) = q_an G 8 fi2 := (hf_289 _ (by omega)).trans hc_281
        have hc_308 : σ_287 ((gb + 2) + 3) = q_an G 8 se2 := (hf_289 _ (by omega)).trans hc_282
        have hc_309 : σ_287 ((gb + 2) + 4) = q_an G 8 tf2 := (hf_289 _ (by omega)).trans hc_283
        have hc_310 : σ_287 ((gb + 2) + 5) = q_an G 8 ts2 := (hf_289 _ (by omega)).trans hc_284
        have hc_311 : σ_287 gb = o0 G (gb) (nI (g 0)) (nI (g 3)) (nI (g 4)) (nI (g 5)) (nI (g 6)) := (hf_289 _ (by omega)).trans hc_286
        have hc_312 : σ_287 (gb + 8) = q_an G 10 ac2 := (hf_289 _ (by omega)).trans hc_262
        rw [hQ]
        exact A_return hg (by decide) (by decide) rfl dX0_copyFrom_115 ⟨rfl, ⟨rfl, ⟨kd2, fi2, se2, tf2, ts2, ac2, tu2, nm2, on2, sl2, mo2, nb2, bm2, ⟨hc_311, hc_290, hc_305, hc_306, hc_307, hc_308, hc_309, hc_310, hc_312, hc_288, hc_303, hc_304⟩, hgr2⟩, hc_311, (fun i hi => ((hf_289 i (by omega)).trans ((hf_263 i (by omega)).trans ((hf_237 i (by omega)).trans ((hf_211 i (by omega)).trans ((hf_185 i (by omega)).trans ((hf_159 i (by omega)).trans ((hf_133 i (by omega)).trans ((hf_107 i (by omega)).trans ((hf_85 i (by omega)).trans ((hf_55 i (by omega)).trans (hf_50 i (by omega)))))))))))))⟩⟩
      · skip
        refine A_aload_n hg dX0_copyFrom_7 rfl rfl ?_
        refine A_getf (v := .ref (q_h G + (gb + 1))) hg fl_RX0_11 dX0_copyFrom_8 hc_26 (by omega) rfl ?_
        refine A_iload_n hg dX0_copyFrom_11 rfl rfl ?_
        refine A_aald (i := (gb + 10 + 2 * i)) hg dX0_copyFrom_12 hc_27 (by decide) rfl (by omega) (by omega) (by decide) rfl ?_
        refine A_aload_n hg dX0_copyFrom_13 rfl rfl ?_
        refine A_getf (v := .ref (q_h G + (g2 + 1))) hg fl_RX0_11 dX0_copyFrom_14 hc_38 (by omega) rfl ?_
        refine A_iload_n hg dX0_copyFrom_17 rfl rfl ?_
        refine A_aald (i := (g2 + 10 + 2 * i)) hg dX0_copyFrom_18 hc_39 (by decide) rfl (by omega) (by omega) (by decide) rfl ?_
        refine A_vV (kc2 := 0) (ks2 := 0) (As := [.ref (q_h G + (g2 + 10 + 2 * i))]) (rest := []) hg lk_RX0_74 in_X7_copyFrom se_X7_copyFrom rfl dX0_copyFrom_19 ⟨by decide, by decide⟩ rfl rfl ⟨by decide, by decide⟩ (hc_36 i (by omega)) (by omega) rfl rfl (Nat.le_of_ble_eq_true rfl) (c_X7_copyFrom G ex n σ_25 (gb + 10 + 2 * i) (x_mix i nm2 nm i) (x_mix i on2 on i) (x_mix i sl2 sl i) (x_mix i mo2 mo i) (x_mix i nb2 nb i) (x_mix i bm2 bm i) (g2 + 10 + 2 * i) (nm2 i) (on2 i) (sl2 i) (mo2 i) (nb2 i) (bm2 i) (hc_36 i (by omega)) (hc_37 i (by omega)) (hc_48 i (by omega)) (hc_49 i (by omega)) (by omega) (by omega) (by omega)) ?_
        rintro σ_316 ⟨hc_313, hc_314, hf_315⟩
        have hc_317 : σ_316 gb = o0 G (gb) (nI (rm)) (nI (pl)) (nI (tn)) (nI (gm)) (nI (tk)) := (hf_315 _ (by omega)).trans hc_26
        have hc_318 : σ_316 (gb + 1) = q_rn G 3 4 (fun j => some (gb + 10 + 2 * j)) := (hf_315 _ (by omega)).trans hc_27
        have hc_319 : σ_316 (gb + 2) = o6 G (gb + 2) (nI (b)) (nI (sk)) := (hf_315 _ (by omega)).trans hc_28
        have hc_320 : σ_316 (gb + 2 + 1) = q_an G 8 kd := (hf_315 _ (by omega)).trans hc_29
        have hc_321 : σ_316 (gb + 2 + 2) = q_an G 8 fi := (hf_315 _ (by omega)).trans hc_30
        have hc_322 : σ_316 (gb + 2 + 3) = q_an G 8 se := (hf_315 _ (by omega)).trans hc_31
        have hc_323 : σ_316 (gb + 2 + 4) = q_an G 8 tf := (hf_315 _ (by omega)).trans hc_32
        have hc_324 : σ_316 (gb + 2 + 5) = q_an G 8 ts := (hf_315 _ (by omega)).trans hc_33
        have hc_325 : σ_316 (gb + 8) = q_an G 10 ac := (hf_315 _ (by omega)).trans hc_34
        have hc_326 : σ_316 (gb + 9) = q_an G 100 tu := (hf_315 _ (by omega)).trans hc_35
        have hc_327 : ∀ j9 : Nat, j9 < 4 → j9 ≠ i → σ_316 (gb + 10 + 2 * j9) = o7 G (gb + 10 + 2 * j9) (lN (x_mix i nm2 nm j9)) (lN (x_mix i on2 on j9)) (nI (x_mix i sl2 sl j9)) (nI (x_mix i mo2 mo j9)) (nI (x_mix i nb2 nb j9)) := fun j9 hj0 hj1 => (hf_315 _ (by omega)).trans (hc_36 j9 (by omega))
        have hc_328 : ∀ j9 : Nat, j9 < 4 → j9 ≠ i → σ_316 (gb + 10 + 2 * j9 + 1) = q_an G 5 (x_mix i bm2 bm j9) := fun j9 hj0 hj1 => (hf_315 _ (by omega)).trans (hc_37 j9 (by omega))
        have hc_329 : σ_316 g2 = o0 G (g2) (nI (g 0)) (nI (g 3)) (nI (g 4)) (nI (g 5)) (nI (g 6)) := (hf_315 _ (by omega)).trans hc_38
        have hc_330 : σ_316 (g2 + 1) = q_rn G 3 4 (fun j => some (g2 + 10 + 2 * j)) := (hf_315 _ (by omega)).trans hc_39
        have hc_331 : σ_316 (g2 + 2) = o6 G (g2 + 2) (nI (g 1)) (nI (g 2)) := (hf_315 _ (by omega)).trans hc_40
        have hc_332 : σ_316 (g2 + 2 + 1) = q_an G 8 kd2 := (hf_315 _ (by omega)).trans hc_41
        have hc_333 : σ_316 (g2 + 2 + 2) = q_an G 8 fi2 := (hf_315 _ (by omega)).trans hc_42
        have hc_334 : σ_316 (g2 + 2 + 3) = q_an G 8 se2 := (hf_315 _ (by omega)).trans hc_43
        have hc_335 : σ_316 (g2 + 2 + 4) = q_an G 8 tf2 := (hf_315 _ (by omega)).trans hc_44
        have hc_336 : σ_316 (g2 + 2 + 5) = q_an G 8 ts2 := (hf_315 _ (by omega)).trans hc_45
        have hc_337 : σ_316 (g2 + 8) = q_an G 10 ac2 := (hf_315 _ (by omega)).trans hc_46
        have hc_338 : σ_316 (g2 + 9) = q_an G 100 tu2 := (hf_315 _ (by omega)).trans hc_47
        have hc_339 : ∀ j9 : Nat, j9 < 4 → σ_316 (g2 + 10 + 2 * j9) = o7 G (g2 + 10 + 2 * j9) (lN (nm2 j9)) (lN (on2 j9)) (nI (sl2 j9)) (nI (mo2 j9)) (nI (nb2 j9)) := fun j9 hj0 => (hf_315 _ (by omega)).trans (hc_48 j9 (by omega))
        have hc_340 : ∀ j9 : Nat, j9 < 4 → σ_316 (g2 + 10 + 2 * j9 + 1) = q_an G 5 (bm2 j9) := fun j9 hj0 => (hf_315 _ (by omega)).trans (hc_49 j9 (by omega))
        have hc_341 : ∀ j9 : Nat, j9 < 4 → σ_316 (gb + 10 + 2 * j9) = o7 G (gb + 10 + 2 * j9) (lN (x_mix (i + 1) nm2 nm j9)) (lN (x_mix (i + 1) on2 on j9)) (nI (x_mix (i + 1) sl2 sl j9)) (nI (x_mix (i + 1) mo2 mo j9)) (nI (x_mix (i + 1) nb2 nb j9)) := by
          intro j9 hj0
          by_cases ej : j9 = i
          · rw [ej]; exact hc_313.trans (by simp only [x_mix_at])
          · exact (hc_327 j9 (by omega) ej).trans (by simp only [x_mix_ne ej])
        have hc_342 : ∀ j9 : Nat, j9 < 4 → σ_316 (gb + 10 + 2 * j9 + 1) = q_an G 5 (x_mix (i + 1) bm2 bm j9) := by
          intro j9 hj0
          by_cases ej : j9 = i
          · rw [ej]; exact hc_314.trans (by simp only [x_mix_at])
          · exact (hc_328 j9 (by omega) ej).trans (by simp only [x_mix_ne ej])
        refine A_iincN (k' := 1) hg dX0_copyFrom_22 (by decide) rfl (by decide) (q_c1d rfl) ?_
        refine A_eq (ls2 := [some (.ref (q_h G + gb)), some (.ref (q_h G + g2)), some (.int (nI (i + 1)))]) (st2 := []) (pc2 := 0) rfl rfl ?_
        refine A_goto (tgt := 2) hg dX0_copyFrom_25 (by decide) ?_
        exact ih2 (i + 1) σ_316 hc_317 hc_318 hc_319 hc_320 hc_321 hc_322 hc_323 hc_324 hc_325 hc_326 hc_341 hc_342 hc_329 hc_330 hc_331 hc_332 hc_333 hc_334 hc_335 hc_336 hc_337 hc_338 hc_339 hc_340 (fun i hi => ((hf_315 i (by omega)).trans (hf_50 i (by omega)))) (by omega) (by omega)
  exact hL2 _ 0 σ hj_1 hj_2 hj_3 hj_4 hj_5 hj_6 hj_7 hj_8 hj_9 hj_10 (fun j9 h9 => (hj_11 j9 h9).trans (by simp only [x_mix_0])) (fun j9 h9 => (hj_12 j9 h9).trans (by simp only [x_mix_0])) hg_13 hg_14 hg_15 hg_16 hg_17 hg_18 hg_19 hg_20 hg_21 hg_22 hg_23 hg_24 (fun _ _ => rfl) (Nat.zero_le _) (Nat.lt_succ_self _)
end
