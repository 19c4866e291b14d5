section
set_option maxRecDepth 100000 in
set_option maxHeartbeats 4000000 in
theorem c_X0_init (G : GL) (σ : Nat → va_E) (b : Nat) (hc0 : σ b = .inr (0, [.null, .int (nI (0)), .null, .int (nI (0)), .int (nI (0)), .int (nI (0)), .null, .null, .int (nI (0))]))  : CtN G yX0_init cX0_init 2 none ⟨2, 17, 205, 40⟩ [.ref (q_h G + b)] true (b + 1) σ (fun v9 n' σ' => n' = (b + 18) ∧ (fun v9 σ2 => v9 = none ∧ (x_gj G σ2 b) ∧ (∀ i : Nat, i < b → σ2 i = σ i)) v9 σ') q_noX := by
  refine q_enterI [some (.ref (q_h G + b)), none] (by decide) (Nat.le_of_ble_eq_true rfl) rfl ?_
  intro K hg hme
  obtain ⟨Q, hQ⟩ : ∃ Q, Q = q_Q G K true (b + 1) 17 205 (fun v9 n' σ' => n' = (b + 18) ∧ (fun v9 σ2 => v9 = none ∧ (x_gj G σ2 b) ∧ (∀ i : Nat, i < b → σ2 i = σ i)) v9 σ') q_noX := ⟨_, rfl⟩
  refine (?_ : AJ G K (q_Q G K true (b + 1) 17 205 _ _) 0 0 true (b + 1) 0 _ _ σ)
  rw [← hQ]
  refine A_aload_n hg dX0_init_0 rfl rfl ?_
  refine A_objInit hg (q_mt 76 (by decide +kernel)) (q_mt 34 (by decide +kernel)) (q_mt 35 (by decide +kernel)) dX0_init_1 ⟨by decide, by decide⟩ (Nat.le_of_ble_eq_true rfl) ?_
  refine A_aload_n hg dX0_init_4 rfl rfl ?_
  refine A_iconst (v := (nI (4))) hg dX0_init_5 (by decide) ?_
  refine A_newq (C := "GoldenHeaps$Rule") (t := 3) (N := 4) hg (by decide) rfl (q_mt 77 (by decide +kernel)) (q_mt 78 (by decide +kernel)) (by decide) (by decide) (by decide) (by decide) dX0_init_6 (fun σ_1 hc_2 hf_3 => ?_)
  have hc_2 : σ_1 (b + 1) = q_rn G 3 4 (fun _ => none) := hc_2
  have hc_4 : σ_1 b = .inr (0, [.null, .int (nI (0)), .null, .int (nI (0)), .int (nI (0)), .int (nI (0)), .null, .null, .int (nI (0))]) := (hf_3 _ (by omega)).trans hc0
  refine A_putF (fs' := [.ref (q_h G + (b + 1)), .int (nI (0)), .null, .int (nI (0)), .int (nI (0)), .int (nI (0)), .null, .null, .int (nI (0))]) hg fl_RX0_11 hme rfl (by intro C T N h; cases h; exact q_mt 145 (by decide +kernel)) dX0_init_9 hc_4 (by omega) (Nat.le_of_ble_eq_true rfl) rfl rfl rfl (fun σ_5 hc_6 hf_7 => ?_)
  have hc_6 : σ_5 b = .inr (0, [.ref (q_h G + (b + 1)), .int (nI (0)), .null, .int (nI (0)), .int (nI (0)), .int (nI (0)), .null, .null, .int (nI (0))]) := hc_6
  have hc_8 : σ_5 (b + 1) = q_rn G 3 4 (fun _ => none) := (hf_7 _ (by omega)).trans hc_2
  refine A_aload_n hg dX0_init_12 rfl rfl ?_
  refine A_iconst (v := (nI (0))) hg dX0_init_13 (by decide) ?_
  refine A_putf hg fl_RX0_17 dX0_init_14 hc_6 (by omega) (Nat.le_of_ble_eq_true rfl) rfl rfl rfl (fun σ_9 hc_10 hf_11 => ?_)
  have hc_10 : σ_9 b = .inr (0, [.ref (q_h G + (b + 1)), .int (nI (0)), .null, .int (nI (0)), .int (nI (0)), .int (nI (0)), .null, .null, .int (nI (0))]) := hc_10
  have hc_12 : σ_9 (b + 1) = q_rn G 3 4 (fun _ => none) := (hf_11 _ (by omega)).trans hc_8
  refine A_aload_n hg dX0_init_17 rfl rfl ?_
  refine A_newo (ci := 6) (fs := [.int (nI (0)), .int (nI (0)), .null, .null, .null, .null, .null]) (C := RX6) (T := TX6) (N := 7) hg tyX6 rfl uw_6 tyX6_ok (q_mt 79 (by decide +kernel)) (q_mt 80 (by decide +kernel)) (q_mt 5 (by decide +kernel)) nd_6 (by decide) (by decide) dX0_init_18 (fun σ_13 hc_14 hf_15 => ?_)
  have hc_14 : σ_13 (b + 2) = .inr (6, [.int (nI (0)), .int (nI (0)), .null, .null, .null, .null, .null]) := hc_14
  have hc_16 : σ_13 (b + 1) = q_rn G 3 4 (fun _ => none) := (hf_15 _ (by omega)).trans hc_12
  have hc_17 : σ_13 b = .inr (0, [.ref (q_h G + (b + 1)), .int (nI (0)), .null, .int (nI (0)), .int (nI (0)), .int (nI (0)), .null, .null, .int (nI (0))]) := (hf_15 _ (by omega)).trans hc_10
  refine A_dup hg dX0_init_21 rfl ?_
  refine A_callI (id := (b + 2)) (As := []) (rest := [.ref (q_h G + (b + 2)), .ref (q_h G + b)]) hg lk_RX0_23 rfl in_X6_init dX0_init_22 ⟨by decide, by decide⟩ ⟨by decide, by decide⟩ rfl rfl (Nat.le_of_ble_eq_true rfl) (c_X6_init G σ_13 (b + 2) hc_14) q_nx ?_
  rintro _ _ σ_25 ⟨rfl, rfl, hc_18, hc_19, hc_20, hc_21, hc_22, hc_23, hf_24⟩
  refine (?_ : AJ G K Q 7 51 true (b + 8) 25 [some (.ref (q_h G + b)), none] [.ref (q_h G + (b + 2)), .ref (q_h G + b)] σ_25)
  have hc_26 : σ_25 (b + 1) = q_rn G 3 4 (fun _ => none) := (hf_24 _ (by omega)).trans hc_16
  have hc_27 : σ_25 b = .inr (0, [.ref (q_h G + (b + 1)), .int (nI (0)), .null, .int (nI (0)), .int (nI (0)), .int (nI (0)), .null, .null, .int (nI (0))]) := (hf_24 _ (by omega)).trans hc_17
  refine A_putF (fs' := [.ref (q_h G + (b + 1)), .int (nI (0)), .ref (q_h G + (b + 2)), .int (nI (0)), .int (nI (0)), .int (nI (0)), .null, .null, .int (nI (0))]) hg fl_RX0_24 hme rfl (by intro C T N h; cases h; exact q_mt 149 (by decide +kernel)) dX0_init_25 hc_27 (by omega) (Nat.le_of_ble_eq_true rfl) rfl rfl rfl (fun σ_28 hc_29 hf_30 => ?_)
  have hc_29 : σ_28 b = .inr (0, [.ref (q_h G + (b + 1)), .int (nI (0)), .ref (q_h G + (b + 2)), .int (nI (0)), .int (nI (0)), .int (nI (0)), .null, .null, .int (nI (0))]) := hc_29
  have hc_31 : σ_28 (b + 1) = q_rn G 3 4 (fun _ => none) := (hf_30 _ (by omega)).trans hc_26
  have hc_32 : σ_28 (b + 2) = o6 G (b + 2) (nI (0)) (nI (0)) := (hf_30 _ (by omega)).trans hc_18
  have hc_33 : σ_28 (b + 3) = q_an G 8 (fun _ => 0) := (hf_30 _ (by omega)).trans hc_19
  have hc_34 : σ_28 (b + 4) = q_an G 8 (fun _ => 0) := (hf_30 _ (by omega)).trans hc_20
  have hc_35 : σ_28 (b + 5) = q_an G 8 (fun _ => 0) := (hf_30 _ (by omega)).trans hc_21
  have hc_36 : σ_28 (b + 6) = q_an G 8 (fun _ => 0) := (hf_30 _ (by omega)).trans hc_22
  have hc_37 : σ_28 (b + 7) = q_an G 8 (fun _ => 0) := (hf_30 _ (by omega)).trans hc_23
  refine A_aload_n hg dX0_init_28 rfl rfl ?_
  refine A_iconst (v := (nI (0))) hg dX0_init_29 (by decide) ?_
  refine A_putf hg fl_RX0_28 dX0_init_30 hc_29 (by omega) (Nat.le_of_ble_eq_true rfl) rfl rfl rfl (fun σ_38 hc_39 hf_40 => ?_)
  have hc_39 : σ_38 b = .inr (0, [.ref (q_h G + (b + 1)), .int (nI (0)), .ref (q_h G + (b + 2)), .int (nI (0)), .int (nI (0)), .int (nI (0)), .null, .null, .int (nI (0))]) := hc_39
  have hc_41 : σ_38 (b + 1) = q_rn G 3 4 (fun _ => none) := (hf_40 _ (by omega)).trans hc_31
  have hc_42 : σ_38 (b + 2) = o6 G (b + 2) (nI (0)) (nI (0)) := (hf_40 _ (by omega)).trans hc_32
  have hc_43 : σ_38 (b + 3) = q_an G 8 (fun _ => 0) := (hf_40 _ (by omega)).trans hc_33
  have hc_44 : σ_38 (b + 4) = q_an G 8 (fun _ => 0) := (hf_40 _ (by omega)).trans hc_34
  have hc_45 : σ_38 (b + 5) = q_an G 8 (fun _ => 0) := (hf_40 _ (by omega)).trans hc_35
  have hc_46 : σ_38 (b + 6) = q_an G 8 (fun _ => 0) := (hf_40 _ (by omega)).trans hc_36
  have hc_47 : σ_38 (b + 7) = q_an G 8 (fun _ => 0) := (hf_40 _ (by omega)).trans hc_37
  refine A_aload_n hg dX0_init_33 rfl rfl ?_
  refine A_iconst (v := (nI (0))) hg dX0_init_34 (by decide) ?_
  refine A_putf hg fl_RX0_31 dX0_init_35 hc_39 (by omega) (Nat.le_of_ble_eq_true rfl) rfl rfl rfl (fun σ_48 hc_49 hf_50 => ?_)
  have hc_49 : σ_48 b = .inr (0, [.ref (q_h G + (b + 1)), .int (nI (0)), .ref (q_h G + (b + 2)), .int (nI (0)), .int (nI (0)), .int (nI (0)), .null, .null, .int (nI (0))]) := hc_49
  have hc_51 : σ_48 (b + 1) = q_rn G 3 4 (fun _ => none) := (hf_50 _ (by omega)).trans hc_41
  have hc_52 : σ_48 (b + 2) = o6 G (b + 2) (nI (0)) (nI (0)) := (hf_50 _ (by omega)).trans hc_42
  have hc_53 : σ_48 (b + 3) = q_an G 8 (fun _ => 0) := (hf_50 _ (by omega)).trans hc_43
  have hc_54 : σ_48 (b + 4) = q_an G 8 (fun _ => 0) := (hf_50 _ (by omega)).trans hc_44
  have hc_55 : σ_48 (b + 5) = q_an G 8 (fun _ => 0) := (hf_50 _ (by omega)).trans hc_45
  have hc_56 : σ_48 (b + 6) = q_an G 8 (fun _ => 0) := (hf_50 _ (by omega)).trans hc_46
  have hc_57 : σ_48 (b + 7) = q_an G 8 (fun _ => 0) := (hf_50 _ (by omega)).trans hc_47
  refine A_aload_n hg dX0_init_38 rfl rfl ?_
  refine A_iconst (v := (nI (1))) hg dX0_init_39 (by decide) ?_
  refine A_putf hg fl_RX0_34 dX0_init_40 hc_49 (by omega) (Nat.le_of_ble_eq_true rfl) rfl rfl rfl (fun σ_58 hc_59 hf_60 => ?_)
  have hc_59 : σ_58 b = .inr (0, [.ref (q_h G + (b + 1)), .int (nI (0)), .ref (q_h G + (b + 2)), .int (nI (0)), .int (nI (0)), .int (nI (1)), .null, .null, .int (nI (0))]) := hc_59
  have hc_61 : σ_58 (b + 1) = q_rn G 3 4 (fun _ => none) := (hf_60 _ (by omega)).trans hc_51
  have hc_62 : σ_58 (b + 2) = o6 G (b + 2) (nI (0)) (nI (0)) := (hf_60 _ (by omega)).trans hc_52
  have hc_63 : σ_58 (b + 3) = q_an G 8 (fun _ => 0) := (hf_60 _ (by omega)).trans hc_53
  have hc_64 : σ_58 (b + 4) = q_an G 8 (fun _ => 0) := (hf_60 _ (by omega)).trans hc_54
  have hc_65 : σ_58 (b + 5) = q_an G 8 (fun _ => 0) := (hf_60 _ (by omega)).trans hc_55
  have hc_66 : σ_58 (b + 6) = q_an G 8 (fun _ => 0) := (hf_60 _ (by omega)).trans hc_56
  have hc_67 : σ_58 (b + 7) = q_an G 8 (fun _ => 0) := (hf_60 _ (by omega)).trans hc_57
  refine A_aload_n hg dX0_init_43 rfl rfl ?_
  refine A_bipush (v := (nI (10))) hg dX0_init_44 (by decide) ?_
  refine A_newa (t := 0) (N := 10) (a0 := (10, .inl (fun _ => nI 0))) hg (by decide) rfl (fun C h => by cases h) (q_mt 70 (by decide +kernel)) (fun _ => rfl) (by decide) (by decide) (by decide) (by decide) dX0_init_46 (fun σ_68 hc_69 hf_70 => ?_)
  have hc_69 : σ_68 (b + 8) = q_an G 10 (fun _ => 0) := hc_69
  have hc_71 : σ_68 (b + 1) = q_rn G 3 4 (fun _ => none) := (hf_70 _ (by omega)).trans hc_61
  have hc_72 : σ_68 (b + 2) = o6 G (b + 2) (nI (0)) (nI (0)) := (hf_70 _ (by omega)).trans hc_62
  have hc_73 : σ_68 (b + 3) = q_an G 8 (fun _ => 0) := (hf_70 _ (by omega)).trans hc_63
  have hc_74 : σ_68 (b + 4) = q_an G 8 (fun _ => 0) := (hf_70 _ (by omega)).trans hc_64
  have hc_75 : σ_68 (b + 5) = q_an G 8 (fun _ => 0) := (hf_70 _ (by omega)).trans hc_65
  have hc_76 : σ_68 (b + 6) = q_an G 8 (fun _ => 0) := (hf_70 _ (by omega)).trans hc_66
  have hc_77 : σ_68 (b + 7) = q_an G 8 (fun _ => 0) := (hf_70 _ (by omega)).trans hc_67
  have hc_78 : σ_68 b = .inr (0, [.ref (q_h G + (b + 1)), .int (nI (0)), .ref (q_h G + (b + 2)), .int (nI (0)), .int (nI (0)), .int (nI (1)), .null, .null, .int (nI (0))]) := (hf_70 _ (by omega)).trans hc_59
  refine A_putF (fs' := [.ref (q_h G + (b + 1)), .int (nI (0)), .ref (q_h G + (b + 2)), .int (nI (0)), .int (nI (0)), .int (nI (1)), .ref (q_h G + (b + 8)), .null, .int (nI (0))]) hg fl_RX0_37 hme rfl (by intro C T N h; cases h; exact q_mt 160 (by decide +kernel)) dX0_init_48 hc_78 (by omega) (Nat.le_of_ble_eq_true rfl) rfl rfl rfl (fun σ_79 hc_80 hf_81 => ?_)
  have hc_80 : σ_79 b = .inr (0, [.ref (q_h G + (b + 1)), .int (nI (0)), .ref (q_h G + (b + 2)), .int (nI (0)), .int (nI (0)), .int (nI (1)), .ref (q_h G + (b + 8)), .null, .int (nI (0))]) := hc_80
  have hc_82 : σ_79 (b + 1) = q_rn G 3 4 (fun _ => none) := (hf_81 _ (by omega)).trans hc_71
  have hc_83 : σ_79 (b + 2) = o6 G (b + 2) (nI (0)) (nI (0)) := (hf_81 _ (by omega)).trans hc_72
  have hc_84 : σ_79 (b + 3) = q_an G 8 (fun _ => 0) := (hf_81 _ (by omega)).trans hc_73
  have hc_85 : σ_79 (b + 4) = q_an G 8 (fun _ => 0) := (hf_81 _ (by omega)).trans hc_74
  have hc_86 : σ_79 (b + 5) = q_an G 8 (fun _ => 0) := (hf_81 _ (by omega)).trans hc_75
  have hc_87 : σ_79 (b + 6) = q_an G 8 (fun _ => 0) := (hf_81 _ (by omega)).trans hc_76
  have hc_88 : σ_79 (b + 7) = q_an G 8 (fun _ => 0) := (hf_81 _ (by omega)).trans hc_77
  have hc_89 : σ_79 (b + 8) = q_an G 10 (fun _ => 0) := (hf_81 _ (by omega)).trans hc_69
  refine A_aload_n hg dX0_init_51 rfl rfl ?_
  refine A_bipush (v := (nI (100))) hg dX0_init_52 (by decide) ?_
  refine A_newa (t := 0) (N := 100) (a0 := (100, .inl (fun _ => nI 0))) hg (by decide) rfl (fun C h => by cases h) (q_mt 70 (by decide +kernel)) (fun _ => rfl) (by decide) (by decide) (by decide) (by decide) dX0_init_54 (fun σ_90 hc_91 hf_92 => ?_)
  have hc_91 : σ_90 (b + 9) = q_an G 100 (fun _ => 0) := hc_91
  have hc_93 : σ_90 (b + 1) = q_rn G 3 4 (fun _ => none) := (hf_92 _ (by omega)).trans hc_82
  have hc_94 : σ_90 (b + 2) = o6 G (b + 2) (nI (0)) (nI (0)) := (hf_92 _ (by omega)).trans hc_83
  have hc_95 : σ_90 (b + 3) = q_an G 8 (fun _ => 0) := (hf_92 _ (by omega)).trans hc_84
  have hc_96 : σ_90 (b + 4) = q_an G 8 (fun _ => 0) := (hf_92 _ (by omega)).trans hc_85
  have hc_97 : σ_90 (b + 5) = q_an G 8 (fun _ => 0) := (hf_92 _ (by omega)).trans hc_86
  have hc_98 : σ_90 (b + 6) = q_an G 8 (fun _ => 0) := (hf_92 _ (by omega)).trans hc_87
  have hc_99 : σ_90 (b + 7) = q_an G 8 (fun _ => 0) := (hf_92 _ (by omega)).trans hc_88
  have hc_100 : σ_90 (b + 8) = q_an G 10 (fun _ => 0) := (hf_92 _ (by omega)).trans hc_89
  have hc_101 : σ_90 b = .inr (0, [.ref (q_h G + (b + 1)), .int (nI (0)), .ref (q_h G + (b + 2)), .int (nI (0)), .int (nI (0)), .int (nI (1)), .ref (q_h G + (b + 8)), .null, .int (nI (0))]) := (hf_92 _ (by omega)).trans hc_80
  refine A_putF (fs' := [.ref (q_h G + (b + 1)), .int (nI (0)), .ref (q_h G + (b + 2)), .int (nI (0)), .int (nI (0)), .int (nI (1)), .ref (q_h G + (b + 8)), .ref (q_h G + (b + 9)), .int (nI (0))]) hg fl_RX0_41 hme rfl (by intro C T N h; cases h; exact q_mt 161 (by decide +kernel)) dX0_init_56 hc_101 (by omega) (Nat.le_of_ble_eq_true rfl) rfl rfl rfl (fun σ_102 hc_103 hf_104 => ?_)
  have hc_103 : σ_102 b = .inr (0, [.ref (q_h G + (b + 1)), .int (nI (0)), .ref (q_h G + (b + 2)), .int (nI (0)), .int (nI (0)), .int (nI (1)), .ref (q_h G + (b + 8)), .ref (q_h G + (b + 9)), .int (nI (0))]) := hc_103
  have hc_105 : σ_102 (b + 1) = q_rn G 3 4 (fun _ => none) := (hf_104 _ (by omega)).trans hc_93
  have hc_106 : σ_102 (b + 2) = o6 G (b + 2) (nI (0)) (nI (0)) := (hf_104 _ (by omega)).trans hc_94
  have hc_107 : σ_102 (b + 3) = q_an G 8 (fun _ => 0) := (hf_104 _ (by omega)).trans hc_95
  have hc_108 : σ_102 (b + 4) = q_an G 8 (fun _ => 0) := (hf_104 _ (by omega)).trans hc_96
  have hc_109 : σ_102 (b + 5) = q_an G 8 (fun _ => 0) := (hf_104 _ (by omega)).trans hc_97
  have hc_110 : σ_102 (b + 6) = q_an G 8 (fun _ => 0) := (hf_104 _ (by omega)).trans hc_98
  have hc_111 : σ_102 (b + 7) = q_an G 8 (fun _ => 0) := (hf_104 _ (by omega)).trans hc_99
  have hc_112 : σ_102 (b + 8) = q_an G 10 (fun _ => 0) := (hf_104 _ (by omega)).trans hc_100
  have hc_113 : σ_102 (b + 9) = q_an G 100 (fun _ => 0) := (hf_104 _ (by omega)).trans hc_91
  refine A_aload_n hg dX0_init_59 rfl rfl ?_
  refine A_iconst (v := (nI (0))) hg dX0_init_60 (by decide) ?_
  refine A_putf hg fl_RX0_44 dX0_init_61 hc_103 (by omega) (Nat.le_of_ble_eq_true rfl) rfl rfl rfl (fun σ_114 hc_115 hf_116 => ?_)
  have hc_115 : σ_114 b = .inr (0, [.ref (q_h G + (b + 1)), .int (nI (0)), .ref (q_h G + (b + 2)), .int (nI (0)), .int (nI (0)), .int (nI (1)), .ref (q_h G + (b + 8)), .ref (q_h G + (b + 9)), .int (nI (0))]) := hc_115
  have hc_117 : σ_114 (b + 1) = q_rn G 3 4 (fun _ => none) := (hf_116 _ (by omega)).trans hc_105
  have hc_118 : σ_114 (b + 2) = o6 G (b + 2) (nI (0)) (nI (0)) := (hf_116 _ (by omega)).trans hc_106
  have hc_119 : σ_114 (b + 3) = q_an G 8 (fun _ => 0) := (hf_116 _ (by omega)).trans hc_107
  have hc_120 : σ_114 (b + 4) = q_an G 8 (fun _ => 0) := (hf_116 _ (by omega)).trans hc_108
  have hc_121 : σ_114 (b + 5) = q_an G 8 (fun _ => 0) := (hf_116 _ (by omega)).trans hc_109
  have hc_122 : σ_114 (b + 6) = q_an G 8 (fun _ => 0) := (hf_116 _ (by omega)).trans hc_110
  have hc_123 : σ_114 (b + 7) = q_an G 8 (fun _ => 0) := (hf_116 _ (by omega)).trans hc_111
  have hc_124 : σ_114 (b + 8) = q_an G 10 (fun _ => 0) := (hf_116 _ (by omega)).trans hc_112
  have hc_125 : σ_114 (b + 9) = q_an G 100 (fun _ => 0) := (hf_116 _ (by omega)).trans hc_113
  refine A_iconst (v := (nI (0))) hg dX0_init_64 (by decide) ?_
  refine A_istore_n hg dX0_init_65 rfl (by decide) (q_c1d rfl) ?_
  refine A_eq (ls2 := [some (.ref (q_h G + b)), some (.int (nI (0)))]) (st2 := []) (pc2 := 0) rfl rfl ?_
  refine A_iload_n hg dX0_init_66 rfl rfl ?_
  refine A_iconst (v := (nI (4))) hg dX0_init_67 (by decide) ?_
  refine A_icmp_geN (tgt := 90) hg dX0_init_68 (by decide) (by decide) (by decide) (fun c68 => False.elim (by omega)) (fun c68 => ?_)
  refine A_aload_n hg dX0_init_71 rfl rfl ?_
  refine A_getf (v := .ref (q_h G + (b + 1))) hg fl_RX0_11 dX0_init_72 hc_115 (by omega) rfl ?_
  refine A_iload_n hg dX0_init_75 rfl rfl ?_
  refine A_newo (ci := 7) (fs := [.long (lN (0)), .long (lN (0)), .int (nI (0)), .int (nI (0)), .int (nI (0)), .null]) (C := RX7) (T := TX7) (N := 6) hg tyX7 rfl uw_7 tyX7_ok (q_mt 77 (by decide +kernel)) (q_mt 112 (by decide +kernel)) (q_mt 6 (by decide +kernel)) nd_7 (by decide) (by decide) dX0_init_76 (fun σ_126 hc_127 hf_128 => ?_)
  have hc_127 : σ_126 (b + 10) = .inr (7, [.long (lN (0)), .long (lN (0)), .int (nI (0)), .int (nI (0)), .int (nI (0)), .null]) := hc_127
  have hc_129 : σ_126 (b + 1) = q_rn G 3 4 (fun _ => none) := (hf_128 _ (by omega)).trans hc_117
  have hc_130 : σ_126 (b + 2) = o6 G (b + 2) (nI (0)) (nI (0)) := (hf_128 _ (by omega)).trans hc_118
  have hc_131 : σ_126 (b + 3) = q_an G 8 (fun _ => 0) := (hf_128 _ (by omega)).trans hc_119
  have hc_132 : σ_126 (b + 4) = q_an G 8 (fun _ => 0) := (hf_128 _ (by omega)).trans hc_120
  have hc_133 : σ_126 (b + 5) = q_an G 8 (fun _ => 0) := (hf_128 _ (by omega)).trans hc_121
  have hc_134 : σ_126 (b + 6) = q_an G 8 (fun _ => 0) := (hf_128 _ (by omega)).trans hc_122
  have hc_135 : σ_126 (b + 7) = q_an G 8 (fun _ => 0) := (hf_128 _ (by omega)).trans hc_123
  have hc_136 : σ_126 (b + 8) = q_an G 10 (fun _ => 0) := (hf_128 _ (by omega)).trans hc_124
  have hc_137 : σ_126 (b + 9) = q_an G 100 (fun _ => 0) := (hf_128 _ (by omega)).trans hc_125
  have hc_138 : σ_126 b = .inr (0, [.ref (q_h G + (b + 1)), .int (nI (0)), .ref (q_h G + (b + 2)), .int (nI (0)), .int (nI (0)), .int (nI (1)), .ref (q_h G + (b + 8)), .ref (q_h G + (b + 9)), .int (nI (0))]) := (hf_128 _ (by omega)).trans hc_115
  refine A_dup hg dX0_init_79 rfl ?_
  refine A_callI (id := (b + 10)) (As := []) (rest := [.ref (q_h G + (b + 10)), .int (nI (0)), .ref (q_h G + (b + 1))]) hg lk_RX0_47 rfl in_X7_init dX0_init_80 ⟨by decide, by decide⟩ ⟨by decide, by decide⟩ rfl rfl (Nat.le_of_ble_eq_true rfl) (c_X7_init G σ_126 (b + 10) hc_127) q_nx ?_
  rintro _ _ σ_142 ⟨rfl, rfl, hc_139, hc_140, hf_141⟩
  refine (?_ : AJ G K Q 11 172 true (b + 12) 83 [some (.ref (q_h G + b)), some (.int (nI (0)))] [.ref (q_h G + (b + 10)), .int (nI (0)), .ref (q_h G + (b + 1))] σ_142)
  have hc_143 : σ_142 (b + 1) = q_rn G 3 4 (fun _ => none) := (hf_141 _ (by omega)).trans hc_129
  have hc_144 : σ_142 (b + 2) = o6 G (b + 2) (nI (0)) (nI (0)) := (hf_141 _ (by omega)).trans hc_130
  have hc_145 : σ_142 (b + 3) = q_an G 8 (fun _ => 0) := (hf_141 _ (by omega)).trans hc_131
  have hc_146 : σ_142 (b + 4) = q_an G 8 (fun _ => 0) := (hf_141 _ (by omega)).trans hc_132
  have hc_147 : σ_142 (b + 5) = q_an G 8 (fun _ => 0) := (hf_141 _ (by omega)).trans hc_133
  have hc_148 : σ_142 (b + 6) = q_an G 8 (fun _ => 0) := (hf_141 _ (by omega)).trans hc_134
  have hc_149 : σ_142 (b + 7) = q_an G 8 (fun _ => 0) := (hf_141 _ (by omega)).trans hc_135
  have hc_150 : σ_142 (b + 8) = q_an G 10 (fun _ => 0) := (hf_141 _ (by omega)).trans hc_136
  have hc_151 : σ_142 (b + 9) = q_an G 100 (fun _ => 0) := (hf_141 _ (by omega)).trans hc_137
  have hc_152 : σ_142 b = .inr (0, [.ref (q_h G + (b + 1)), .int (nI (0)), .ref (q_h G + (b + 2)), .int (nI (0)), .int (nI (0)), .int (nI (1)), .ref (q_h G + (b + 8)), .ref (q_h G + (b + 9)), .int (nI (0))]) := (hf_141 _ (by omega)).trans hc_138
  refine A_aastR (j := 0) (oid := (b + 10)) hg (by decide) rfl hc_143 (by omega) hc_139 (by omega) rfl (by omega) (by decide) dX0_init_83 (fun σ_153 hc_154 hf_155 => ?_)
  have hc_154 : σ_153 (b + 1) = q_rn G 3 4 (va_up (fun _ => none) 0 (some (b + 10))) := hc_154
  have hc_156 : σ_153 (b + 2) = o6 G (b + 2) (nI (0)) (nI (0)) := (hf_155 _ (by omega)).trans hc_144
  have hc_157 : σ_153 (b + 3) = q_an G 8 (fun _ => 0) := (hf_155 _ (by omega)).trans hc_145
  have hc_158 : σ_153 (b + 4) = q_an G 8 (fun _ => 0) := (hf_155 _ (by omega)).trans hc_146
  have hc_159 : σ_153 (b + 5) = q_an G 8 (fun _ => 0) := (hf_155 _ (by omega)).trans hc_147
  have hc_160 : σ_153 (b + 6) = q_an G 8 (fun _ => 0) := (hf_155 _ (by omega)).trans hc_148
  have hc_161 : σ_153 (b + 7) = q_an G 8 (fun _ => 0) := (hf_155 _ (by omega)).trans hc_149
  have hc_162 : σ_153 (b + 8) = q_an G 10 (fun _ => 0) := (hf_155 _ (by omega)).trans hc_150
  have hc_163 : σ_153 (b + 9) = q_an G 100 (fun _ => 0) := (hf_155 _ (by omega)).trans hc_151
  have hc_164 : σ_153 b = .inr (0, [.ref (q_h G + (b + 1)), .int (nI (0)), .ref (q_h G + (b + 2)), .int (nI (0)), .int (nI (0)), .int (nI (1)), .ref (q_h G + (b + 8)), .ref (q_h G + (b + 9)), .int (nI (0))]) := (hf_155 _ (by omega)).trans hc_152
  have hc_165 : σ_153 (b + 10) = o7 G (b + 10) (lN (0)) (lN (0)) (nI (1)) (nI (40)) (nI (0)) := (hf_155 _ (by omega)).trans hc_139
  have hc_166 : σ_153 (b + 11) = q_an G 5 (fun _ => 0) := (hf_155 _ (by omega)).trans hc_140
  refine A_iincN (k' := 1) hg dX0_init_84 (by decide) rfl (by decide) (q_c1d rfl) ?_
  refine A_eq (ls2 := [some (.ref (q_h G + b)), some (.int (nI (0 + 1)))]) (st2 := []) (pc2 := 0) rfl rfl ?_
  refine A_goto (tgt := 66) hg dX0_init_87 (by decide) ?_
  refine A_eq (ls2 := [some (.ref (q_h G + b)), some (.int (nI (1)))]) (st2 := []) (pc2 := 0) rfl rfl ?_
  refine A_iload_n hg dX0_init_66 rfl rfl ?_
  refine A_iconst (v := (nI (4))) hg dX0_init_67 (by decide) ?_
  refine A_icmp_geN (tgt := 90) hg dX0_init_68 (by decide) (by decide) (by decide) (fun c68 => False.elim (by omega)) (fun c68 => ?_)
  refine A_aload_n hg dX0_init_71 rfl rfl ?_
  refine A_getf (v := .ref (q_h G + (b + 1))) hg fl_RX0_11 dX0_init_72 hc_164 (by omega) rfl ?_
  refine A_iload_n hg dX0_init_75 rfl rfl ?_
  refine A_newo (ci := 7) (fs := [.long (lN (0)), .long (lN (0)), .int (nI (0)), .int (nI (0)), .int (nI (0)), .null]) (C := RX7) (T := TX7) (N := 6) hg tyX7 rfl uw_7 tyX7_ok (q_mt 77 (by decide +kernel)) (q_mt 112 (by decide +kernel)) (q_mt 6 (by decide +kernel)) nd_7 (by decide) (by decide) dX0_init_76 (fun σ_167 hc_168 hf_169 => ?_)
  have hc_168 : σ_167 (b + 12) = .inr (7, [.long (lN (0)), .long (lN (0)), .int (nI (0)), .int (nI (0)), .int (nI (0)), .null]) := hc_168
  have hc_170 : σ_167 (b + 2) = o6 G (b + 2) (nI (0)) (nI (0)) := (hf_169 _ (by omega)).trans hc_156
  have hc_171 : σ_167 (b + 3) = q_an G 8 (fun _ => 0) := (hf_169 _ (by omega)).trans hc_157
  have hc_172 : σ_167 (b + 4) = q_an G 8 (fun _ => 0) := (hf_169 _ (by omega)).trans hc_158
  have hc_173 : σ_167 (b + 5) = q_an G 8 (fun _ => 0) := (hf_169 _ (by omega)).trans hc_159
  have hc_174 : σ_167 (b + 6) = q_an G 8 (fun _ => 0) := (hf_169 _ (by omega)).trans hc_160
  have hc_175 : σ_167 (b + 7) = q_an G 8 (fun _ => 0) := (hf_169 _ (by omega)).trans hc_161
  have hc_176 : σ_167 (b + 8) = q_an G 10 (fun _ => 0) := (hf_169 _ (by omega)).trans hc_162
  have hc_177 : σ_167 (b + 9) = q_an G 100 (fun _ => 0) := (hf_169 _ (by omega)).trans hc_163
  have hc_178 : σ_167 b = .inr (0, [.ref (q_h G + (b + 1)), .int (nI (0)), .ref (q_h G + (b + 2)), .int (nI (0)), .int (nI (0)), .int (nI (1)), .ref (q_h G + (b + 8)), .ref (q_h G + (b + 9)), .int (nI (0))]) := (hf_169 _ (by omega)).trans hc_164
  have hc_179 : σ_167 (b + 10) = o7 G (b + 10) (lN (0)) (lN (0)) (nI (1)) (nI (40)) (nI (0)) := (hf_169 _ (by omega)).trans hc_165
  have hc_180 : σ_167 (b + 11) = q_an G 5 (fun _ => 0) := (hf_169 _ (by omega)).trans hc_166
  have hc_181 : σ_167 (b + 1) = q_rn G 3 4 (va_up (fun _ => none) 0 (some (b + 10))) := (hf_169 _ (by omega)).trans hc_154
  refine A_dup hg dX0_init_79 rfl ?_
  refine A_callI (id := (b + 12)) (As := []) (rest := [.ref (q_h G + (b + 12)), .int (nI (1)), .ref (q_h G + (b + 1))]) hg lk_RX0_47 rfl in_X7_init dX0_init_80 ⟨by decide, by decide⟩ ⟨by decide, by decide⟩ rfl rfl (Nat.le_of_ble_eq_true rfl) (c_X7_init G σ_167 (b + 12) hc_168) q_nx ?_
  rintro _ _ σ_185 ⟨rfl, rfl, hc_182, hc_183, hf_184⟩
  refine (?_ : AJ G K Q 13 183 true (b + 14) 83 [some (.ref (q_h G + b)), some (.int (nI (1)))] [.ref (q_h G + (b + 12)), .int (nI (1)), .ref (q_h G + (b + 1))] σ_185)
  have hc_186 : σ_185 (b + 2) = o6 G (b + 2) (nI (0)) (nI (0)) := (hf_184 _ (by omega)).trans hc_170
  have hc_187 : σ_185 (b + 3) = q_an G 8 (fun _ => 0) := (hf_184 _ (by omega)).trans hc_171
  have hc_188 : σ_185 (b + 4) = q_an G 8 (fun _ => 0) := (hf_184 _ (by omega)).trans hc_172
  have hc_189 : σ_185 (b + 5) = q_an G 8 (fun _ => 0) := (hf_184 _ (by omega)).trans hc_173
  have hc_190 : σ_185 (b + 6) = q_an G 8 (fun _ => 0) := (hf_184 _ (by omega)).trans hc_174
  have hc_191 : σ_185 (b + 7) = q_an G 8 (fun _ => 0) := (hf_184 _ (by omega)).trans hc_175
  have hc_192 : σ_185 (b + 8) = q_an G 10 (fun _ => 0) := (hf_184 _ (by omega)).trans hc_176
  have hc_193 : σ_185 (b + 9) = q_an G 100 (fun _ => 0) := (hf_184 _ (by omega)).trans hc_177
  have hc_194 : σ_185 b = .inr (0, [.ref (q_h G + (b + 1)), .int (nI (0)), .ref (q_h G + (b + 2)), .int (nI (0)), .int (nI (0)), .int (nI (1)), .ref (q_h G + (b + 8)), .ref (q_h G + (b + 9)), .int (nI (0))]) := (hf_184 _ (by omega)).trans hc_178
  have hc_195 : σ_185 (b + 10) = o7 G (b + 10) (lN (0)) (lN (0)) (nI (1)) (nI (40)) (nI (0)) := (hf_184 _ (by omega)).trans hc_179
  have hc_196 : σ_185 (b + 11) = q_an G 5 (fun _ => 0) := (hf_184 _ (by omega)).trans hc_180
  have hc_197 : σ_185 (b + 1) = q_rn G 3 4 (va_up (fun _ => none) 0 (some (b + 10))) := (hf_184 _ (by omega)).trans hc_181
  refine A_aastR (j := 1) (oid := (b + 12)) hg (by decide) rfl hc_197 (by omega) hc_182 (by omega) rfl (by omega) (by decide) dX0_init_83 (fun σ_198 hc_199 hf_200 => ?_)
  have hc_199 : σ_198 (b + 1) = q_rn G 3 4 (va_up (va_up (fun _ => none) 0 (some (b + 10))) 1 (some (b + 12))) := hc_199
  have hc_201 : σ_198 (b + 2) = o6 G (b + 2) (nI (0)) (nI (0)) := (hf_200 _ (by omega)).trans hc_186
  have hc_202 : σ_198 (b + 3) = q_an G 8 (fun _ => 0) := (hf_200 _ (by omega)).trans hc_187
  have hc_203 : σ_198 (b + 4) = q_an G 8 (fun _ => 0) := (hf_200 _ (by omega)).trans hc_188
  have hc_204 : σ_198 (b + 5) = q_an G 8 (fun _ => 0) := (hf_200 _ (by omega)).trans hc_189
  have hc_205 : σ_198 (b + 6) = q_an G 8 (fun _ => 0) := (hf_200 _ (by omega)).trans hc_190
  have hc_206 : σ_198 (b + 7) = q_an G 8 (fun _ => 0) := (hf_200 _ (by omega)).trans hc_191
  have hc_207 : σ_198 (b + 8) = q_an G 10 (fun _ => 0) := (hf_200 _ (by omega)).trans hc_192
  have hc_208 : σ_198 (b + 9) = q_an G 100 (fun _ => 0) := (hf_200 _ (by omega)).trans hc_193
  have hc_209 : σ_198 b = .inr (0, [.ref (q_h G + (b + 1)), .int (nI (0)), .ref (q_h G + (b + 2)), .int (nI (0)), .int (nI (0)), .int (nI (1)), .ref (q_h G + (b + 8)), .ref (q_h G + (b + 9)), .int (nI (0))]) := (hf_200 _ (by omega)).trans hc_194
  have hc_210 : σ_198 (b + 10) = o7 G (b + 10) (lN (0)) (lN (0)) (nI (1)) (nI (40)) (nI (0)) := (hf_200 _ (by omega)).trans hc_195
  have hc_211 : σ_198 (b + 11) = q_an G 5 (fun _ => 0) := (hf_200 _ (by omega)).trans hc_196
  have hc_212 : σ_198 (b + 12) = o7 G (b + 12) (lN (0)) (lN (0)) (nI (1)) (nI (40)) (nI (0)) := (hf_200 _ (by omega)).trans hc_182
  have hc_213 : σ_198 (b + 13) = q_an G 5 (fun _ => 0) := (hf_200 _ (by omega)).trans hc_183
  refine A_iincN (k' := 1) hg dX0_init_84 (by decide) rfl (by decide) (q_c1d rfl) ?_
  refine A_eq (ls2 := [some (.ref (q_h G + b)), some (.int (nI (1 + 1)))]) (st2 := []) (pc2 := 0) rfl rfl ?_
  refine A_goto (tgt := 66) hg dX0_init_87 (by decide) ?_
  refine A_eq (ls2 := [some (.ref (q_h G + b)), some (.int (nI (2)))]) (st2 := []) (pc2 := 0) rfl rfl ?_
  refine A_iload_n hg dX0_init_66 rfl rfl ?_
  refine A_iconst (v := (nI (4))) hg dX0_init_67 (by decide) ?_
  refine A_icmp_geN (tgt := 90) hg dX0_init_68 (by decide) (by decide) (by decide) (fun c68 => False.elim (by omega)) (fun c68 => ?_)
  refine A_aload_n hg dX0_init_71 rfl rfl ?_
  refine A_getf (v := .ref (q_h G + (b + 1))) hg fl_RX0_11 dX0_init_72 hc_209 (by omega) rfl ?_
  refine A_iload_n hg dX0_init_75 rfl rfl ?_
  refine A_newo (ci := 7) (fs := [.long (lN (0)), .long (lN (0)), .int (nI (0)), .int (nI (0)), .int (nI (0)), .null]) (C := RX7) (T := TX7) (N := 6) hg tyX7 rfl uw_7 tyX7_ok (q_mt 77 (by decide +kernel)) (q_mt 112 (by decide +kernel)) (q_mt 6 (by decide +kernel)) nd_7 (by decide) (by decide) dX0_init_76 (fun σ_214 hc_215 hf_216 => ?_)
  have hc_215 : σ_214 (b + 14) = .inr (7, [.long (lN (0)), .long (lN (0)), .int (nI (0)), .int (nI (0)), .int (nI (0)), .null]) := hc_215
  have hc_217 : σ_214 (b + 2) = o6 G (b + 2) (nI (0)) (nI (0)) := (hf_216 _ (by omega)).trans hc_201
  have hc_218 : σ_214 (b + 3) = q_an G 8 (fun _ => 0) := (hf_216 _ (by omega)).trans hc_202
  have hc_219 : σ_214 (b + 4) = q_an G 8 (fun _ => 0) := (hf_216 _ (by omega)).trans hc_203
  have hc_220 : σ_214 (b + 5) = q_an G 8 (fun _ => 0) := (hf_216 _ (by omega)).trans hc_204
  have hc_221 : σ_214 (b + 6) = q_an G 8 (fun _ => 0) := (hf_216 _ (by omega)).trans hc_205
  have hc_222 : σ_214 (b + 7) = q_an G 8 (fun _ => 0) := (hf_216 _ (by omega)).trans hc_206
  have hc_223 : σ_214 (b + 8) = q_an G 10 (fun _ => 0) := (hf_216 _ (by omega)).trans hc_207
  have hc_224 : σ_214 (b + 9) = q_an G 100 (fun _ => 0) := (hf_216 _ (by omega)).trans hc_208
  have hc_225 : σ_214 b = .inr (0, [.ref (q_h G + (b + 1)), .int (nI (0)), .ref (q_h G + (b + 2)), .int (nI (0)), .int (nI (0)), .int (nI (1)), .ref (q_h G + (b + 8)), .ref (q_h G + (b + 9)), .int (nI (0))]) := (hf_216 _ (by omega)).trans hc_209
  have hc_226 : σ_214 (b + 10) = o7 G (b + 10) (lN (0)) (lN (0)) (nI (1)) (nI (40)) (nI (0)) := (hf_216 _ (by omega)).trans hc_210
  have hc_227 : σ_214 (b + 11) = q_an G 5 (fun _ => 0) := (hf_216 _ (by omega)).trans hc_211
  have hc_228 : σ_214 (b + 12) = o7 G (b + 12) (lN (0)) (lN (0)) (nI (1)) (nI (40)) (nI (0)) := (hf_216 _ (by omega)).trans hc_212
  have hc_229 : σ_214 (b + 13) = q_an G 5 (fun _ => 0) := (hf_216 _ (by omega)).trans hc_213
  have hc_230 : σ_214 (b + 1) = q_rn G 3 4 (va_up (va_up (fun _ => none) 0 (some (b + 10))) 1 (some (b + 12))) := (hf_216 _ (by omega)).trans hc_199
  refine A_dup hg dX0_init_79 rfl ?_
  refine A_callI (id := (b + 14)) (As := []) (rest := [.ref (q_h G + (b + 14)), .int (nI (2)), .ref (q_h G + (b + 1))]) hg lk_RX0_47 rfl in_X7_init dX0_init_80 ⟨by decide, by decide⟩ ⟨by decide, by decide⟩ rfl rfl (Nat.le_of_ble_eq_true rfl) (c_X7_init G σ_214 (b + 14) hc_215) q_nx ?_
  rintro _ _ σ_234 ⟨rfl, rfl, hc_231, hc_232, hf_233⟩
  refine (?_ : AJ G K Q 15 194 true (b + 16) 83 [some (.ref (q_h G + b)), some (.int (nI (2)))] [.ref (q_h G + (b + 14)), .int (nI (2)), .ref (q_h G + (b + 1))] σ_234)
  have hc_235 : σ_234 (b + 2) = o6 G (b + 2) (nI (0)) (nI (0)) := (hf_233 _ (by omega)).trans hc_217
  have hc_236 : σ_234 (b + 3) = q_an G 8 (fun _ => 0) := (hf_233 _ (by omega)).trans hc_218
  have hc_237 : σ_234 (b + 4) = q_an G 8 (fun _ => 0) := (hf_233 _ (by omega)).trans hc_219
  have hc_238 : σ_234 (b + 5) = q_an G 8 (fun _ => 0) := (hf_233 _ (by omega)).trans hc_220
  have hc_239 : σ_234 (b + 6) = q_an G 8 (fun _ => 0) := (hf_233 _ (by omega)).trans hc_221
  have hc_240 : σ_234 (b + 7) = q_an G 8 (fun _ => 0) := (hf_233 _ (by omega)).trans hc_222
  have hc_241 : σ_234 (b + 8) = q_an G 10 (fun _ => 0) := (hf_233 _ (by omega)).trans hc_223
  have hc_242 : σ_234 (b + 9) = q_an G 100 (fun _ => 0) := (hf_233 _ (by omega)).trans hc_224
  have hc_243 : σ_234 b = .inr (0, [.ref (q_h G + (b + 1)), .int (nI (0)), .ref (q_h G + (b + 2)), .int (nI (0)), .int (nI (0)), .int (nI (1)), .ref (q_h G + (b + 8)), .ref (q_h G + (b + 9)), .int (nI (0))]) := (hf_233 _ (by omega)).trans hc_225
  have hc_244 : σ_234 (b + 10) = o7 G (b + 10) (lN (0)) (lN (0)) (nI (1)) (nI (40)) (nI (0)) := (hf_233 _ (by omega)).trans hc_226
  have hc_245 : σ_234 (b + 11) = q_an G 5 (fun _ => 0) := (hf_233 _ (by omega)).trans hc_227
  have hc_246 : σ_234 (b + 12) = o7 G (b + 12) (lN (0)) (lN (0)) (nI (1)) (nI (40)) (nI (0)) := (hf_233 _ (by omega)).trans hc_228
  have hc_247 : σ_234 (b + 13) = q_an G 5 (fun _ => 0) := (hf_233 _ (by omega)).trans hc_229
  have hc_248 : σ_234 (b + 1) = q_rn G 3 4 (va_up (va_up (fun _ => none) 0 (some (b + 10))) 1 (some (b + 12))) := (hf_233 _ (by omega)).trans hc_230
  refine A_aastR (j := 2) (oid := (b + 14)) hg (by decide) rfl hc_248 (by omega) hc_231 (by omega) rfl (by omega) (by decide) dX0_init_83 (fun σ_249 hc_250 hf_251 => ?_)
  have hc_250 : σ_249 (b + 1) = q_rn G 3 4 (va_up (va_up (va_up (fun _ => none) 0 (some (b + 10))) 1 (some (b + 12))) 2 (some (b + 14))) := hc_250
  have hc_252 : σ_249 (b + 2) = o6 G (b + 2) (nI (0)) (nI (0)) := (hf_251 _ (by omega)).trans hc_235
  have hc_253 : σ_249 (b + 3) = q_an G 8 (fun _ => 0) := (hf_251 _ (by omega)).trans hc_236
  have hc_254 : σ_249 (b + 4) = q_an G 8 (fun _ => 0) := (hf_251 _ (by omega)).trans hc_237
  have hc_255 : σ_249 (b + 5) = q_an G 8 (fun _ => 0) := (hf_251 _ (by omega)).trans hc_238
  have hc_256 : σ_249 (b + 6) = q_an G 8 (fun _ => 0) := (hf_251 _ (by omega)).trans hc_239
  have hc_257 : σ_249 (b + 7) = q_an G 8 (fun _ => 0) := (hf_251 _ (by omega)).trans hc_240
  have hc_258 : σ_249 (b + 8) = q_an G 10 (fun _ => 0) := (hf_251 _ (by omega)).trans hc_241
  have hc_259 : σ_249 (b + 9) = q_an G 100 (fun _ => 0) := (hf_251 _ (by omega)).trans hc_242
  have hc_260 : σ_249 b = .inr (0, [.ref (q_h G + (b + 1)), .int (nI (0)), .ref (q_h G + (b + 2)), .int (nI (0)), .int (nI (0)), .int (nI (1)), .ref (q_h G + (b + 8)), .ref (q_h G + (b + 9)), .int (nI (0))]) := (hf_251 _ (by omega)).trans hc_243
  have hc_261 : σ_249 (b + 10) = o7 G (b + 10) (lN (0)) (lN (0)) (nI (1)) (nI (40)) (nI (0)) := (hf_251 _ (by omega)).trans hc_244
  have hc_262 : σ_249 (b + 11) = q_an G 5 (fun _ => 0) := (hf_251 _ (by omega)).trans hc_245
  have hc_263 : σ_249 (b + 12) = o7 G (b + 12) (lN (0)) (lN (0)) (nI (1)) (nI (40)) (nI (0)) := (hf_251 _ (by omega)).trans hc_246
  have hc_264 : σ_249 (b + 13) = q_an G 5 (fun _ => 0) := (hf_251 _ (by omega)).trans hc_247
  have hc_265 : σ_249 (b + 14) = o7 G (b + 14) (lN (0)) (lN (0)) (nI (1)) (nI (40)) (nI (0)) := (hf_251 _ (by omega)).trans hc_231
  have hc_266 : σ_249 (b + 15) = q_an G 5 (fun _ => 0) := (hf_251 _ (by omega)).trans hc_232
  refine A_iincN (k' := 1) hg dX0_init_84 (by decide) rfl (by decide) (q_c1d rfl) ?_
  refine A_eq (ls2 := [some (.ref (q_h G + b)), some (.int (nI (2 + 1)))]) (st2 := []) (pc2 := 0) rfl rfl ?_
  refine A_goto (tgt := 66) hg dX0_init_87 (by decide) ?_
  refine A_eq (ls2 := [some (.ref (q_h G + b)), some (.int (nI (3)))]) (st2 := []) (pc2 := 0) rfl rfl ?_
  refine A_iload_n hg dX0_init_66 rfl rfl ?_
  refine A_iconst (v := (nI (4))) hg dX0_init_67 (by decide) ?_
  refine A_icmp_geN (tgt := 90) hg dX0_init_68 (by decide) (by decide) (by decide) (fun c68 => False.elim (by omega)) (fun c68 => ?_)
  refine A_aload_n hg dX0_init_71 rfl rfl ?_
  refine A_getf (v := .ref (q_h G + (b + 1))) hg fl_RX0_11 dX0_init_72 hc_260 (by omega) rfl ?_
  refine A_iload_n hg dX0_init_75 rfl rfl ?_
  refine A_newo (ci := 7) (fs := [.long (lN (0)), .long (lN (0)), .int (nI (0)), .int (nI (0)), .int (nI (0)), .null]) (C := RX7) (T := TX7) (N := 6) hg tyX7 rfl uw_7 tyX7_ok (q_mt 77 (by decide +kernel)) (q_mt 112 (by decide +kernel)) (q_mt 6 (by decide +kernel)) nd_7 (by decide) (by decide) dX0_init_76 (fun σ_267 hc_268 hf_269 => ?_)
  have hc_268 : σ_267 (b + 16) = .inr (7, [.long (lN (0)), .long (lN (0)), .int (nI (0)), .int (nI (0)), .int (nI (0)), .null]) := hc_268
  have hc_270 : σ_267 (b + 2) = o6 G (b + 2) (nI (0)) (nI (0)) := (hf_269 _ (by omega)).trans hc_252
  have hc_271 : σ_267 (b + 3) = q_an G 8 (fun _ => 0) := (hf_269 _ (by omega)).trans hc_253
  have hc_272 : σ_267 (b + 4) = q_an G 8 (fun _ => 0) := (hf_269 _ (by omega)).trans hc_254
  have hc_273 : σ_267 (b + 5) = q_an G 8 (fun _ => 0) := (hf_269 _ (by omega)).trans hc_255
  have hc_274 : σ_267 (b + 6) = q_an G 8 (fun _ => 0) := (hf_269 _ (by omega)).trans hc_256
  have hc_275 : σ_267 (b + 7) = q_an G 8 (fun _ => 0) := (hf_269 _ (by omega)).trans hc_257
  have hc_276 : σ_267 (b + 8) = q_an G 10 (fun _ => 0) := (hf_269 _ (by omega)).trans hc_258
  have hc_277 : σ_267 (b + 9) = q_an G 100 (fun _ => 0) := (hf_269 _ (by omega)).trans hc_259
  have hc_278 : σ_267 b = .inr (0, [.ref (q_h G + (b + 1)), .int (nI (0)), .ref (q_h G + (b + 2)), .int (nI (0)), .int (nI (0)), .int (nI (1)), .ref (q_h G + (b + 8)), .ref (q_h G + (b + 9)), .int (nI (0))]) := (hf_269 _ (by omega)).trans hc_260
  have hc_279 : σ_267 (b + 10) = o7 G (b + 10) (lN (0)) (lN (0)) (nI (1)) (nI (40)) (nI (0)) := (hf_269 _ (by omega)).trans hc_261
  have hc_280 : σ_267 (b + 11) = q_an G 5 (fun _ => 0) := (hf_269 _ (by omega)).trans hc_262
  have hc_281 : σ_267 (b + 12) = o7 G (b + 12) (lN (0)) (lN (0)) (nI (1)) (nI (40)) (nI (0)) := (hf_269 _ (by omega)).trans hc_263
  have hc_282 : σ_267 (b + 13) = q_an G 5 (fun _ => 0) := (hf_269 _ (by omega)).trans hc_264
  have hc_283 : σ_267 (b + 14) = o7 G (b + 14) (lN (0)) (lN (0)) (nI (1)) (nI (40)) (nI (0)) := (hf_269 _ (by omega)).trans hc_265
  have hc_284 : σ_267 (b + 15) = q_an G 5 (fun _ => 0) := (hf_269 _ (by omega)).trans hc_266
  have hc_285 : σ_267 (b + 1) = q_rn G 3 4 (va_up (va_up (va_up (fun _ => none) 0 (some (b + 10))) 1 (some (b + 12))) 2 (some (b + 14))) := (hf_269 _ (by omega)).trans hc_250
  refine A_dup hg dX0_init_79 rfl ?_
  refine A_callI (id := (b + 16)) (As := []) (rest := [.ref (q_h G + (b + 16)), .int (nI (3)), .ref (q_h G + (b + 1))]) hg lk_RX0_47 rfl in_X7_init dX0_init_80 ⟨by decide, by decide⟩ ⟨by decide, by decide⟩ rfl rfl (Nat.le_of_ble_eq_true rfl) (c_X7_init G σ_267 (b + 16) hc_268) q_nx ?_
  rintro _ _ σ_289 ⟨rfl, rfl, hc_286, hc_287, hf_288⟩
  refine (?_ : AJ G K Q 17 205 true (b + 18) 83 [some (.ref (q_h G + b)), some (.int (nI (3)))] [.ref (q_h G + (b + 16)), .int (nI (3)), .ref (q_h G + (b + 1))] σ_289)
  have hc_290 : σ_289 (b + 2) = o6 G (b + 2) (nI (0)) (nI (0)) := (hf_288 _ (by omega)).trans hc_270
  have hc_291 : σ_289 (b + 3) = q_an G 8 (fun _ => 0) := (hf_288 _ (by omega)).trans hc_271
  have hc_292 : σ_289 (b + 4) = q_an G 8 (fun _ => 0) := (hf_288 _ (by omega)).trans hc_272
  have hc_293 : σ_289 (b + 5) = q_an G 8 (fun _ => 0) := (hf_288 _ (by omega)).trans hc_273
  have hc_294 : σ_289 (b + 6) = q_an G 8 (fun _ => 0) := (hf_288 _ (by omega)).trans hc_274
  have hc_295 : σ_289 (b + 7) = q_an G 8 (fun _ => 0) := (hf_288 _ (by omega)).trans hc_275
  have hc_296 : σ_289 (b + 8) = q_an G 10 (fun _ => 0) := (hf_288 _ (by omega)).trans hc_276
  have hc_297 : σ_289 (b + 9) = q_an G 100 (fun _ => 0) := (hf_288 _ (by omega)).trans hc_277
  have hc_298 : σ_289 b = .inr (0, [.ref (q_h G + (b + 1)), .int (nI (0)), .ref (q_h G + (b + 2)), .int (nI (0)), .int (nI (0)), .int (nI (1)), .ref (q_h G + (b + 8)), .ref (q_h G + (b + 9)), .int (nI (0))]) := (hf_288 _ (by omega)).trans hc_278
  have hc_299 : σ_289 (b + 10) = o7 G (b + 10) (lN (0)) (lN (0)) (nI (1)) (nI (40)) (nI (0)) := (hf_288 _ (by omega)).trans hc_279
  have hc_300 : σ_289 (b + 11) = q_an G 5 (fun _ => 0) := (hf_288 _ (by omega)).trans hc_280
  have hc_301 : σ_289 (b + 12) = o7 G (b + 12) (lN (0)) (lN (0)) (nI (1)) (nI (40)) (nI (0)) := (hf_288 _ (by omega)).trans hc_281
  have hc_302 : σ_289 (b + 13) = q_an G 5 (fun _ => 0) := (hf_288 _ (by omega)).trans hc_282
  have hc_303 : σ_289 (b + 14) = o7 G (b + 14) (lN (0)) (lN (0)) (nI (1)) (nI (40)) (nI (0)) := (hf_288 _ (by omega)).trans hc_283
  have hc_304 : σ_289 (b + 15) = q_an G 5 (fun _ => 0) := (hf_288 _ (by omega)).trans hc_284
  have hc_305 : σ_289 (b + 1) = q_rn G 3 4 (va_up (va_up (va_up (fun _ => none) 0 (some (b + 10))) 1 (some (b + 12))) 2 (some (b + 14))) := (hf_288 _ (by omega)).trans hc_285
  refine A_aastR (j := 3) (oid := (b + 16)) hg (by decide) rfl hc_305 (by omega) hc_286 (by omega) rfl (by omega) (by decide) dX0_init_83 (fun σ_306 hc_307 hf_308 => ?_)
  have hc_307 : σ_306 (b + 1) = q_rn G 3 4 (va_up (va_up (va_up (va_up (fun _ => none) 0 (some (b + 10))) 1 (some (b + 12))) 2 (some (b + 14))) 3 (some (b + 16))) := hc_307
  have hc_309 : σ_306 (b + 2) = o6 G (b + 2) (nI (0)) (nI (0)) := (hf_308 _ (by omega)).trans hc_290
  have hc_310 : σ_306 (b + 3) = q_an G 8 (fun _ => 0) := (hf_308 _ (by omega)).trans hc_291
  have hc_311 : σ_306 (b + 4) = q_an G 8 (fun _ => 0) := (hf_308 _ (by omega)).trans hc_292
  have hc_312 : σ_306 (b + 5) = q_an G 8 (fun _ => 0) := (hf_308 _ (by omega)).trans hc_293
  have hc_313 : σ_306 (b + 6) = q_an G 8 (fun _ => 0) := (hf_308 _ (by omega)).trans hc_294
  have hc_314 : σ_306 (b + 7) = q_an G 8 (fun _ => 0) := (hf_308 _ (by omega)).trans hc_295
  have hc_315 : σ_306 (b + 8) = q_an G 10 (fun _ => 0) := (hf_308 _ (by omega)).trans hc_296
  have hc_316 : σ_306 (b + 9) = q_an G 100 (fun _ => 0) := (hf_308 _ (by omega)).trans hc_297
  have hc_317 : σ_306 b = .inr (0, [.ref (q_h G + (b + 1)), .int (nI (0)), .ref (q_h G + (b + 2)), .int (nI (0)), .int (nI (0)), .int (nI (1)), .ref (q_h G + (b + 8)), .ref (q_h G + (b + 9)), .int (nI (0))]) := (hf_308 _ (by omega)).trans hc_298
  have hc_318 : σ_306 (b + 10) = o7 G (b + 10) (lN (0)) (lN (0)) (nI (1)) (nI (40)) (nI (0)) := (hf_308 _ (by omega)).trans hc_299
  have hc_319 : σ_306 (b + 11) = q_an G 5 (fun _ => 0) := (hf_308 _ (by omega)).trans hc_300
  have hc_320 : σ_306 (b + 12) = o7 G (b + 12) (lN (0)) (lN (0)) (nI (1)) (nI (40)) (nI (0)) := (hf_308 _ (by omega)).trans hc_301
  have hc_321 : σ_306 (b + 13) = q_an G 5 (fun _ => 0) := (hf_308 _ (by omega)).trans hc_302
  have hc_322 : σ_306 (b + 14) = o7 G (b + 14) (lN (0)) (lN (0)) (nI (1)) (nI (40)) (nI (0)) := (hf_308 _ (by omega)).trans hc_303
  have hc_323 : σ_306 (b + 15) = q_an G 5 (fun _ => 0) := (hf_308 _ (by omega)).trans hc_304
  have hc_324 : σ_306 (b + 16) = o7 G (b + 16) (lN (0)) (lN (0)) (nI (1)) (nI (40)) (nI (0)) := (hf_308 _ (by omega)).trans hc_286
  have hc_325 : σ_306 (b + 17) = q_an G 5 (fun _ => 0) := (hf_308 _ (by omega)).trans hc_287
  refine A_iincN (k' := 1) hg dX0_init_84 (by decide) rfl (by decide) (q_c1d rfl) ?_
  refine A_eq (ls2 := [some (.ref (q_h G + b)), some (.int (nI (3 + 1)))]) (st2 := []) (pc2 := 0) rfl rfl ?_
  refine A_goto (tgt := 66) hg dX0_init_87 (by decide) ?_
  refine A_eq (ls2 := [some (.ref (q_h G + b)), some (.int (nI (4)))]) (st2 := []) (pc2 := 0) rfl rfl ?_
  refine A_iload_n hg dX0_init_66 rfl rfl ?_
  refine A_iconst (v := (nI (4))) hg dX0_init_67 (by decide) ?_
  refine A_icmp_geN (tgt := 90) hg dX0_init_68 (by decide) (by decide) (by decide) (fun c68 => ?_) (fun c68 => False.elim (by omega))
  refine A_canonR (fun j => some (b + 10 + 2 * j)) hc_307 (x_f4 (P := fun j => _ = some (b + 10 + 2 * j)) rfl rfl rfl rfl) (fun σ_326 hc_327 hf_328 => ?_)
  have hc_329 : σ_326 (b + 2) = o6 G (b + 2) (nI (0)) (nI (0)) := (hf_328 _ (by omega)).trans hc_309
  have hc_330 : σ_326 (b + 3) = q_an G 8 (fun _ => 0) := (hf_328 _ (by omega)).trans hc_310
  have hc_331 : σ_326 (b + 4) = q_an G 8 (fun _ => 0) := (hf_328 _ (by omega)).trans hc_311
  have hc_332 : σ_326 (b + 5) = q_an G 8 (fun _ => 0) := (hf_328 _ (by omega)).trans hc_312
  have hc_333 : σ_326 (b + 6) = q_an G 8 (fun _ => 0) := (hf_328 _ (by omega)).trans hc_313
  have hc_334 : σ_326 (b + 7) = q_an G 8 (fun _ => 0) := (hf_328 _ (by omega)).trans hc_314
  have hc_335 : σ_326 (b + 8) = q_an G 10 (fun _ => 0) := (hf_328 _ (by omega)).trans hc_315
  have hc_336 : σ_326 (b + 9) = q_an G 100 (fun _ => 0) := (hf_328 _ (by omega)).trans hc_316
  have hc_337 : σ_326 b = .inr (0, [.ref (q_h G + (b + 1)), .int (nI (0)), .ref (q_h G + (b + 2)), .int (nI (0)), .int (nI (0)), .int (nI (1)), .ref (q_h G + (b + 8)), .ref (q_h G + (b + 9)), .int (nI (0))]) := (hf_328 _ (by omega)).trans hc_317
  have hc_338 : σ_326 (b + 10) = o7 G (b + 10) (lN (0)) (lN (0)) (nI (1)) (nI (40)) (nI (0)) := (hf_328 _ (by omega)).trans hc_318
  have hc_339 : σ_326 (b + 11) = q_an G 5 (fun _ => 0) := (hf_328 _ (by omega)).trans hc_319
  have hc_340 : σ_326 (b + 12) = o7 G (b + 12) (lN (0)) (lN (0)) (nI (1)) (nI (40)) (nI (0)) := (hf_328 _ (by omega)).trans hc_320
  have hc_341 : σ_326 (b + 13) = q_an G 5 (fun _ => 0) := (hf_328 _ (by omega)).trans hc_321
  have hc_342 : σ_326 (b + 14) = o7 G (b + 14) (lN (0)) (lN (0)) (nI (1)) (nI (40)) (nI (0)) := (hf_328 _ (by omega)).trans hc_322
  have hc_343 : σ_326 (b + 15) = q_an G 5 (fun _ => 0) := (hf_328 _ (by omega)).trans hc_323
  have hc_344 : σ_326 (b + 16) = o7 G (b + 16) (lN (0)) (lN (0)) (nI (1)) (nI (40)) (nI (0)) := (hf_328 _ (by omega)).trans hc_324
  have hc_345 : σ_326 (b + 17) = q_an G 5 (fun _ => 0) := (hf_328 _ (by omega)).trans hc_325
  have hJ9 : x_gj G σ_326 b := ⟨0, 0, 0, 1, 0, 0, 0, fun _ => 0, fun _ => 0, fun _ => 0, fun _ => 0, fun _ => 0, fun _ => 0, fun _ => 0, fun _ => 0, fun _ => 0, fun _ => 1, fun _ => 40, fun _ => 0, fun _ _ => 0, hc_337, hc_327, hc_329, hc_330, hc_331, hc_332, hc_333, hc_334, hc_335, hc_336, (x_f4 (P := fun j9 => σ_326 (b + 10 + 2 * j9) = o7 G (b + 10 + 2 * j9) (lN 0) (lN 0) (nI 1) (nI 40) (nI 0)) hc_338 hc_340 hc_342 hc_344), (x_f4 (P := fun j9 => σ_326 (b + 10 + 2 * j9 + 1) = q_an G 5 (fun _ => 0)) hc_339 hc_341 hc_343 hc_345)⟩
  rw [hQ]
  exact A_returnN hg (by decide) (by decide) rfl dX0_init_90 ⟨rfl, ⟨rfl, hJ9, (fun i hi => ((hf_328 i (by omega)).trans ((hf_308 i (by omega)).trans ((hf_288 i (by omega)).trans ((hf_269 i (by omega)).trans ((hf_251 i (by omega)).trans ((hf_233 i (by omega)).trans ((hf_216 i (by omega)).trans ((hf_200 i (by omega)).trans ((hf_184 i (by omega)).trans ((hf_169 i (by omega)).trans ((hf_155 i (by omega)).trans ((hf_141 i (by omega)).trans ((hf_128 i (by omega)).trans ((hf_116 i (by omega)).trans ((hf_104 i (by omega)).trans ((hf_92 i (by omega)).trans ((hf_81 i (by omega)).trans ((hf_70 i (by omega)).trans ((hf_60 i (by omega)).trans ((hf_50 i (by omega)).trans ((hf_40 i (by omega)).trans ((hf_30 i (by omega)).trans ((hf_24 i (by omega)).trans ((hf_15 i (by omega)).trans ((hf_11 i (by omega)).trans ((hf_7 i (by omega)).trans (hf_3 i (by omega)))))))))))))))))))))))))))))⟩⟩
end
