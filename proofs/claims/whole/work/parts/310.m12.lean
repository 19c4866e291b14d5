section
set_option maxRecDepth 100000 in
set_option maxHeartbeats 4000000 in
theorem c_X11_stickOfI (G : GL) (ex : Bool) (n : Nat) (σ : Nat → va_E) (F : Nat → Int32) (g : Nat → Nat) (p : Nat) (hc0 : σ 279 = o11 G F) (hc1 : σ 280 = q_an G 265 g) (hn : 294 ≤ n) : Ct G yX11_stickOf cX11_stickOf 2 (some .int) ⟨0, 0, 0, 0⟩ [.ref (q_h G + 279), .int (nI (p))] ex n σ (fun v9 σ2 => σ2 = σ ∧ v9 = some (.int ((nI p) - (nI (g 1))))) := by
  refine q_enter [some (.ref (q_h G + 279)), some (.int (nI (p)))] (by decide) (Nat.le_of_ble_eq_true rfl) rfl ?_
  intro K hg
  obtain ⟨Q, hQ⟩ : ∃ Q, Q = q_Q G K ex n 0 0 (fun v9 n' σ' => n' = n ∧ (fun v9 σ2 => σ2 = σ ∧ v9 = some (.int ((nI p) - (nI (g 1))))) v9 σ') q_noX := ⟨_, rfl⟩
  refine (?_ : AJ G K (q_Q G K ex n 0 0 _ _) 0 0 ex n 0 _ _ σ)
  rw [← hQ]
  refine A_iload_n hg dX11_stickOf_0 rfl rfl ?_
  refine A_aload_n hg dX11_stickOf_1 rfl rfl ?_
  refine A_getf (v := .ref (q_h G + 280)) hg fl_RX11_7 dX11_stickOf_2 hc0 (by omega) rfl ?_
  refine A_iconst (v := (nI (1))) hg dX11_stickOf_5 (by decide) ?_
  refine A_iald (j := 1) hg dX11_stickOf_6 hc1 (by omega) (by omega) (by decide) ?_
  refine A_isub hg dX11_stickOf_7 ?_
  rw [hQ]
  exact A_ireturn hg (by decide) (by decide) rfl dX11_stickOf_8 ⟨rfl, ⟨rfl, rfl⟩⟩
set_option maxRecDepth 100000 in
set_option maxHeartbeats 4000000 in
theorem c_X11_ofPart (G : GL) (ex : Bool) (n : Nat) (σ : Nat → va_E) (F : Nat → Int32) (g : Nat → Nat) (va : Nat → Nat) (p : Nat) (x : Nat) (hc0 : σ 279 = o11 G F) (hc1 : σ 280 = q_an G 265 g) (hc2 : σ 289 = q_an G 6724 va) (hn : 294 ≤ n) (hg9 : s_gwf g) (hp : p < s_np g) (hCV : ∀ r : Nat, r < g 0 → ∀ q : Nat, q < 1681 → va (1681 * r + q) = s_V (s_rule g r) q) (hx : x ≤ 8) : Ct G yX11_ofPart cX11_ofPart 5 (some .int) ⟨5, 0, 0, 119⟩ [.ref (q_h G + 279), .int (nI (p)), .int (nI (x))] ex n σ (fun v9 σ2 => σ2 = σ ∧ v9 = some (.int (s_partA g p x))) := by
  refine q_enter [some (.ref (q_h G + 279)), some (.int (nI (p))), some (.int (nI (x))), none, none] (by decide) (Nat.le_of_ble_eq_true rfl) rfl ?_
  intro K hg
  obtain ⟨Q, hQ⟩ : ∃ Q, Q = q_Q G K ex n 0 0 (fun v9 n' σ' => n' = n ∧ (fun v9 σ2 => σ2 = σ ∧ v9 = some (.int (s_partA g p x))) v9 σ') q_noX := ⟨_, rfl⟩
  refine (?_ : AJ G K (q_Q G K ex n 0 0 _ _) 0 0 ex n 0 _ _ σ)
  rw [← hQ]
  have hnp := s_np_le hg9
  have hg1 : g 1 ≤ 4 := hg9.2.1
  have hg2 : g 2 ≤ 4 := hg9.2.2.1
  have hsp : s_np g = g 1 + g 2 := rfl
  have hbd := hg9.2.2.2.2.2.2.1 p
  have hsk := hg9.2.2.2.2.2.2.2 (p - g 1)
  refine A_aload_n hg dX11_ofPart_0 rfl rfl ?_
  refine A_iload_n hg dX11_ofPart_1 rfl rfl ?_
  refine A_eV (kc2 := 0) (ks2 := 0) (As := [.int (nI (p))]) (rest := []) hg lk_RX11_182 in_X11_isBoard se_X11_isBoard rfl dX11_ofPart_2 ⟨by decide, by decide⟩ rfl rfl ⟨by decide, by decide⟩ hc0 (by omega) rfl rfl (Nat.le_of_ble_eq_true rfl) (c_X11_isBoard G ex n σ F g p hc0 hc1 (by omega) (by omega) (by omega)) ?_
  refine A_istore_n hg dX11_ofPart_5 rfl (by decide) (q_c1d rfl) ?_
  refine A_eq (ls2 := [some (.ref (q_h G + 279)), some (.int (nI (p))), some (.int (nI (x))), some (.int (q_b (s_isB g p))), none]) (st2 := []) (pc2 := 0) rfl rfl ?_
  refine A_aload_n hg dX11_ofPart_6 rfl rfl ?_
  refine A_iload_n hg dX11_ofPart_7 rfl rfl ?_
  refine A_eV (kc2 := 0) (ks2 := 0) (As := [.int (nI (p))]) (rest := []) hg lk_RX11_191 in_X11_stickOf se_X11_stickOf rfl dX11_ofPart_8 ⟨by decide, by decide⟩ rfl rfl ⟨by decide, by decide⟩ hc0 (by omega) rfl rfl (Nat.le_of_ble_eq_true rfl) (c_X11_stickOfI G ex n σ F g p hc0 hc1 (by omega)) ?_
  refine A_istore hg dX11_ofPart_11 (by decide) (q_c1d rfl) ?_
  refine A_eq (ls2 := [some (.ref (q_h G + 279)), some (.int (nI (p))), some (.int (nI (x))), some (.int (q_b (s_isB g p))), some (.int ((nI p) - (nI (g 1))))]) (st2 := []) (pc2 := 0) rfl rfl ?_
  refine A_iload_n hg dX11_ofPart_13 rfl rfl ?_
  by_cases hd14 : (nI (x)).toInt < 0 ∨ 7 < (nI (x)).toInt
  · skip
    refine A_tableOut (tgt := 155) hg dX11_ofPart_14 hd14 (by decide) ?_
    refine A_iload_n hg dX11_ofPart_155 rfl rfl ?_
    refine A_if_eqB (tgt := 168) hg dX11_ofPart_156 (by decide) (fun c156 => ?_) (fun c156 => ?_)
    · skip
      have hib : ¬ p < g 1 := of_decide_eq_false c156
      have hsk1 := hsk (by omega)
      rw [pk_sub (show g 1 ≤ p by omega)]
      refine A_iconst (v := (q_d (0))) hg dX11_ofPart_168 (by decide) ?_
      have hx9 : x = 8 := (q_swD (m := 8) hx rfl (by decide) rfl hd14)
      subst hx9
      rw [hQ]
      exact A_ireturn hg (by decide) (by decide) rfl dX11_ofPart_169 ⟨rfl, ⟨rfl, (by show _ = some (Value.int (if p < g 1 then nI (g (133 + 5 * p + 4)) else q_d 0)); first | rw [if_pos hib] | rw [if_neg hib])⟩⟩
    · skip
      have hib : p < g 1 := of_decide_eq_true c156
      have hbd1 := hbd hib
      have hr4 := hg9.1
      refine A_aload_n hg dX11_ofPart_159 rfl rfl ?_
      refine A_iload_n hg dX11_ofPart_160 rfl rfl ?_
      refine A_iconst (v := (nI (4))) hg dX11_ofPart_161 (by decide) ?_
      refine A_eV (kc2 := 0) (ks2 := 0) (As := [.int (nI (p)), .int (nI (4))]) (rest := []) hg lk_RX11_185 in_X11_ofBoard se_X11_ofBoard rfl dX11_ofPart_162 ⟨by decide, by decide⟩ rfl rfl ⟨by decide, by decide⟩ hc0 (by omega) rfl rfl (Nat.le_of_ble_eq_true rfl) (c_X11_ofBoard G ex n σ F g p 4 hc0 hc1 (by omega) (by omega)) ?_
      refine A_goto (tgt := 169) hg dX11_ofPart_165 (by decide) ?_
      have hx9 : x = 8 := (q_swD (m := 8) hx rfl (by decide) rfl hd14)
      subst hx9
      rw [hQ]
      exact A_ireturn hg (by decide) (by decide) rfl dX11_ofPart_169 ⟨rfl, ⟨rfl, (by show _ = some (Value.int (if p < g 1 then nI (g (133 + 5 * p + 4)) else q_d 0)); first | rw [if_pos hib] | rw [if_neg hib])⟩⟩
  · skip
    obtain ⟨k14, hk14, hx14⟩ := q_sw 0 7 hd14
    match k14, hk14, hx14 with
    | 0, _, hx14 =>
      refine A_tableIn (tgt := 60) (off := 46) hg dX11_ofPart_14 (by rw [hx14]; decide) (by rw [hx14]; decide) (by rw [hx14]; rfl) (by decide) ?_
      refine A_iload_n hg dX11_ofPart_60 rfl rfl ?_
      refine A_if_eqB (tgt := 68) hg dX11_ofPart_61 (by decide) (fun c61 => ?_) (fun c61 => ?_)
      · skip
        have hib : ¬ p < g 1 := of_decide_eq_false c61
        have hsk1 := hsk (by omega)
        rw [pk_sub (show g 1 ≤ p by omega)]
        refine A_iconst (v := (nI (1))) hg dX11_ofPart_68 (by decide) ?_
        have hx9 : x = 0 := (q_swN (by omega) hx14)
        subst hx9
        rw [hQ]
        exact A_ireturn hg (by decide) (by decide) rfl dX11_ofPart_69 ⟨rfl, ⟨rfl, (by show _ = some (Value.int (nI (if p < g 1 then 0 else 1))); first | rw [if_pos hib] | rw [if_neg hib])⟩⟩
      · skip
        have hib : p < g 1 := of_decide_eq_true c61
        have hbd1 := hbd hib
        have hr4 := hg9.1
        refine A_iconst (v := (nI (0))) hg dX11_ofPart_64 (by decide) ?_
        refine A_goto (tgt := 69) hg dX11_ofPart_65 (by decide) ?_
        have hx9 : x = 0 := (q_swN (by omega) hx14)
        subst hx9
        rw [hQ]
        exact A_ireturn hg (by decide) (by decide) rfl dX11_ofPart_69 ⟨rfl, ⟨rfl, (by show _ = some (Value.int (nI (if p < g 1 then 0 else 1))); first | rw [if_pos hib] | rw [if_neg hib])⟩⟩
    | 1, _, hx14 =>
      refine A_tableIn (tgt := 70) (off := 56) hg dX11_ofPart_14 (by rw [hx14]; decide) (by rw [hx14]; decide) (by rw [hx14]; rfl) (by decide) ?_
      refine A_iload_n hg dX11_ofPart_70 rfl rfl ?_
      refine A_if_eqB (tgt := 83) hg dX11_ofPart_71 (by decide) (fun c71 => ?_) (fun c71 => ?_)
      · skip
        have hib : ¬ p < g 1 := of_decide_eq_false c71
        have hsk1 := hsk (by omega)
        rw [pk_sub (show g 1 ≤ p by omega)]
        refine A_aload_n hg dX11_ofPart_83 rfl rfl ?_
        refine A_iload hg dX11_ofPart_84 rfl ?_
        refine A_iconst (v := (nI (1))) hg dX11_ofPart_86 (by decide) ?_
        refine A_eV (kc2 := 0) (ks2 := 0) (As := [.int (nI (p - g 1)), .int (nI (1))]) (rest := []) hg lk_RX11_194 in_X11_ofStick se_X11_ofStick rfl dX11_ofPart_87 ⟨by decide, by decide⟩ rfl rfl ⟨by decide, by decide⟩ hc0 (by omega) rfl rfl (Nat.le_of_ble_eq_true rfl) (c_X11_ofStick G ex n σ F g (p - g 1) 1 hc0 hc1 (by omega) (by omega)) ?_
        have hx9 : x = 1 := (q_swN (by omega) hx14)
        subst hx9
        rw [hQ]
        exact A_ireturn hg (by decide) (by decide) rfl dX11_ofPart_90 ⟨rfl, ⟨rfl, (by show _ = some (Value.int (nI (s_kind g p))); first | rw [s_kind, if_pos hib] | rw [s_kind, if_neg hib])⟩⟩
      · skip
        have hib : p < g 1 := of_decide_eq_true c71
        have hbd1 := hbd hib
        have hr4 := hg9.1
        refine A_aload_n hg dX11_ofPart_74 rfl rfl ?_
        refine A_iload_n hg dX11_ofPart_75 rfl rfl ?_
        refine A_iconst (v := (nI (0))) hg dX11_ofPart_76 (by decide) ?_
        refine A_eV (kc2 := 0) (ks2 := 0) (As := [.int (nI (p)), .int (nI (0))]) (rest := []) hg lk_RX11_185 in_X11_ofBoard se_X11_ofBoard rfl dX11_ofPart_77 ⟨by decide, by decide⟩ rfl rfl ⟨by decide, by decide⟩ hc0 (by omega) rfl rfl (Nat.le_of_ble_eq_true rfl) (c_X11_ofBoard G ex n σ F g p 0 hc0 hc1 (by omega) (by omega)) ?_
        refine A_goto (tgt := 90) hg dX11_ofPart_80 (by decide) ?_
        have hx9 : x = 1 := (q_swN (by omega) hx14)
        subst hx9
        rw [hQ]
        exact A_ireturn hg (by decide) (by decide) rfl dX11_ofPart_90 ⟨rfl, ⟨rfl, (by show _ = some (Value.int (nI (s_kind g p))); first | rw [s_kind, if_pos hib] | rw [s_kind, if_neg hib])⟩⟩
    | 2, _, hx14 =>
      refine A_tableIn (tgt := 91) (off := 77) hg dX11_ofPart_14 (by rw [hx14]; decide) (by rw [hx14]; decide) (by rw [hx14]; rfl) (by decide) ?_
      refine A_aload_n hg dX11_ofPart_91 rfl rfl ?_
      refine A_iload_n hg dX11_ofPart_92 rfl rfl ?_
      refine A_eV (kc2 := 0) (ks2 := 0) (As := [.int (nI (p))]) (rest := []) hg lk_RX11_200 in_X11_firstHeap se_X11_firstHeap rfl dX11_ofPart_93 ⟨by decide, by decide⟩ rfl rfl ⟨by decide, by decide⟩ hc0 (by omega) rfl rfl (Nat.le_of_ble_eq_true rfl) (c_X11_firstHeap G ex n σ F g p hc0 hc1 (by omega) hg9 (by omega)) ?_
      have hx9 : x = 2 := (q_swN (by omega) hx14)
      subst hx9
      rw [hQ]
      exact A_ireturn hg (by decide) (by decide) rfl dX11_ofPart_96 ⟨rfl, ⟨rfl, rfl⟩⟩
    | 3, _, hx14 =>
      refine A_tableIn (tgt := 97) (off := 83) hg dX11_ofPart_14 (by rw [hx14]; decide) (by rw [hx14]; decide) (by rw [hx14]; rfl) (by decide) ?_
      refine A_iload_n hg dX11_ofPart_97 rfl rfl ?_
      refine A_if_eqB (tgt := 110) hg dX11_ofPart_98 (by decide) (fun c98 => ?_) (fun c98 => ?_)
      · skip
        have hib : ¬ p < g 1 := of_decide_eq_false c98
        have hsk1 := hsk (by omega)
        rw [pk_sub (show g 1 ≤ p by omega)]
        refine A_iconst (v := (q_d (0))) hg dX11_ofPart_110 (by decide) ?_
        have hx9 : x = 3 := (q_swN (by omega) hx14)
        subst hx9
        rw [hQ]
        exact A_ireturn hg (by decide) (by decide) rfl dX11_ofPart_111 ⟨rfl, ⟨rfl, (by show _ = some (Value.int (if p < g 1 then nI (g (133 + 5 * p + 2)) else q_d 0)); first | rw [if_pos hib] | rw [if_neg hib])⟩⟩
      · skip
        have hib : p < g 1 := of_decide_eq_true c98
        have hbd1 := hbd hib
        have hr4 := hg9.1
        refine A_aload_n hg dX11_ofPart_101 rfl rfl ?_
        refine A_iload_n hg dX11_ofPart_102 rfl rfl ?_
        refine A_iconst (v := (nI (2))) hg dX11_ofPart_103 (by decide) ?_
        refine A_eV (kc2 := 0) (ks2 := 0) (As := [.int (nI (p)), .int (nI (2))]) (rest := []) hg lk_RX11_185 in_X11_ofBoard se_X11_ofBoard rfl dX11_ofPart_104 ⟨by decide, by decide⟩ rfl rfl ⟨by decide, by decide⟩ hc0 (by omega) rfl rfl (Nat.le_of_ble_eq_true rfl) (c_X11_ofBoard G ex n σ F g p 2 hc0 hc1 (by omega) (by omega)) ?_
        refine A_goto (tgt := 111) hg dX11_ofPart_107 (by decide) ?_
        have hx9 : x = 3 := (q_swN (by omega) hx14)
        subst hx9
        rw [hQ]
        exact A_ireturn hg (by decide) (by decide) rfl dX11_ofPart_111 ⟨rfl, ⟨rfl, (by show _ = some (Value.int (if p < g 1 then nI (g (133 + 5 * p + 2)) else q_d 0)); first | rw [if_pos hib] | rw [if_neg hib])⟩⟩
    | 4, _, hx14 =>
      refine A_tableIn (tgt := 112) (off := 98) hg dX11_ofPart_14 (by rw [hx14]; decide) (by rw [hx14]; decide) (by rw [hx14]; rfl) (by decide) ?_
      refine A_aload_n hg dX11_ofPart_112 rfl rfl ?_
      refine A_iload_n hg dX11_ofPart_113 rfl rfl ?_
      refine A_iconst (v := (nI (0))) hg dX11_ofPart_114 (by decide) ?_
      refine A_iconst (v := (nI (0))) hg dX11_ofPart_115 (by decide) ?_
      refine A_eV (kc2 := 0) (ks2 := 0) (As := [.int (nI (p)), .int (nI (0)), .int (nI (0))]) (rest := []) hg lk_RX11_197 in_X11_valueLess se_X11_valueLess rfl dX11_ofPart_116 ⟨by decide, by decide⟩ rfl rfl ⟨by decide, by decide⟩ hc0 (by omega) rfl rfl (Nat.le_of_ble_eq_true rfl) (c_X11_valueLess G ex n σ F g va p 0 0 hc0 hc1 hc2 (by omega) hg9 (by omega) hCV (by omega) (by omega)) ?_
      have hx9 : x = 4 := (q_swN (by omega) hx14)
      subst hx9
      rw [hQ]
      exact A_ireturn hg (by decide) (by decide) rfl dX11_ofPart_119 ⟨rfl, ⟨rfl, rfl⟩⟩
    | 5, _, hx14 =>
      refine A_tableIn (tgt := 120) (off := 106) hg dX11_ofPart_14 (by rw [hx14]; decide) (by rw [hx14]; decide) (by rw [hx14]; rfl) (by decide) ?_
      refine A_aload_n hg dX11_ofPart_120 rfl rfl ?_
      refine A_iload_n hg dX11_ofPart_121 rfl rfl ?_
      refine A_iconst (v := (nI (0))) hg dX11_ofPart_122 (by decide) ?_
      refine A_eV (kc2 := 0) (ks2 := 0) (As := [.int (nI (p)), .int (nI (0))]) (rest := []) hg lk_RX11_212 in_X11_movesOf se_X11_movesOf rfl dX11_ofPart_123 ⟨by decide, by decide⟩ rfl rfl ⟨by decide, by decide⟩ hc0 (by omega) rfl rfl (Nat.le_of_ble_eq_true rfl) (c_X11_movesOf G ex n σ F g va p false hc0 hc1 hc2 (by omega) hg9 (by omega) hCV) ?_
      have hx9 : x = 5 := (q_swN (by omega) hx14)
      subst hx9
      rw [hQ]
      exact A_ireturn hg (by decide) (by decide) rfl dX11_ofPart_126 ⟨rfl, ⟨rfl, rfl⟩⟩
    | 6, _, hx14 =>
      refine A_tableIn (tgt := 127) (off := 113) hg dX11_ofPart_14 (by rw [hx14]; decide) (by rw [hx14]; decide) (by rw [hx14]; rfl) (by decide) ?_
      refine A_aload_n hg dX11_ofPart_127 rfl rfl ?_
      refine A_iload_n hg dX11_ofPart_128 rfl rfl ?_
      refine A_iconst (v := (nI (1))) hg dX11_ofPart_129 (by decide) ?_
      refine A_eV (kc2 := 0) (ks2 := 0) (As := [.int (nI (p)), .int (nI (1))]) (rest := []) hg lk_RX11_212 in_X11_movesOf se_X11_movesOf rfl dX11_ofPart_130 ⟨by decide, by decide⟩ rfl rfl ⟨by decide, by decide⟩ hc0 (by omega) rfl rfl (Nat.le_of_ble_eq_true rfl) (c_X11_movesOf G ex n σ F g va p true hc0 hc1 hc2 (by omega) hg9 (by omega) hCV) ?_
      have hx9 : x = 6 := (q_swN (by omega) hx14)
      subst hx9
      rw [hQ]
      exact A_ireturn hg (by decide) (by decide) rfl dX11_ofPart_133 ⟨rfl, ⟨rfl, rfl⟩⟩
    | 7, _, hx14 =>
      refine A_tableIn (tgt := 134) (off := 120) hg dX11_ofPart_14 (by rw [hx14]; decide) (by rw [hx14]; decide) (by rw [hx14]; rfl) (by decide) ?_
      refine A_iload_n hg dX11_ofPart_134 rfl rfl ?_
      refine A_if_eqB (tgt := 147) hg dX11_ofPart_135 (by decide) (fun c135 => ?_) (fun c135 => ?_)
      · skip
        have hib : ¬ p < g 1 := of_decide_eq_false c135
        have hsk1 := hsk (by omega)
        rw [pk_sub (show g 1 ≤ p by omega)]
        refine A_aload_n hg dX11_ofPart_147 rfl rfl ?_
        refine A_iload hg dX11_ofPart_148 rfl ?_
        refine A_iconst (v := (nI (2))) hg dX11_ofPart_150 (by decide) ?_
        refine A_eV (kc2 := 0) (ks2 := 0) (As := [.int (nI (p - g 1)), .int (nI (2))]) (rest := []) hg lk_RX11_194 in_X11_ofStick se_X11_ofStick rfl dX11_ofPart_151 ⟨by decide, by decide⟩ rfl rfl ⟨by decide, by decide⟩ hc0 (by omega) rfl rfl (Nat.le_of_ble_eq_true rfl) (c_X11_ofStick G ex n σ F g (p - g 1) 2 hc0 hc1 (by omega) (by omega)) ?_
        have hx9 : x = 7 := (q_swN (by omega) hx14)
        subst hx9
        rw [hQ]
        exact A_ireturn hg (by decide) (by decide) rfl dX11_ofPart_154 ⟨rfl, ⟨rfl, (by show _ = some (Value.int (nI (s_tx g p))); first | rw [s_tx, if_pos hib] | rw [s_tx, if_neg hib])⟩⟩
      · skip
        have hib : p < g 1 := of_decide_eq_true c135
        have hbd1 := hbd hib
        have hr4 := hg9.1
        refine A_aload_n hg dX11_ofPart_138 rfl rfl ?_
        refine A_iload_n hg dX11_ofPart_139 rfl rfl ?_
        refine A_iconst (v := (nI (3))) hg dX11_ofPart_140 (by decide) ?_
        refine A_eV (kc2 := 0) (ks2 := 0) (As := [.int (nI (p)), .int (nI (3))]) (rest := []) hg lk_RX11_185 in_X11_ofBoard se_X11_ofBoard rfl dX11_ofPart_141 ⟨by decide, by decide⟩ rfl rfl ⟨by decide, by decide⟩ hc0 (by omega) rfl rfl (Nat.le_of_ble_eq_true rfl) (c_X11_ofBoard G ex n σ F g p 3 hc0 hc1 (by omega) (by omega)) ?_
        refine A_goto (tgt := 154) hg dX11_ofPart_144 (by decide) ?_
        have hx9 : x = 7 := (q_swN (by omega) hx14)
        subst hx9
        rw [hQ]
        exact A_ireturn hg (by decide) (by decide) rfl dX11_ofPart_154 ⟨rfl, ⟨rfl, (by show _ = some (Value.int (nI (s_tx g p))); first | rw [s_tx, if_pos hib] | rw [s_tx, if_neg hib])⟩⟩
    | k + 8, h, _ => exact absurd h (by omega)
set_option maxRecDepth 100000 in
set_option maxHeartbeats 4000000 in
theorem c_X11_part (G : GL) (ex : Bool) (n : Nat) (σ : Nat → va_E) (F : Nat → Int32) (g : Nat → Nat) (f : Nat → Nat) (nv : Nat → Nat) (ns : Nat → Nat) (mk : Nat → Nat) (va : Nat → Nat) (sp : Nat → Nat) (lo : Nat → Nat) (mc : Nat) (z : Nat) (p : Int32) (x : Int32) (hc0 : σ 279 = o11 G F) (hc1 : σ 280 = q_an G 265 g) (hc2 : σ 285 = q_bn G 1681 f) (hc3 : σ 286 = q_an G 1681 nv) (hc4 : σ 287 = q_an G 1681 ns) (hc5 : σ 288 = q_an G 2000 mk) (hc6 : σ 289 = q_an G 6724 va) (hc7 : σ 290 = q_an G 6724 sp) (hc8 : σ 291 = q_an G 80 lo) (hn : 294 ≤ n) (hg9 : s_gwf g) (hmc : mc + 6724 < 2 ^ 31) (hF12 : F 12 = nI mc) (hF16 : F 16 = nI z) (hmk : ∀ v : Nat, v < 2000 → mk v ≤ mc) (hTI : s_TI z lo va sp) (hlo : ∀ j : Nat, j < 80 → lo j < 2 ^ 31) : Ct G yX11_part cX11_part 3 (some .int) ⟨7, 0, 0, 158⟩ [.ref (q_h G + 279), .int (p), .int (x)] ex n σ (fun v9 σ2 => (v9 = some (.int (nI (0))) ∧ (∀ j : Nat, j < s_np g → p = nI j → False) ∧ σ2 279 = o11 G (upd F 7 (nI (1))) ∧ (∀ i : Nat, i ≠ 279 → σ2 i = σ i)) ∨ (∃ (p1 : Nat), v9 = some (.int (nI (0))) ∧ (p = nI p1) ∧ (p1 < s_np g) ∧ (∀ j : Nat, 0 ≤ j → j ≤ 8 → x = nI j → False) ∧ σ2 279 = o11 G (upd F 7 (nI (2))) ∧ (∀ i : Nat, i ≠ 279 → σ2 i = σ i)) ∨ (∃ (p1 : Nat), ∃ (x1 : Nat), ∃ (f' : Nat → Nat), ∃ (nv' : Nat → Nat), ∃ (ns' : Nat → Nat), ∃ (mk' : Nat → Nat), ∃ (va' : Nat → Nat), ∃ (sp' : Nat → Nat), ∃ (lo' : Nat → Nat), ∃ (mc' : Nat), ∃ (z' : Nat), v9 = some (.int (s_partA g p1 x1)) ∧ (p = nI p1) ∧ (p1 < s_np g) ∧ (x = nI x1) ∧ (x1 ≤ 8) ∧ (s_TI z' lo' va' sp') ∧ (mc' ≤ mc + 6724) ∧ (∀ v : Nat, v < 2000 → mk' v ≤ mc') ∧ (∀ j : Nat, j < 80 → lo' j < 2 ^ 31) ∧ σ2 279 = o11 G (upd (upd (upd F 7 (nI (0))) 12 (nI (mc'))) 16 (nI (z'))) ∧ σ2 285 = q_bn G 1681 f' ∧ σ2 286 = q_an G 1681 nv' ∧ σ2 287 = q_an G 1681 ns' ∧ σ2 288 = q_an G 2000 mk' ∧ σ2 289 = q_an G 6724 va' ∧ σ2 290 = q_an G 6724 sp' ∧ σ2 291 = q_an G 80 lo' ∧ (∀ i : Nat, i ≠ 279 ∧ (i < 285 ∨ 291 < i) → σ2 i = σ i))) := by
  refine q_enter [some (.ref (q_h G + 279)), some (.int (p)), some (.int (x))] (by decide) (Nat.le_of_ble_eq_true rfl) rfl ?_
  intro K hg
  obtain ⟨Q, hQ⟩ : ∃ Q, Q = q_Q G K ex n 0 0 (fun v9 n' σ' => n' = n ∧ (fun v9 σ2 => (v9 = some (.int (nI (0))) ∧ (∀ j : Nat, j < s_np g → p = nI j → False) ∧ σ2 279 = o11 G (upd F 7 (nI (1))) ∧ (∀ i : Nat, i ≠ 279 → σ2 i = σ i)) ∨ (∃ (p1 : Nat), v9 = some (.int (nI (0))) ∧ (p = nI p1) ∧ (p1 < s_np g) ∧ (∀ j : Nat, 0 ≤ j → j ≤ 8 → x = nI j → False) ∧ σ2 279 = o11 G (upd F 7 (nI (2))) ∧ (∀ i : Nat, i ≠ 279 → σ2 i = σ i)) ∨ (∃ (p1 : Nat), ∃ (x1 : Nat), ∃ (f' : Nat → Nat), ∃ (nv' : Nat → Nat), ∃ (ns' : Nat → Nat), ∃ (mk' : Nat → Nat), ∃ (va' : Nat → Nat), ∃ (sp' : Nat → Nat), ∃ (lo' : Nat → Nat), ∃ (mc' : Nat), ∃ (z' : Nat), v9 = some (.int (s_partA g p1 x1)) ∧ (p = nI p1) ∧ (p1 < s_np g) ∧ (x = nI x1) ∧ (x1 ≤ 8) ∧ (s_TI z' lo' va' sp') ∧ (mc' ≤ mc + 6724) ∧ (∀ v : Nat, v < 2000 → mk' v ≤ mc') ∧ (∀ j : Nat, j < 80 → lo' j < 2 ^ 31) ∧ σ2 279 = o11 G (upd (upd (upd F 7 (nI (0))) 12 (nI (mc'))) 16 (nI (z'))) ∧ σ2 285 = q_bn G 1681 f' ∧ σ2 286 = q_an G 1681 nv' ∧ σ2 287 = q_an G 1681 ns' ∧ σ2 288 = q_an G 2000 mk' ∧ σ2 289 = q_an G 6724 va' ∧ σ2 290 = q_an G 6724 sp' ∧ σ2 291 = q_an G 80 lo' ∧ (∀ i : Nat, i ≠ 279 ∧ (i < 285 ∨ 291 < i) → σ2 i = σ i))) v9 σ') q_noX := ⟨_, rfl⟩
  refine (?_ : AJ G K (q_Q G K ex n 0 0 _ _) 0 0 ex n 0 _ _ σ)
  rw [← hQ]
  refine A_aload_n hg dX11_part_0 rfl rfl ?_
  refine A_iconst (v := (nI (0))) hg dX11_part_1 (by decide) ?_
  refine A_putf hg fl_RX11_67 dX11_part_2 hc0 (by omega) (Nat.le_of_ble_eq_true rfl) rfl rfl rfl (fun σ_1 hc_2 hf_3 => ?_)
  have hc_2 : σ_1 279 = o11 G (upd F 7 (nI (0))) := hc_2
  have hc_4 : σ_1 280 = q_an G 265 g := (hf_3 _ (by omega)).trans hc1
  have hc_5 : σ_1 285 = q_bn G 1681 f := (hf_3 _ (by omega)).trans hc2
  have hc_6 : σ_1 286 = q_an G 1681 nv := (hf_3 _ (by omega)).trans hc3
  have hc_7 : σ_1 287 = q_an G 1681 ns := (hf_3 _ (by omega)).trans hc4
  have hc_8 : σ_1 288 = q_an G 2000 mk := (hf_3 _ (by omega)).trans hc5
  have hc_9 : σ_1 289 = q_an G 6724 va := (hf_3 _ (by omega)).trans hc6
  have hc_10 : σ_1 290 = q_an G 6724 sp := (hf_3 _ (by omega)).trans hc7
  have hc_11 : σ_1 291 = q_an G 80 lo := (hf_3 _ (by omega)).trans hc8
  refine A_aload_n hg dX11_part_5 rfl rfl ?_
  refine A_iload_n hg dX11_part_6 rfl rfl ?_
  refine A_hV (kc2 := 0) (ks2 := 0) (As := [.int (p)]) (rest := []) hg lk_RX11_418 in_X11_noPart se_X11_noPart rfl dX11_part_7 ⟨by decide, by decide⟩ rfl rfl ⟨by decide, by decide⟩ hc_2 (by omega) rfl rfl (Nat.le_of_ble_eq_true rfl) (c_X11_noPart G ex n σ_1 (upd F 7 (nI (0))) g p hc_2 hc_4 (by omega) (s_np_le hg9)) ?_
  rintro _ σ_15 (⟨rfl, hno, hc_12, hf_13⟩ | ⟨p1, rfl, hpe, hpl, he_14⟩)
  · skip
    refine (?_ : AJ G K Q 0 0 ex n 10 [some (.ref (q_h G + 279)), some (.int (p)), some (.int (x))] [.int (nI (1))] σ_15)
    have hc_12 : σ_15 279 = o11 G (upd F 7 (nI (1))) := hc_12
    have hc_16 : σ_15 280 = q_an G 265 g := (hf_13 _ (by omega)).trans hc_4
    have hc_17 : σ_15 285 = q_bn G 1681 f := (hf_13 _ (by omega)).trans hc_5
    have hc_18 : σ_15 286 = q_an G 1681 nv := (hf_13 _ (by omega)).trans hc_6
    have hc_19 : σ_15 287 = q_an G 1681 ns := (hf_13 _ (by omega)).trans hc_7
    have hc_20 : σ_15 288 = q_an G 2000 mk := (hf_13 _ (by omega)).trans hc_8
    have hc_21 : σ_15 289 = q_an G 6724 va := (hf_13 _ (by omega)).trans hc_9
    have hc_22 : σ_15 290 = q_an G 6724 sp := (hf_13 _ (by omega)).trans hc_10
    have hc_23 : σ_15 291 = q_an G 80 lo := (hf_13 _ (by omega)).trans hc_11
    refine A_if_neN (tgt := 36) hg dX11_part_10 (by decide) (by decide) (fun c10 => ?_) (fun c10 => absurd c10 (by decide))
    refine A_iconst (v := (nI (0))) hg dX11_part_36 (by decide) ?_
    rw [hQ]
    exact A_ireturn hg (by decide) (by decide) rfl dX11_part_37 ⟨rfl, Or.inl (⟨rfl, (by first | rfl | assumption | omega), hc_12, (fun i hi => ((hf_13 i (by omega)).trans (hf_3 i (by omega))))⟩)⟩
  · skip
    rw [he_14]
    refine (?_ : AJ G K Q 0 0 ex n 10 [some (.ref (q_h G + 279)), some (.int (p)), some (.int (x))] [.int (nI (0))] σ_1)
    refine A_if_neN (tgt := 36) hg dX11_part_10 (by decide) (by decide) (fun c10 => absurd (by decide) c10) (fun c10 => ?_)
    subst hpe
    refine A_aload_n hg dX11_part_13 rfl rfl ?_
    refine A_iload_n hg dX11_part_14 rfl rfl ?_
    refine A_iconst (v := (nI (0))) hg dX11_part_15 (by decide) ?_
    refine A_bipush (v := (nI (8))) hg dX11_part_16 (by decide) ?_
    refine A_eS (kc2 := 0) (ks2 := 0) (As := [.int (x), .int (nI (0)), .int (nI (8))]) (rest := [.ref (q_h G + 279)]) hg lk_RX11_77 st_X11_inRange dX11_part_18 ⟨by decide, by decide⟩ rfl rfl ⟨by decide, by decide⟩ rfl rfl (Nat.le_of_ble_eq_true rfl) (c_X11_inRange G ex n σ_1 x (nI (0)) (nI (8))) ?_
    refine A_if_neB (tgt := 28) hg dX11_part_21 (by decide) (fun c21 => ?_) (fun c21 => ?_)
    · skip
      refine A_iconst (v := (nI (0))) hg dX11_part_28 (by decide) ?_
      refine A_iconst (v := (nI (2))) hg dX11_part_29 (by decide) ?_
      refine A_eV (kc2 := 0) (ks2 := 0) (As := [.int (nI (0)), .int (nI (2))]) (rest := []) hg lk_RX11_81 in_X11_fails se_X11_fails rfl dX11_part_30 ⟨by decide, by decide⟩ rfl rfl ⟨by decide, by decide⟩ hc_2 (by omega) rfl rfl (Nat.le_of_ble_eq_true rfl) (c_X11_fails0 G ex n σ_1 (upd F 7 (nI (0))) (nI (2)) hc_2 (by omega)) ?_
      refine A_if_eqN (tgt := 38) hg dX11_part_33 (by decide) (by decide) (fun c33 => ?_) (fun c33 => absurd (by decide) c33)
      obtain ⟨x1, hxe, -, hxl⟩ := q_in_nat (by decide) c21 (by decide)
      subst hxe
      refine A_aload_n hg dX11_part_38 rfl rfl ?_
      refine A_vV (kc2 := 0) (ks2 := 0) (As := []) (rest := []) hg lk_RX11_389 in_X11_laysAll se_X11_laysAll rfl dX11_part_39 ⟨by decide, by decide⟩ rfl rfl ⟨by decide, by decide⟩ hc_2 (by omega) rfl rfl (Nat.le_of_ble_eq_true rfl) (c_X11_laysAll G ex n σ_1 (upd F 7 (nI (0))) g f nv ns mk va sp lo mc z hc_2 hc_4 hc_5 hc_6 hc_7 hc_8 hc_9 hc_10 hc_11 (by omega) hg9.1 hg9.2.2.2.2.2.1 (by omega) hF12 hF16 hmk hTI hlo) ?_
      rintro σ_33 ⟨f', nv', ns', mk', va', sp', lo', mc', z', hTI2, hCU2, hmc2, hmk2, hlo2, hc_24, hc_25, hc_26, hc_27, hc_28, hc_29, hc_30, hc_31, hf_32⟩
      have hc_24 : σ_33 279 = o11 G (upd (upd (upd F 7 (nI (0))) 12 (nI (mc'))) 16 (nI (z'))) := hc_24
      have hc_34 : σ_33 280 = q_an G 265 g := (hf_32 _ (by omega)).trans hc_4
      have hCV2 : ∀ r : Nat, r < g 0 → ∀ q : Nat, q < 1681 → va' (1681 * r + q) = s_V (s_rule g r) q := fun r hr q hq => (hCU2 r hr q hq).1
      refine A_aload_n hg dX11_part_42 rfl rfl ?_
      refine A_iload_n hg dX11_part_43 rfl rfl ?_
      refine A_iload_n hg dX11_part_44 rfl rfl ?_
      refine A_eV (kc2 := 0) (ks2 := 0) (As := [.int (nI (p1)), .int (nI (x1))]) (rest := []) hg lk_RX11_421 in_X11_ofPart se_X11_ofPart rfl dX11_part_45 ⟨by decide, by decide⟩ rfl rfl ⟨by decide, by decide⟩ hc_24 (by omega) rfl rfl (Nat.le_of_ble_eq_true rfl) (c_X11_ofPart G ex n σ_33 (upd (upd (upd F 7 (nI (0))) 12 (nI (mc'))) 16 (nI (z'))) g va' p1 x1 hc_24 hc_34 hc_29 (by omega) hg9 hpl hCV2 hxl) ?_
      rw [hQ]
      exact A_ireturn hg (by decide) (by decide) rfl dX11_part_48 ⟨rfl, Or.inr (Or.inr ((⟨p1, x1, f', nv', ns', mk', va', sp', lo', mc', z', rfl, (by first | rfl | assumption | omega), (by first | rfl | assumption | omega), (by first | rfl | assumption | omega), (by first | rfl | assumption | omega), hTI2, hmc2, hmk2, hlo2, hc_24, hc_25, hc_26, hc_27, hc_28, hc_29, hc_30, hc_31, (fun i hi => ((hf_32 i (by omega)).trans (hf_3 i (by omega))))⟩)))⟩
    · skip
      refine A_iconst (v := (nI (1))) hg dX11_part_24 (by decide) ?_
      refine A_goto (tgt := 29) hg dX11_part_25 (by decide) ?_
      refine A_iconst (v := (nI (2))) hg dX11_part_29 (by decide) ?_
      refine A_hV (kc2 := 0) (ks2 := 0) (As := [.int (nI (1)), .int (nI (2))]) (rest := []) hg lk_RX11_81 in_X11_fails se_X11_fails rfl dX11_part_30 ⟨by decide, by decide⟩ rfl rfl ⟨by decide, by decide⟩ hc_2 (by omega) rfl rfl (Nat.le_of_ble_eq_true rfl) (c_X11_fails1 G ex n σ_1 (upd F 7 (nI (0))) 2 hc_2 (by omega)) ?_
      rintro _ σ_37 ⟨rfl, hc_35, hf_36⟩
      refine (?_ : AJ G K Q 0 0 ex n 33 [some (.ref (q_h G + 279)), some (.int (nI (p1))), some (.int (x))] [.int (nI (1))] σ_37)
      have hc_35 : σ_37 279 = o11 G (upd F 7 (nI (2))) := hc_35
      have hc_38 : σ_37 280 = q_an G 265 g := (hf_36 _ (by omega)).trans hc_4
      have hc_39 : σ_37 285 = q_bn G 1681 f := (hf_36 _ (by omega)).trans hc_5
      have hc_40 : σ_37 286 = q_an G 1681 nv := (hf_36 _ (by omega)).trans hc_6
      have hc_41 : σ_37 287 = q_an G 1681 ns := (hf_36 _ (by omega)).trans hc_7
      have hc_42 : σ_37 288 = q_an G 2000 mk := (hf_36 _ (by omega)).trans hc_8
      have hc_43 : σ_37 289 = q_an G 6724 va := (hf_36 _ (by omega)).trans hc_9
      have hc_44 : σ_37 290 = q_an G 6724 sp := (hf_36 _ (by omega)).trans hc_10
      have hc_45 : σ_37 291 = q_an G 80 lo := (hf_36 _ (by omega)).trans hc_11
      refine A_if_eqN (tgt := 38) hg dX11_part_33 (by decide) (by decide) (fun c33 => absurd c33 (by decide)) (fun c33 => ?_)
      refine A_iconst (v := (nI (0))) hg dX11_part_36 (by decide) ?_
      rw [hQ]
      exact A_ireturn hg (by decide) (by decide) rfl dX11_part_37 ⟨rfl, Or.inr (Or.inl (⟨p1, rfl, (by first | rfl | assumption | omega), (by first | rfl | assumption | omega), (q_range_f (by decide) c21), hc_35, (fun i hi => ((hf_36 i (by omega)).trans (hf_3 i (by omega))))⟩))⟩
end
