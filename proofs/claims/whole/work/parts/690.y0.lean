section
theorem iv_up0 {α : Type} {f : Nat → α} {v : α} : va_up f 0 v 0 = v := if_pos rfl
theorem iv_inr {p : PR} {g g2 : Nat → Nat} {t t2 : Nat} (h : p = .inr (g, t)) (h2 : p = .inr (g2, t2)) : g = g2 := by
  rw [h] at h2; cases h2; rfl
theorem iv_inl {p : PR} {c c2 o o2 : Nat} (h : p = .inl (c, o)) (h2 : p = .inl (c2, o2)) : c = c2 ∧ o = o2 := by
  rw [h] at h2; cases h2; exact ⟨rfl, rfl⟩
theorem iv_inx {p : PR} {e : Nat × Nat} {q : (Nat → Nat) × Nat} (h : p = .inl e) (h2 : p = .inr q) : False := by
  rw [h] at h2; cases h2
theorem iv_ref {g : Nat → Nat} {p a b : Nat} (h : s_ref g p a b = 0) : a ≤ s_x g p ∧ b ≤ s_y g p := by
  by_cases h1 : a = 0 ∧ b = 0
  · rw [s_ref_1 h1] at h; cases h
  · by_cases h2 : s_x g p < a ∨ s_y g p < b
    · rw [s_ref_2 h1 h2] at h; cases h
    · omega
theorem iv_sn (v : Nat) : s_sn v ≤ v := s_first_le _ _
theorem iv_refI {g : Nat → Nat} {p a b : Nat} {k l : Int32} (hk : k = nI a) (hl : l = nI b) (ha : a < 2 ^ 31) (hb : b < 2 ^ 31) (h : s_ref g p a b = 0) (hn : ¬ s_refI g p k l = 0) : False := hn (by rw [hk, hl, s_refI_n ha hb]; exact h)
theorem iv_el {G : GL} {σ : Nat → va_E} {J : Nat} {P : Prop} (h : iv G σ J) (k : ∀ (il : Nat) (z2 : Int32) (z3 : Int32) (f : Nat → Nat) (lo : Nat) (o : Nat → Nat) (g : Nat → Nat) (nx : Nat) (m : Nat) (ps : Nat → Nat → Nat) (kp : Nat → Nat) (sn : Nat → Nat → Nat) (F : Nat → Int32) (wk : Nat → Nat) (as : Nat → Nat) (sh : Nat → Nat) (a : Nat → Nat) (fb : Nat → Nat) (nv : Nat → Nat) (ns : Nat → Nat) (mk : Nat → Nat) (va : Nat → Nat) (sp : Nat → Nat) (lp : Nat → Nat) (mc : Nat) (z : Nat) (ss : Nat) (ou : Nat → Nat) (oL : Nat → Int64) (oD : Nat → UInt64), σ 0 = o10 G (nI (il)) (z2) (z3) → σ 1 = q_an G 600 f → σ 23 = o5 G (23) (nI (lo)) → σ 24 = q_an G 256 o → σ 224 = q_rn G 2 2 (fun j => some (243 + 18 * j)) → σ 225 = q_bn G 2 kp → σ 279 = o11 G F → σ 280 = q_an G 265 g → σ 281 = q_an G 265 wk → σ 282 = q_an G 265 as → σ 283 = q_an G 530 sh → σ 284 = q_an G 2120 a → σ 285 = q_bn G 1681 fb → σ 286 = q_an G 1681 nv → σ 287 = q_an G 1681 ns → σ 288 = q_an G 2000 mk → σ 289 = q_an G 6724 va → σ 290 = q_an G 6724 sp → σ 291 = q_an G 80 lp → σ 292 = q_an G 600 f → σ 293 = q_an G 300 ou → σ 294 = q_ln G 1 oL → σ 295 = q_dn G 1 oD → (x_lj G σ) → (x_gm G σ 25 g) → (x_mx G σ) → (x_hi G σ nx m ps) → (x_oj G σ) → (x_pj G σ) → (x_hn G σ) → (∀ j : Nat, j < 2 → x_gj G σ (243 + 18 * j)) → (∀ j : Nat, j < 2 → kp j = 1 → x_gm G σ (243 + 18 * j) (sn j)) → (il ≤ 600) → (∀ k : Nat, f k < 256) → (lo ≤ 256) → (∀ j : Nat, j < lo → ou j = o j) → (x_gbd g) → (∀ i : Nat, i < m → (∀ j : Nat, j < 265 → a (265 * i + j) = ps i j) ∧ x_gbd (ps i)) → (∀ j : Nat, j < 2 → kp j ≤ 1) → (∀ j : Nat, j < 2 → (kp j = 1 ↔ ss.testBit j = true)) → (ss < 4) → (∀ j : Nat, j < 2 → kp j = 1 → (∀ q : Nat, q < 265 → sh (265 * j + q) = sn j q) ∧ x_gbd (sn j)) → (F 5 = nI m) → (F 6 = nI ss) → (F 12 = nI mc) → (F 16 = nI z) → (F 21 = nI il) → (F 22 = z2) → (F 23 = z3) → (F 33 = nI lo) → (mc ≤ 6724 * J) → (∀ v : Nat, v < 2000 → mk v ≤ mc) → (s_TI z lp va sp) → (∀ j : Nat, j < 80 → lp j < 2 ^ 31) → P) : P := by
  obtain ⟨il, z2, z3, f, lo, o, g, nx, m, ps, kp, sn, F, wk, as, sh, a, fb, nv, ns, mk, va, sp, lp, mc, z, ss, ou, oL, oD, q0, q1, q2, q3, q4, q5, q6, q7, q8, q9, q10, q11, q12, q13, q14, q15, q16, q17, q18, q19, q20, q21, q22, q23, q24, q25, q26, q27, q28, q29, q30, q31, q32, q33, q34, q35, q36, q37, q38, q39, q40, q41, q42, q43, q44, q45, q46, q47, q48, q49, q50, q51, q52, q53⟩ := h
  exact k il z2 z3 f lo o g nx m ps kp sn F wk as sh a fb nv ns mk va sp lp mc z ss ou oL oD q0 q1 q2 q3 q4 q5 q6 q7 q8 q9 q10 q11 q12 q13 q14 q15 q16 q17 q18 q19 q20 q21 q22 q23 q24 q25 q26 q27 q28 q29 q30 q31 q32 q33 q34 q35 q36 q37 q38 q39 q40 q41 q42 q43 q44 q45 q46 q47 q48 q49 q50 q51 q52 q53
theorem iv_mk {G : GL} {σ : Nat → va_E} {J : Nat} (il : Nat) (z2 : Int32) (z3 : Int32) (f : Nat → Nat) (lo : Nat) (o : Nat → Nat) (g : Nat → Nat) (nx : Nat) (m : Nat) (ps : Nat → Nat → Nat) (kp : Nat → Nat) (sn : Nat → Nat → Nat) (F : Nat → Int32) (wk : Nat → Nat) (as : Nat → Nat) (sh : Nat → Nat) (a : Nat → Nat) (fb : Nat → Nat) (nv : Nat → Nat) (ns : Nat → Nat) (mk : Nat → Nat) (va : Nat → Nat) (sp : Nat → Nat) (lp : Nat → Nat) (mc : Nat) (z : Nat) (ss : Nat) (ou : Nat → Nat) (oL : Nat → Int64) (oD : Nat → UInt64) (q0 : σ 0 = o10 G (nI (il)) (z2) (z3)) (q1 : σ 1 = q_an G 600 f) (q2 : σ 23 = o5 G (23) (nI (lo))) (q3 : σ 24 = q_an G 256 o) (q4 : σ 224 = q_rn G 2 2 (fun j => some (243 + 18 * j))) (q5 : σ 225 = q_bn G 2 kp) (q6 : σ 279 = o11 G F) (q7 : σ 280 = q_an G 265 g) (q8 : σ 281 = q_an G 265 wk) (q9 : σ 282 = q_an G 265 as) (q10 : σ 283 = q_an G 530 sh) (q11 : σ 284 = q_an G 2120 a) (q12 : σ 285 = q_bn G 1681 fb) (q13 : σ 286 = q_an G 1681 nv) (q14 : σ 287 = q_an G 1681 ns) (q15 : σ 288 = q_an G 2000 mk) (q16 : σ 289 = q_an G 6724 va) (q17 : σ 290 = q_an G 6724 sp) (q18 : σ 291 = q_an G 80 lp) (q19 : σ 292 = q_an G 600 f) (q20 : σ 293 = q_an G 300 ou) (q21 : σ 294 = q_ln G 1 oL) (q22 : σ 295 = q_dn G 1 oD) (q23 : (x_lj G σ)) (q24 : (x_gm G σ 25 g)) (q25 : (x_mx G σ)) (q26 : (x_hi G σ nx m ps)) (q27 : (x_oj G σ)) (q28 : (x_pj G σ)) (q29 : (x_hn G σ)) (q30 : (∀ j : Nat, j < 2 → x_gj G σ (243 + 18 * j))) (q31 : (∀ j : Nat, j < 2 → kp j = 1 → x_gm G σ (243 + 18 * j) (sn j))) (q32 : (il ≤ 600)) (q33 : (∀ k : Nat, f k < 256)) (q34 : (lo ≤ 256)) (q35 : (∀ j : Nat, j < lo → ou j = o j)) (q36 : (x_gbd g)) (q37 : (∀ i : Nat, i < m → (∀ j : Nat, j < 265 → a (265 * i + j) = ps i j) ∧ x_gbd (ps i))) (q38 : (∀ j : Nat, j < 2 → kp j ≤ 1)) (q39 : (∀ j : Nat, j < 2 → (kp j = 1 ↔ ss.testBit j = true))) (q40 : (ss < 4)) (q41 : (∀ j : Nat, j < 2 → kp j = 1 → (∀ q : Nat, q < 265 → sh (265 * j + q) = sn j q) ∧ x_gbd (sn j))) (q42 : (F 5 = nI m)) (q43 : (F 6 = nI ss)) (q44 : (F 12 = nI mc)) (q45 : (F 16 = nI z)) (q46 : (F 21 = nI il)) (q47 : (F 22 = z2)) (q48 : (F 23 = z3)) (q49 : (F 33 = nI lo)) (q50 : (mc ≤ 6724 * J)) (q51 : (∀ v : Nat, v < 2000 → mk v ≤ mc)) (q52 : (s_TI z lp va sp)) (q53 : (∀ j : Nat, j < 80 → lp j < 2 ^ 31)) : iv G σ J :=
  ⟨il, z2, z3, f, lo, o, g, nx, m, ps, kp, sn, F, wk, as, sh, a, fb, nv, ns, mk, va, sp, lp, mc, z, ss, ou, oL, oD, q0, q1, q2, q3, q4, q5, q6, q7, q8, q9, q10, q11, q12, q13, q14, q15, q16, q17, q18, q19, q20, q21, q22, q23, q24, q25, q26, q27, q28, q29, q30, q31, q32, q33, q34, q35, q36, q37, q38, q39, q40, q41, q42, q43, q44, q45, q46, q47, q48, q49, q50, q51, q52, q53⟩
set_option maxRecDepth 100000 in
set_option maxHeartbeats 4000000 in
theorem c_X11_barB (G : GL) (ex : Bool) (n : Nat) (σ : Nat → va_E) (F : Nat → Int32) (g : Nat → Nat) (a : Nat → Nat) (m : Nat) (r : Int32) (k : Int32) (l : Int32) (s : Bool) (hc0 : σ 279 = o11 G F) (hc1 : σ 280 = q_an G 265 g) (hc2 : σ 284 = q_an G 2120 a) (hn : 294 ≤ n) (hg9 : s_gwf g) (hF5 : F 5 = nI m) (hm8 : m ≤ 8) : Ct G yX11_bar cX11_bar 6 (some .int) ⟨3, 0, 0, 66⟩ [.ref (q_h G + 279), .int (r), .int (k), .int (l), .int (q_b (s))] ex n σ (fun v9 σ2 => (v9 = some (.int (nI (0))) ∧ (∀ j : Nat, j < g 0 → r = nI j → False) ∧ σ2 279 = o11 G (upd F 7 (nI (1))) ∧ (∀ i : Nat, i ≠ 279 → σ2 i = σ i)) ∨ (∃ (r1 : Nat), v9 = some (.int (nI (0))) ∧ (r = nI r1) ∧ (r1 < g 0) ∧ (∀ a b : Nat, a ≤ 40 → b ≤ 40 → 0 < a + b → k = nI a → l = nI b → False) ∧ σ2 279 = o11 G (upd F 7 (nI (2))) ∧ (∀ i : Nat, i ≠ 279 → σ2 i = σ i)) ∨ (∃ (r1 : Nat), ∃ (a1 : Nat), ∃ (b1 : Nat), v9 = some (.int (nI (0))) ∧ (r = nI r1) ∧ (r1 < g 0) ∧ (k = nI a1) ∧ (l = nI b1) ∧ (a1 ≤ 40) ∧ (b1 ≤ 40) ∧ (0 < a1 + b1) ∧ (s = true) ∧ (s_barred (s_rule g r1) a1 b1 = false) ∧ (s_rule g r1 20 = 4) ∧ σ2 279 = o11 G (upd F 7 (nI (3))) ∧ (∀ i : Nat, i ≠ 279 → σ2 i = σ i)) ∨ (∃ (r1 : Nat), ∃ (a1 : Nat), ∃ (b1 : Nat), ∃ (a' : Nat → Nat), v9 = some (.int (nI (s_rule (s_barG g r1 s a1 b1) r1 20))) ∧ (r = nI r1) ∧ (r1 < g 0) ∧ (k = nI a1) ∧ (l = nI b1) ∧ (a1 ≤ 40) ∧ (b1 ≤ 40) ∧ (0 < a1 + b1) ∧ (∀ j : Nat, j < 265 → a' (265 * s_pmany m + j) = g j) ∧ (∀ j : Nat, j < 265 * s_pmany m → a' j = s_pshift a m j) ∧ (s = true → s_barred (s_rule g r1) a1 b1 = false → s_rule g r1 20 < 4) ∧ σ2 279 = o11 G (upd (upd F 5 (nI (s_pmany m + 1))) 7 (nI (0))) ∧ σ2 280 = q_an G 265 (s_barG g r1 s a1 b1) ∧ σ2 284 = q_an G 2120 a' ∧ (∀ i : Nat, i ≠ 279 ∧ i ≠ 280 ∧ i ≠ 284 → σ2 i = σ i))) := by
  refine q_enter [some (.ref (q_h G + 279)), some (.int (r)), some (.int (k)), some (.int (l)), some (.int (q_b (s))), none] (by decide) (Nat.le_of_ble_eq_true rfl) rfl ?_
  intro K hg
  obtain ⟨Q, hQ⟩ : ∃ Q, Q = q_Q G K ex n 0 0 (fun v9 n' σ' => n' = n ∧ (fun v9 σ2 => (v9 = some (.int (nI (0))) ∧ (∀ j : Nat, j < g 0 → r = nI j → False) ∧ σ2 279 = o11 G (upd F 7 (nI (1))) ∧ (∀ i : Nat, i ≠ 279 → σ2 i = σ i)) ∨ (∃ (r1 : Nat), v9 = some (.int (nI (0))) ∧ (r = nI r1) ∧ (r1 < g 0) ∧ (∀ a b : Nat, a ≤ 40 → b ≤ 40 → 0 < a + b → k = nI a → l = nI b → False) ∧ σ2 279 = o11 G (upd F 7 (nI (2))) ∧ (∀ i : Nat, i ≠ 279 → σ2 i = σ i)) ∨ (∃ (r1 : Nat), ∃ (a1 : Nat), ∃ (b1 : Nat), v9 = some (.int (nI (0))) ∧ (r = nI r1) ∧ (r1 < g 0) ∧ (k = nI a1) ∧ (l = nI b1) ∧ (a1 ≤ 40) ∧ (b1 ≤ 40) ∧ (0 < a1 + b1) ∧ (s = true) ∧ (s_barred (s_rule g r1) a1 b1 = false) ∧ (s_rule g r1 20 = 4) ∧ σ2 279 = o11 G (upd F 7 (nI (3))) ∧ (∀ i : Nat, i ≠ 279 → σ2 i = σ i)) ∨ (∃ (r1 : Nat), ∃ (a1 : Nat), ∃ (b1 : Nat), ∃ (a' : Nat → Nat), v9 = some (.int (nI (s_rule (s_barG g r1 s a1 b1) r1 20))) ∧ (r = nI r1) ∧ (r1 < g 0) ∧ (k = nI a1) ∧ (l = nI b1) ∧ (a1 ≤ 40) ∧ (b1 ≤ 40) ∧ (0 < a1 + b1) ∧ (∀ j : Nat, j < 265 → a' (265 * s_pmany m + j) = g j) ∧ (∀ j : Nat, j < 265 * s_pmany m → a' j = s_pshift a m j) ∧ (s = true → s_barred (s_rule g r1) a1 b1 = false → s_rule g r1 20 < 4) ∧ σ2 279 = o11 G (upd (upd F 5 (nI (s_pmany m + 1))) 7 (nI (0))) ∧ σ2 280 = q_an G 265 (s_barG g r1 s a1 b1) ∧ σ2 284 = q_an G 2120 a' ∧ (∀ i : Nat, i ≠ 279 ∧ i ≠ 280 ∧ i ≠ 284 → σ2 i = σ i))) v9 σ') q_noX := ⟨_, rfl⟩
  refine (?_ : AJ G K (q_Q G K ex n 0 0 _ _) 0 0 ex n 0 _ _ σ)
  rw [← hQ]
  have hnr : g 0 ≤ 4 := hg9.1
  refine A_aload_n hg dX11_bar_0 rfl rfl ?_
  refine A_iconst (v := (nI (0))) hg dX11_bar_1 (by decide) ?_
  refine A_putf hg fl_RX11_67 dX11_bar_2 hc0 (by omega) (Nat.le_of_ble_eq_true rfl) rfl rfl rfl (fun σ_1 hc_2 hf_3 => ?_)
  have hc_2 : σ_1 279 = o11 G (upd F 7 (nI (0))) := hc_2
  have hc_4 : σ_1 280 = q_an G 265 g := (hf_3 _ (by omega)).trans hc1
  have hc_5 : σ_1 284 = q_an G 2120 a := (hf_3 _ (by omega)).trans hc2
  refine A_aload_n hg dX11_bar_5 rfl rfl ?_
  refine A_iload_n hg dX11_bar_6 rfl rfl ?_
  refine A_hV (kc2 := 0) (ks2 := 0) (As := [.int (r)]) (rest := []) hg lk_RX11_402 in_X11_noRule se_X11_noRule rfl dX11_bar_7 ⟨by decide, by decide⟩ rfl rfl ⟨by decide, by decide⟩ hc_2 (by omega) rfl rfl (Nat.le_of_ble_eq_true rfl) (c_X11_noRule G ex n σ_1 (upd F 7 (nI (0))) g r hc_2 hc_4 hn (by omega)) ?_
  rintro _ σ_9 (⟨rfl, hno, hc_6, hf_7⟩ | ⟨r1, rfl, hre, hrl, he_8⟩)
  · skip
    refine (?_ : AJ G K Q 0 0 ex n 10 [some (.ref (q_h G + 279)), some (.int (r)), some (.int (k)), some (.int (l)), some (.int (q_b (s))), none] [.int (nI (1))] σ_9)
    have hc_6 : σ_9 279 = o11 G (upd F 7 (nI (1))) := hc_6
    have hc_10 : σ_9 280 = q_an G 265 g := (hf_7 _ (by omega)).trans hc_4
    have hc_11 : σ_9 284 = q_an G 2120 a := (hf_7 _ (by omega)).trans hc_5
    refine A_if_neN (tgt := 22) hg dX11_bar_10 (by decide) (by decide) (fun c10 => ?_) (fun c10 => absurd c10 (by decide))
    refine A_iconst (v := (nI (0))) hg dX11_bar_22 (by decide) ?_
    rw [hQ]
    exact A_ireturn hg (by decide) (by decide) rfl dX11_bar_23 ⟨rfl, Or.inl (⟨rfl, (by first | rfl | assumption | omega), hc_6, (fun i hi => ((hf_7 i (by omega)).trans (hf_3 i (by omega))))⟩)⟩
  · skip
    rw [he_8]
    refine (?_ : AJ G K Q 0 0 ex n 10 [some (.ref (q_h G + 279)), some (.int (r)), some (.int (k)), some (.int (l)), some (.int (q_b (s))), none] [.int (nI (0))] σ_1)
    refine A_if_neN (tgt := 22) hg dX11_bar_10 (by decide) (by decide) (fun c10 => absurd (by decide) c10) (fun c10 => ?_)
    subst hre
    have hw := hg9.2.2.2.2.2.1 r1 hrl
    have hu0 := hw.1
    have hu9 := hw.2.1
    have hu18 := hw.2.2.1
    have hu19 := hw.2.2.2.1
    have hu20 := hw.2.2.2.2.1
    refine A_aload_n hg dX11_bar_13 rfl rfl ?_
    refine A_iload_n hg dX11_bar_14 rfl rfl ?_
    refine A_iload_n hg dX11_bar_15 rfl rfl ?_
    refine A_hV (kc2 := 0) (ks2 := 0) (As := [.int (k), .int (l)]) (rest := []) hg lk_RX11_451 in_X11_noMove se_X11_noMove rfl dX11_bar_16 ⟨by decide, by decide⟩ rfl rfl ⟨by decide, by decide⟩ hc_2 (by omega) rfl rfl (Nat.le_of_ble_eq_true rfl) (c_X11_noMove G ex n σ_1 (upd F 7 (nI (0))) k l hc_2 hn) ?_
    rintro _ σ_15 (⟨rfl, hnp, hc_12, hf_13⟩ | ⟨a1, b1, rfl, hke, hle, hkl, hll, hkp, he_14⟩)
    · skip
      refine (?_ : AJ G K Q 0 0 ex n 19 [some (.ref (q_h G + 279)), some (.int (nI (r1))), some (.int (k)), some (.int (l)), some (.int (q_b (s))), none] [.int (nI (1))] σ_15)
      have hc_12 : σ_15 279 = o11 G (upd F 7 (nI (2))) := hc_12
      have hc_16 : σ_15 280 = q_an G 265 g := (hf_13 _ (by omega)).trans hc_4
      have hc_17 : σ_15 284 = q_an G 2120 a := (hf_13 _ (by omega)).trans hc_5
      refine A_if_eqN (tgt := 24) hg dX11_bar_19 (by decide) (by decide) (fun c19 => absurd c19 (by decide)) (fun c19 => ?_)
      refine A_iconst (v := (nI (0))) hg dX11_bar_22 (by decide) ?_
      rw [hQ]
      exact A_ireturn hg (by decide) (by decide) rfl dX11_bar_23 ⟨rfl, Or.inr (Or.inl (⟨r1, rfl, (by first | rfl | assumption | omega), (by first | rfl | assumption | omega), (by first | rfl | assumption | omega), hc_12, (fun i hi => ((hf_13 i (by omega)).trans (hf_3 i (by omega))))⟩))⟩
    · skip
      rw [he_14]
      refine (?_ : AJ G K Q 0 0 ex n 19 [some (.ref (q_h G + 279)), some (.int (nI (r1))), some (.int (k)), some (.int (l)), some (.int (q_b (s))), none] [.int (nI (0))] σ_1)
      refine A_if_eqN (tgt := 24) hg dX11_bar_19 (by decide) (by decide) (fun c19 => ?_) (fun c19 => absurd (by decide) c19)
      subst hke
      subst hle
      refine A_aload_n hg dX11_bar_24 rfl rfl ?_
      have hw20 := hw.2.2.2.2.1
      refine A_iload_n hg dX11_bar_25 rfl rfl ?_
      refine A_iload_n hg dX11_bar_26 rfl rfl ?_
      refine A_iload_n hg dX11_bar_27 rfl rfl ?_
      refine A_eV (kc2 := 0) (ks2 := 0) (As := [.int (nI (r1)), .int (nI (a1)), .int (nI (b1))]) (rest := []) hg lk_RX11_102 in_X11_barOf se_X11_barOf rfl dX11_bar_28 ⟨by decide, by decide⟩ rfl rfl ⟨by decide, by decide⟩ hc_2 (by omega) rfl rfl (Nat.le_of_ble_eq_true rfl) (c_X11_barOf G ex n σ_1 (upd F 7 (nI (0))) g r1 a1 b1 hc_2 hc_4 hn (by omega) hw (by omega) (by omega)) ?_
      refine A_istore hg dX11_bar_31 (by decide) (q_c1d rfl) ?_
      refine A_eq (ls2 := [some (.ref (q_h G + 279)), some (.int (nI (r1))), some (.int (nI (a1))), some (.int (nI (b1))), some (.int (q_b (s))), some (.int (q_d (if s_barred (s_rule g r1) a1 b1 = true then s_bar (s_rule g r1) a1 b1 + 1 else 0)))]) (st2 := []) (pc2 := 0) rfl rfl ?_
      refine A_aload_n hg dX11_bar_33 rfl rfl ?_
      refine A_iload hg dX11_bar_34 rfl ?_
      refine A_if_eqB (tgt := 60) hg dX11_bar_36 (by decide) (fun c36 => ?_) (fun c36 => ?_)
      · skip
        refine A_iconst (v := (nI (0))) hg dX11_bar_60 (by decide) ?_
        refine A_iconst (v := (nI (3))) hg dX11_bar_61 (by decide) ?_
        refine A_eV (kc2 := 0) (ks2 := 0) (As := [.int (nI (0)), .int (nI (3))]) (rest := []) hg lk_RX11_81 in_X11_fails se_X11_fails rfl dX11_bar_62 ⟨by decide, by decide⟩ rfl rfl ⟨by decide, by decide⟩ hc_2 (by omega) rfl rfl (Nat.le_of_ble_eq_true rfl) (c_X11_fails0 G ex n σ_1 (upd F 7 (nI (0))) (nI (3)) hc_2 hn) ?_
        refine A_if_eqN (tgt := 70) hg dX11_bar_65 (by decide) (by decide) (fun c65 => ?_) (fun c65 => absurd (by decide) c65)
        refine A_aload_n hg dX11_bar_70 rfl rfl ?_
        refine A_vV (kc2 := 0) (ks2 := 0) (As := []) (rest := []) hg lk_RX11_463 in_X11_remembers se_X11_remembers rfl dX11_bar_71 ⟨by decide, by decide⟩ rfl rfl ⟨by decide, by decide⟩ hc_2 (by omega) rfl rfl (Nat.le_of_ble_eq_true rfl) (c_X11_remembers G ex n σ_1 (upd F 7 (nI (0))) g a m hc_2 hc_4 hc_5 hn hF5 (by omega)) ?_
        rintro σ_21 ⟨a', hnew, hold, hc_18, hc_19, hf_20⟩
        have hc_18 : σ_21 279 = o11 G (upd (upd F 5 (nI (s_pmany m + 1))) 7 (nI (0))) := hc_18
        have hc_22 : σ_21 280 = q_an G 265 g := (hf_20 _ (by omega)).trans hc_4
        refine A_iload hg dX11_bar_74 rfl ?_
        refine A_if_eqB (tgt := 92) hg dX11_bar_76 (by decide) (fun c76 => ?_) (fun c76 => absurd (c36.symm.trans c76) (by decide))
        refine A_iload hg dX11_bar_92 rfl ?_
        refine A_if_neB (tgt := 110) hg dX11_bar_94 (by decide) (fun c94 => absurd (c36.symm.trans c94) (by decide)) (fun c94 => ?_)
        refine A_iload hg dX11_bar_97 rfl ?_
        refine A_iconst (v := (q_d (0))) hg dX11_bar_99 (by decide) ?_
        refine A_icmp_eqM (tgt := 110) hg dX11_bar_100 (by have hq := s_first_le (s_barp (s_rule g r1) a1 b1) (s_rule g r1 20); split <;> first | omega | (unfold s_bar; omega)) (by decide) (by decide) (fun c100 => ?_) (fun c100 => ?_)
        · skip
          refine A_aload_n hg dX11_bar_110 rfl rfl ?_
          refine A_iload_n hg dX11_bar_111 rfl rfl ?_
          refine A_bipush (v := (nI (20))) hg dX11_bar_112 (by decide) ?_
          refine A_eV (kc2 := 0) (ks2 := 0) (As := [.int (nI (r1)), .int (nI (20))]) (rest := []) hg lk_RX11_85 in_X11_of se_X11_of rfl dX11_bar_114 ⟨by decide, by decide⟩ rfl rfl ⟨by decide, by decide⟩ hc_18 (by omega) rfl rfl (Nat.le_of_ble_eq_true rfl) (c_X11_of G ex n σ_21 (upd (upd F 5 (nI (s_pmany m + 1))) 7 (nI (0))) g r1 20 hc_18 hc_22 hn (by omega)) ?_
          have hbg : g = (s_barG g r1 s a1 b1) := by unfold s_barG; first | (rw [if_neg (by rw [c36]; decide), if_neg (by rw [s_bar_no c100]; decide)]; done) | (rw [if_neg (by rw [c36]; decide), if_neg (by rw [s_bar_no c100]; decide)]; rfl)
          refine A_canon (s_barG g r1 s a1 b1) hc_22 (fun jj _ => congrFun hbg jj) (fun σ_23 hc_24 hf_25 => ?_)
          have hc_26 : σ_23 279 = o11 G (upd (upd F 5 (nI (s_pmany m + 1))) 7 (nI (0))) := (hf_25 _ (by omega)).trans hc_18
          have hc_27 : σ_23 284 = q_an G 2120 a' := (hf_25 _ (by omega)).trans hc_19
          rw [hQ]
          exact A_ireturn hg (by decide) (by decide) rfl dX11_bar_117 ⟨rfl, Or.inr (Or.inr (Or.inr ((⟨r1, a1, b1, a', (congrArg (fun h => some (Value.int (nI (s_rule h r1 20)))) hbg), (by first | rfl | assumption | omega), (by first | rfl | assumption | omega), (by first | rfl | assumption | omega), (by first | rfl | assumption | omega), (by first | rfl | assumption | omega), (by first | rfl | assumption | omega), (by first | rfl | assumption | omega), hnew, hold, (fun h _ => absurd (c36.symm.trans h) (by decide)), hc_26, hc_24, hc_27, (fun i hi => ((hf_25 i (by omega)).trans ((hf_20 i (by omega)).trans (hf_3 i (by omega)))))⟩))))⟩
        · skip
          have hyes := s_bar_yes c100
          have hsbl : s_bar (s_rule g r1) a1 b1 < s_rule g r1 20 := of_decide_eq_true hyes
          have e5 : q_d (if s_barred (s_rule g r1) a1 b1 = true then s_bar (s_rule g r1) a1 b1 + 1 else 0) = nI (s_bar (s_rule g r1) a1 b1) := by rw [if_pos hyes, q_dS]
          refine A_aload_n hg dX11_bar_103 rfl rfl ?_
          refine A_iload_n hg dX11_bar_104 rfl rfl ?_
          refine A_iload hg dX11_bar_105 rfl ?_
          refine A_top (w := .int (nI (s_bar (s_rule g r1) a1 b1))) (congrArg Value.int e5) ?_
          refine A_vV (kc2 := 0) (ks2 := 0) (As := [.int (nI (r1)), .int (nI (s_bar (s_rule g r1) a1 b1))]) (rest := []) hg lk_RX11_466 in_X11_dropsBar se_X11_dropsBar rfl dX11_bar_107 ⟨by decide, by decide⟩ rfl rfl ⟨by decide, by decide⟩ hc_18 (by omega) rfl rfl (Nat.le_of_ble_eq_true rfl) (c_X11_dropsBar G ex n σ_21 (upd (upd F 5 (nI (s_pmany m + 1))) 7 (nI (0))) g r1 (s_bar (s_rule g r1) a1 b1) hc_18 hc_22 hn (by omega) hw (by omega)) ?_
          rintro σ_30 ⟨hc_28, hf_29⟩
          have hc_31 : σ_30 279 = o11 G (upd (upd F 5 (nI (s_pmany m + 1))) 7 (nI (0))) := (hf_29 _ (by omega)).trans hc_18
          have hc_32 : σ_30 284 = q_an G 2120 a' := (hf_29 _ (by omega)).trans hc_19
          refine A_aload_n hg dX11_bar_110 rfl rfl ?_
          refine A_iload_n hg dX11_bar_111 rfl rfl ?_
          refine A_bipush (v := (nI (20))) hg dX11_bar_112 (by decide) ?_
          refine A_eV (kc2 := 0) (ks2 := 0) (As := [.int (nI (r1)), .int (nI (20))]) (rest := []) hg lk_RX11_85 in_X11_of se_X11_of rfl dX11_bar_114 ⟨by decide, by decide⟩ rfl rfl ⟨by decide, by decide⟩ hc_31 (by omega) rfl rfl (Nat.le_of_ble_eq_true rfl) (c_X11_of G ex n σ_30 (upd (upd F 5 (nI (s_pmany m + 1))) 7 (nI (0))) (s_dropB g r1 (s_bar (s_rule g r1) a1 b1)) r1 20 hc_31 hc_28 hn (by omega)) ?_
          have hbg : (s_dropB g r1 (s_bar (s_rule g r1) a1 b1)) = (s_barG g r1 s a1 b1) := by unfold s_barG; first | (rw [if_neg (by rw [c36]; decide), if_pos (s_bar_yes c100)]; done) | (rw [if_neg (by rw [c36]; decide), if_pos (s_bar_yes c100)]; rfl)
          refine A_canon (s_barG g r1 s a1 b1) hc_28 (fun jj _ => congrFun hbg jj) (fun σ_33 hc_34 hf_35 => ?_)
          have hc_36 : σ_33 279 = o11 G (upd (upd F 5 (nI (s_pmany m + 1))) 7 (nI (0))) := (hf_35 _ (by omega)).trans hc_31
          have hc_37 : σ_33 284 = q_an G 2120 a' := (hf_35 _ (by omega)).trans hc_32
          rw [hQ]
          exact A_ireturn hg (by decide) (by decide) rfl dX11_bar_117 ⟨rfl, Or.inr (Or.inr (Or.inr ((⟨r1, a1, b1, a', (congrArg (fun h => some (Value.int (nI (s_rule h r1 20)))) hbg), (by first | rfl | assumption | omega), (by first | rfl | assumption | omega), (by first | rfl | assumption | omega), (by first | rfl | assumption | omega), (by first | rfl | assumption | omega), (by first | rfl | assumption | omega), (by first | rfl | assumption | omega), hnew, hold, (fun h _ => absurd (c36.symm.trans h) (by decide)), hc_36, hc_34, hc_37, (fun i hi => ((hf_35 i (by omega)).trans ((hf_29 i (by omega)).trans ((hf_20 i (by omega)).trans (hf_3 i (by omega))))))⟩))))⟩
      · skip
        refine A_iload hg dX11_bar_39 rfl ?_
        refine A_iconst (v := (q_d (0))) hg dX11_bar_41 (by decide) ?_
        refine A_icmp_neM (tgt := 60) hg dX11_bar_42 (by have hq := s_first_le (s_barp (s_rule g r1) a1 b1) (s_rule g r1 20); split <;> first | omega | (unfold s_bar; omega)) (by decide) (by decide) (fun c42 => ?_) (fun c42 => ?_)
        · skip
          refine A_iconst (v := (nI (0))) hg dX11_bar_60 (by decide) ?_
          refine A_iconst (v := (nI (3))) hg dX11_bar_61 (by decide) ?_
          refine A_eV (kc2 := 0) (ks2 := 0) (As := [.int (nI (0)), .int (nI (3))]) (rest := []) hg lk_RX11_81 in_X11_fails se_X11_fails rfl dX11_bar_62 ⟨by decide, by decide⟩ rfl rfl ⟨by decide, by decide⟩ hc_2 (by omega) rfl rfl (Nat.le_of_ble_eq_true rfl) (c_X11_fails0 G ex n σ_1 (upd F 7 (nI (0))) (nI (3)) hc_2 hn) ?_
          refine A_if_eqN (tgt := 70) hg dX11_bar_65 (by decide) (by decide) (fun c65 => ?_) (fun c65 => absurd (by decide) c65)
          refine A_aload_n hg dX11_bar_70 rfl rfl ?_
          refine A_vV (kc2 := 0) (ks2 := 0) (As := []) (rest := []) hg lk_RX11_463 in_X11_remembers se_X11_remembers rfl dX11_bar_71 ⟨by decide, by decide⟩ rfl rfl ⟨by decide, by decide⟩ hc_2 (by omega) rfl rfl (Nat.le_of_ble_eq_true rfl) (c_X11_remembers G ex n σ_1 (upd F 7 (nI (0))) g a m hc_2 hc_4 hc_5 hn hF5 (by omega)) ?_
          rintro σ_41 ⟨a', hnew, hold, hc_38, hc_39, hf_40⟩
          have hc_38 : σ_41 279 = o11 G (upd (upd F 5 (nI (s_pmany m + 1))) 7 (nI (0))) := hc_38
          have hc_42 : σ_41 280 = q_an G 265 g := (hf_40 _ (by omega)).trans hc_4
          refine A_iload hg dX11_bar_74 rfl ?_
          refine A_if_eqB (tgt := 92) hg dX11_bar_76 (by decide) (fun c76 => absurd (c36.symm.trans c76) (by decide)) (fun c76 => ?_)
          refine A_iload hg dX11_bar_79 rfl ?_
          refine A_iconst (v := (q_d (0))) hg dX11_bar_81 (by decide) ?_
          refine A_icmp_neM (tgt := 92) hg dX11_bar_82 (by have hq := s_first_le (s_barp (s_rule g r1) a1 b1) (s_rule g r1 20); split <;> first | omega | (unfold s_bar; omega)) (by decide) (by decide) (fun c82 => ?_) (fun c82 => absurd c82 c42)
          refine A_iload hg dX11_bar_92 rfl ?_
          refine A_if_neB (tgt := 110) hg dX11_bar_94 (by decide) (fun c94 => ?_) (fun c94 => absurd (c36.symm.trans c94) (by decide))
          refine A_aload_n hg dX11_bar_110 rfl rfl ?_
          refine A_iload_n hg dX11_bar_111 rfl rfl ?_
          refine A_bipush (v := (nI (20))) hg dX11_bar_112 (by decide) ?_
          refine A_eV (kc2 := 0) (ks2 := 0) (As := [.int (nI (r1)), .int (nI (20))]) (rest := []) hg lk_RX11_85 in_X11_of se_X11_of rfl dX11_bar_114 ⟨by decide, by decide⟩ rfl rfl ⟨by decide, by decide⟩ hc_38 (by omega) rfl rfl (Nat.le_of_ble_eq_true rfl) (c_X11_of G ex n σ_41 (upd (upd F 5 (nI (s_pmany m + 1))) 7 (nI (0))) g r1 20 hc_38 hc_42 hn (by omega)) ?_
          have hbg : g = (s_barG g r1 s a1 b1) := by unfold s_barG; first | (rw [if_pos c36, if_pos (s_bar_yes c42)]; done) | (rw [if_pos c36, if_pos (s_bar_yes c42)]; rfl)
          refine A_canon (s_barG g r1 s a1 b1) hc_42 (fun jj _ => congrFun hbg jj) (fun σ_43 hc_44 hf_45 => ?_)
          have hc_46 : σ_43 279 = o11 G (upd (upd F 5 (nI (s_pmany m + 1))) 7 (nI (0))) := (hf_45 _ (by omega)).trans hc_38
          have hc_47 : σ_43 284 = q_an G 2120 a' := (hf_45 _ (by omega)).trans hc_39
          rw [hQ]
          exact A_ireturn hg (by decide) (by decide) rfl dX11_bar_117 ⟨rfl, Or.inr (Or.inr (Or.inr ((⟨r1, a1, b1, a', (congrArg (fun h => some (Value.int (nI (s_rule h r1 20)))) hbg), (by first | rfl | assumption | omega), (by first | rfl | assumption | omega), (by first | rfl | assumption | omega), (by first | rfl | assumption | omega), (by first | rfl | assumption | omega), (by first | rfl | assumption | omega), (by first | rfl | assumption | omega), hnew, hold, (fun _ h => absurd ((s_bar_yes c42).symm.trans h) (by decide)), hc_46, hc_44, hc_47, (fun i hi => ((hf_45 i (by omega)).trans ((hf_40 i (by omega)).trans (hf_3 i (by omega)))))⟩))))⟩
        · skip
          refine A_aload_n hg dX11_bar_45 rfl rfl ?_
          refine A_iload_n hg dX11_bar_46 rfl rfl ?_
          refine A_bipush (v := (nI (20))) hg dX11_bar_47 (by decide) ?_
          refine A_eV (kc2 := 0) (ks2 := 0) (As := [.int (nI (r1)), .int (nI (20))]) (rest := [.ref (q_h G + 279)]) hg lk_RX11_85 in_X11_of se_X11_of rfl dX11_bar_49 ⟨by decide, by decide⟩ rfl rfl ⟨by decide, by decide⟩ hc_2 (by omega) rfl rfl (Nat.le_of_ble_eq_true rfl) (c_X11_of G ex n σ_1 (upd F 7 (nI (0))) g r1 20 hc_2 hc_4 hn (by omega)) ?_
          refine A_iconst (v := (nI (4))) hg dX11_bar_52 (by decide) ?_
          refine A_icmp_neN (tgt := 60) hg dX11_bar_53 (by omega) (by decide) (by decide) (fun c53 => ?_) (fun c53 => ?_)
          · skip
            refine A_iconst (v := (nI (0))) hg dX11_bar_60 (by decide) ?_
            refine A_iconst (v := (nI (3))) hg dX11_bar_61 (by decide) ?_
            refine A_eV (kc2 := 0) (ks2 := 0) (As := [.int (nI (0)), .int (nI (3))]) (rest := []) hg lk_RX11_81 in_X11_fails se_X11_fails rfl dX11_bar_62 ⟨by decide, by decide⟩ rfl rfl ⟨by decide, by decide⟩ hc_2 (by omega) rfl rfl (Nat.le_of_ble_eq_true rfl) (c_X11_fails0 G ex n σ_1 (upd F 7 (nI (0))) (nI (3)) hc_2 hn) ?_
            refine A_if_eqN (tgt := 70) hg dX11_bar_65 (by decide) (by decide) (fun c65 => ?_) (fun c65 => absurd (by decide) c65)
            refine A_aload_n hg dX11_bar_70 rfl rfl ?_
            refine A_vV (kc2 := 0) (ks2 := 0) (As := []) (rest := []) hg lk_RX11_463 in_X11_remembers se_X11_remembers rfl dX11_bar_71 ⟨by decide, by decide⟩ rfl rfl ⟨by decide, by decide⟩ hc_2 (by omega) rfl rfl (Nat.le_of_ble_eq_true rfl) (c_X11_remembers G ex n σ_1 (upd F 7 (nI (0))) g a m hc_2 hc_4 hc_5 hn hF5 (by omega)) ?_
            rintro σ_51 ⟨a', hnew, hold, hc_48, hc_49, hf_50⟩
            have hc_48 : σ_51 279 = o11 G (upd (upd F 5 (nI (s_pmany m + 1))) 7 (nI (0))) := hc_48
            have hc_52 : σ_51 280 = q_an G 265 g := (hf_50 _ (by omega)).trans hc_4
            refine A_iload hg dX11_bar_74 rfl ?_
            refine A_if_eqB (tgt := 92) hg dX11_bar_76 (by decide) (fun c76 => absurd (c36.symm.trans c76) (by decide)) (fun c76 => ?_)
            refine A_iload hg dX11_bar_79 rfl ?_
            refine A_iconst (v := (q_d (0))) hg dX11_bar_81 (by decide) ?_
            refine A_icmp_neM (tgt := 92) hg dX11_bar_82 (by have hq := s_first_le (s_barp (s_rule g r1) a1 b1) (s_rule g r1 20); split <;> first | omega | (unfold s_bar; omega)) (by decide) (by decide) (fun c82 => absurd c42 c82) (fun c82 => ?_)
            refine A_aload_n hg dX11_bar_85 rfl rfl ?_
            refine A_iload_n hg dX11_bar_86 rfl rfl ?_
            refine A_iload_n hg dX11_bar_87 rfl rfl ?_
            refine A_iload_n hg dX11_bar_88 rfl rfl ?_
            have hsb9 := s_bar_no c42
            refine A_vV (kc2 := 0) (ks2 := 0) (As := [.int (nI (r1)), .int (nI (a1)), .int (nI (b1))]) (rest := []) hg lk_RX11_322 in_X11_addsBar se_X11_addsBar rfl dX11_bar_89 ⟨by decide, by decide⟩ rfl rfl ⟨by decide, by decide⟩ hc_48 (by omega) rfl rfl (Nat.le_of_ble_eq_true rfl) (c_X11_addsBar G ex n σ_51 (upd (upd F 5 (nI (s_pmany m + 1))) 7 (nI (0))) g r1 a1 b1 hc_48 hc_52 hn (by omega) hw (by omega)) ?_
            rintro σ_55 ⟨hc_53, hf_54⟩
            have hc_56 : σ_55 279 = o11 G (upd (upd F 5 (nI (s_pmany m + 1))) 7 (nI (0))) := (hf_54 _ (by omega)).trans hc_48
            have hc_57 : σ_55 284 = q_an G 2120 a' := (hf_54 _ (by omega)).trans hc_49
            refine A_iload hg dX11_bar_92 rfl ?_
            refine A_if_neB (tgt := 110) hg dX11_bar_94 (by decide) (fun c94 => ?_) (fun c94 => absurd (c36.symm.trans c94) (by decide))
            refine A_aload_n hg dX11_bar_110 rfl rfl ?_
            refine A_iload_n hg dX11_bar_111 rfl rfl ?_
            refine A_bipush (v := (nI (20))) hg dX11_bar_112 (by decide) ?_
            refine A_eV (kc2 := 0) (ks2 := 0) (As := [.int (nI (r1)), .int (nI (20))]) (rest := []) hg lk_RX11_85 in_X11_of se_X11_of rfl dX11_bar_114 ⟨by decide, by decide⟩ rfl rfl ⟨by decide, by decide⟩ hc_56 (by omega) rfl rfl (Nat.le_of_ble_eq_true rfl) (c_X11_of G ex n σ_55 (upd (upd F 5 (nI (s_pmany m + 1))) 7 (nI (0))) (s_rset (s_rset (s_rset g r1 (21 + 2 * s_rule g r1 20) a1) r1 (21 + 2 * s_rule g r1 20 + 1) b1) r1 20 (s_rule g r1 20 + 1)) r1 20 hc_56 hc_53 hn (by omega)) ?_
            have hbg : (s_rset (s_rset (s_rset g r1 (21 + 2 * s_rule g r1 20) a1) r1 (21 + 2 * s_rule g r1 20 + 1) b1) r1 20 (s_rule g r1 20 + 1)) = (s_barG g r1 s a1 b1) := by unfold s_barG; first | (rw [if_pos c36, if_neg (by rw [s_bar_no c42]; decide)]; done) | (rw [if_pos c36, if_neg (by rw [s_bar_no c42]; decide)]; rfl)
            refine A_canon (s_barG g r1 s a1 b1) hc_53 (fun jj _ => congrFun hbg jj) (fun σ_58 hc_59 hf_60 => ?_)
            have hc_61 : σ_58 279 = o11 G (upd (upd F 5 (nI (s_pmany m + 1))) 7 (nI (0))) := (hf_60 _ (by omega)).trans hc_56
            have hc_62 : σ_58 284 = q_an G 2120 a' := (hf_60 _ (by omega)).trans hc_57
            rw [hQ]
            exact A_ireturn hg (by decide) (by decide) rfl dX11_bar_117 ⟨rfl, Or.inr (Or.inr (Or.inr ((⟨r1, a1, b1, a', (congrArg (fun h => some (Value.int (nI (s_rule h r1 20)))) hbg), (by first | rfl | assumption | omega), (by first | rfl | assumption | omega), (by first | rfl | assumption | omega), (by first | rfl | assumption | omega), (by first | rfl | assumption | omega), (by first | rfl | assumption | omega), (by first | rfl | assumption | omega), hnew, hold, (fun _ _ => by omega), hc_61, hc_59, hc_62, (fun i hi => ((hf_60 i (by omega)).trans ((hf_54 i (by omega)).trans ((hf_50 i (by omega)).trans (hf_3 i (by omega))))))⟩))))⟩
          · skip
            refine A_iconst (v := (nI (1))) hg dX11_bar_56 (by decide) ?_
            refine A_goto (tgt := 61) hg dX11_bar_57 (by decide) ?_
            refine A_iconst (v := (nI (3))) hg dX11_bar_61 (by decide) ?_
            refine A_hV (kc2 := 0) (ks2 := 0) (As := [.int (nI (1)), .int (nI (3))]) (rest := []) hg lk_RX11_81 in_X11_fails se_X11_fails rfl dX11_bar_62 ⟨by decide, by decide⟩ rfl rfl ⟨by decide, by decide⟩ hc_2 (by omega) rfl rfl (Nat.le_of_ble_eq_true rfl) (c_X11_fails1 G ex n σ_1 (upd F 7 (nI (0))) 3 hc_2 hn) ?_
            rintro _ σ_65 ⟨rfl, hc_63, hf_64⟩
            refine (?_ : AJ G K Q 0 0 ex n 65 [some (.ref (q_h G + 279)), some (.int (nI (r1))), some (.int (nI (a1))), some (.int (nI (b1))), some (.int (q_b (s))), some (.int (q_d (if s_barred (s_rule g r1) a1 b1 = true then s_bar (s_rule g r1) a1 b1 + 1 else 0)))] [.int (nI (1))] σ_65)
            have hc_63 : σ_65 279 = o11 G (upd F 7 (nI (3))) := hc_63
            have hc_66 : σ_65 280 = q_an G 265 g := (hf_64 _ (by omega)).trans hc_4
            have hc_67 : σ_65 284 = q_an G 2120 a := (hf_64 _ (by omega)).trans hc_5
            refine A_if_eqN (tgt := 70) hg dX11_bar_65 (by decide) (by decide) (fun c65 => absurd c65 (by decide)) (fun c65 => ?_)
            refine A_iconst (v := (nI (0))) hg dX11_bar_68 (by decide) ?_
            rw [hQ]
            exact A_ireturn hg (by decide) (by decide) rfl dX11_bar_69 ⟨rfl, Or.inr (Or.inr (Or.inl (⟨r1, a1, b1, rfl, (by first | rfl | assumption | omega), (by first | rfl | assumption | omega), (by first | rfl | assumption | omega), (by first | rfl | assumption | omega), (by first | rfl | assumption | omega), (by first | rfl | assumption | omega), (by first | rfl | assumption | omega), c36, (s_bar_no c42), c53, hc_63, (fun i hi => ((hf_64 i (by omega)).trans (hf_3 i (by omega))))⟩)))⟩
end
