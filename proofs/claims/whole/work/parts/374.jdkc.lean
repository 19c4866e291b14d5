section
theorem q_sl3 {x y v : Value} (hx : v.category = 1) (h1 : x.category = 1 := by rfl) (h2 : y.category = 1 := by rfl) : (lg_sl [x, y, v]).length ≤ 3 := by
  simp [lg_sl, hx, h1, h2]
theorem q_en3 {x y v : Value} (hx : v.category = 1) (h1 : x.category = 1 := by rfl) (h2 : y.category = 1 := by rfl) : q_ent [x, y, v] 3 = [some x, some y, some v] := by
  simp [q_ent, q_arg, hx, h1, h2]
set_option maxRecDepth 100000 in
theorem c_J0_coder (G : GL) (ex : Bool) (n : Nat) (σ : Nat → va_E) (a : Nat) (bs : List Nat) (hs : q_st G a bs) : Ct G yJ0_coder_7d493 cJ0_coder_7d493 1 (some .byte) ⟨0, 0, 0, 0⟩ [.ref a] ex n σ (fun v9 σ2 => σ2 = σ ∧ v9 = some (.int 0)) := by
  refine q_enter [some (.ref a)] (by decide) (Nat.le_of_ble_eq_true rfl) rfl ?_
  intro K hg
  obtain ⟨⟨v, h1, h2, h3, h4⟩, hl, hb⟩ := hs
  refine A_gets hg (q_compact hg.2.2.2.2.2.2.1.1) (q_mt 369 (by decide +kernel)) dJ0_coder_7d493_0 ?_
  refine A_if_eq (tgt := 13) hg dJ0_coder_7d493_3 (by decide) (fun c => absurd c (by decide)) (fun c => ?_)
  refine A_aload_n hg dJ0_coder_7d493_6 rfl rfl ?_
  refine A_getO hg h2 (q_mt 2144 (by decide +kernel)) dJ0_coder_7d493_7 ?_
  refine A_goto (tgt := 14) hg dJ0_coder_7d493_10 (by decide) ?_
  exact A_nreturn hg (by decide) (by decide) rfl rfl dJ0_coder_7d493_14 ⟨rfl, rfl, rfl⟩
set_option maxRecDepth 100000 in
theorem c_J0_isLatin1 (G : GL) (ex : Bool) (n : Nat) (σ : Nat → va_E) (a : Nat) (bs : List Nat) (hs : q_st G a bs) : Ct G yJ0_isLatin1_aae02 cJ0_isLatin1_aae02 1 (some .boolean) ⟨0, 0, 0, 0⟩ [.ref a] ex n σ (fun v9 σ2 => σ2 = σ ∧ v9 = some (.int (nI 1))) := by
  refine q_enter [some (.ref a)] (by decide) (Nat.le_of_ble_eq_true rfl) rfl ?_
  intro K hg
  obtain ⟨⟨v, h1, h2, h3, h4⟩, hl, hb⟩ := hs
  refine A_gets hg (q_compact hg.2.2.2.2.2.2.1.1) (q_mt 369 (by decide +kernel)) dJ0_isLatin1_aae02_0 ?_
  refine A_if_eq (tgt := 17) hg dJ0_isLatin1_aae02_3 (by decide) (fun c => absurd c (by decide)) (fun c => ?_)
  refine A_aload_n hg dJ0_isLatin1_aae02_6 rfl rfl ?_
  refine A_getO hg h2 (q_mt 2144 (by decide +kernel)) dJ0_isLatin1_aae02_7 ?_
  refine A_if_ne (tgt := 17) hg dJ0_isLatin1_aae02_10 (by decide) (fun c => absurd rfl c) (fun c => ?_)
  refine A_iconst (v := (nI 1)) hg dJ0_isLatin1_aae02_13 (by decide) ?_
  refine A_goto (tgt := 18) hg dJ0_isLatin1_aae02_14 (by decide) ?_
  exact A_zreturn hg (by decide) (by decide) rfl rfl dJ0_isLatin1_aae02_18 ⟨rfl, rfl, rfl⟩
set_option maxRecDepth 100000 in
theorem c_J0_length (G : GL) (ex : Bool) (n : Nat) (σ : Nat → va_E) (a : Nat) (bs : List Nat) (hs : q_st G a bs) : Ct G yJ0_length_8abf5 cJ0_length_8abf5 1 (some .int) ⟨1, 0, 0, 20⟩ [.ref a] ex n σ (fun v9 σ2 => σ2 = σ ∧ v9 = some (.int (nI bs.length))) := by
  refine q_enter [some (.ref a)] (by decide) (Nat.le_of_ble_eq_true rfl) rfl ?_
  intro K hg
  have hs2 := hs
  obtain ⟨⟨v, h1, h2, h3, h4⟩, hl, hb⟩ := hs
  refine A_aload_n hg dJ0_length_8abf5_0 rfl rfl ?_
  refine A_getO hg h3 (q_mt 2143 (by decide +kernel)) dJ0_length_8abf5_1 ?_
  refine A_alenO hg h4 dJ0_length_8abf5_4 ?_
  refine A_aload_n hg dJ0_length_8abf5_5 rfl rfl ?_
  refine A_eVO (kc2 := 0) (ks2 := 0) (As := []) (rest := [.int (nI bs.length)]) hg lk_RJ0_335 in_J0_coder_7d493 se_J0_coder_7d493 dJ0_length_8abf5_6 ⟨by decide, by decide⟩ rfl rfl ⟨by decide, by decide⟩ h1 rfl rfl (Nat.le_of_ble_eq_true rfl) (c_J0_coder G ex n σ a bs hs2) ?_
  refine A_ishr hg dJ0_length_8abf5_9 ?_
  refine A_ireturn hg (by decide) (by decide) rfl dJ0_length_8abf5_10 ⟨rfl, rfl, ?_⟩
  exact congrArg some (congrArg Value.int (sc_shr0 hl))
set_option maxRecDepth 100000 in
theorem c_J3_checkIndex (G : GL) (ex : Bool) (n : Nat) (σ : Nat → va_E) (j m : Nat) (v : Value) (hv : v.category = 1) (hj : j < m) (hm : m < 2 ^ 31) : Ct G yJ3_checkIndex_8e157 cJ3_checkIndex_8e157 3 (some .int) ⟨0, 0, 0, 0⟩ [.int (nI j), .int (nI m), v] ex n σ (fun v9 σ2 => σ2 = σ ∧ v9 = some (.int (nI j))) := by
  refine q_enter [some (.int (nI j)), some (.int (nI m)), some v] (by decide) (q_sl3 hv) (q_en3 hv) ?_
  intro K hg
  refine A_iload_n hg dJ3_checkIndex_8e157_0 rfl rfl ?_
  refine A_if_ltN (tgt := 9) hg dJ3_checkIndex_8e157_1 (by omega) (by decide) ?_
  refine A_iload_n hg dJ3_checkIndex_8e157_4 rfl rfl ?_
  refine A_iload_n hg dJ3_checkIndex_8e157_5 rfl rfl ?_
  refine A_icmp_ltN (tgt := 16) hg dJ3_checkIndex_8e157_6 (by omega) hm (by decide) (fun c => ?_) (fun c => absurd hj c)
  refine A_iload_n hg dJ3_checkIndex_8e157_16 rfl rfl ?_
  exact A_ireturn hg (by decide) (by decide) rfl dJ3_checkIndex_8e157_17 ⟨rfl, rfl, rfl⟩
theorem q_ch : ∀ x : Nat, x < 128 → (nI x &&& nI 255 = nI x ∧ ((nI x).toUInt32 % 65536).toInt32 = nI x ∧ narrow .char (.int (nI x)) = .int (nI x)) := by
  have h : ∀ x : Fin 128, (nI x.val &&& nI 255 = nI x.val ∧ ((nI x.val).toUInt32 % 65536).toInt32 = nI x.val ∧ narrow .char (.int (nI x.val)) = .int (nI x.val)) := by decide +kernel
  intro x hx
  exact h ⟨x, hx⟩
set_option maxRecDepth 100000 in
theorem c_J0_checkIndex (G : GL) (ex : Bool) (n : Nat) (σ : Nat → va_E) (j m : Nat) (hj : j < m) (hm : m < 2 ^ 31) : Ct G yJ0_checkIndex_df160 cJ0_checkIndex_df160 2 none ⟨1, 0, 0, 22⟩ [.int (nI j), .int (nI m)] ex n σ (fun v9 σ2 => v9 = none ∧ σ2 = σ) := by
  refine q_enter [some (.int (nI j)), some (.int (nI m))] (by decide) (Nat.le_of_ble_eq_true rfl) rfl ?_
  intro K hg
  obtain ⟨v, hZ, hv⟩ := q_sioobe hg.2.2.2.2.2.2.1.1
  refine A_iload_n hg dJ0_checkIndex_df160_0 rfl rfl ?_
  refine A_iload_n hg dJ0_checkIndex_df160_1 rfl rfl ?_
  refine A_gets hg hZ (q_mt 385 (by decide +kernel)) dJ0_checkIndex_df160_2 ?_
  refine A_eS (kc2 := 0) (ks2 := 0) (As := [.int (nI j), .int (nI m), v]) (rest := []) hg lk_RJ0_1059 st_J3_checkIndex_8e157 dJ0_checkIndex_df160_5 ⟨by decide, by decide⟩ rfl rfl ⟨by decide, by decide⟩ rfl rfl (Nat.le_of_ble_eq_true rfl) (c_J3_checkIndex G ex n σ j m v hv hj hm) ?_
  refine A_pop hg dJ0_checkIndex_df160_8 rfl ?_
  exact A_return hg (by decide) (by decide) rfl dJ0_checkIndex_df160_9 ⟨rfl, rfl, rfl⟩
set_option maxRecDepth 100000 in
theorem c_J1_charAt (G : GL) (ex : Bool) (n : Nat) (σ : Nat → va_E) (v : Nat) (bs : List Nat) (j : Nat) (hT : q_oT G .byte v bs.length (fun j => .int (nI (bs.getD j 0)))) (hl : bs.length < 2 ^ 31) (hb : ∀ j : Nat, bs.getD j 0 < 128) (hj : j < bs.length) : Ct G yJ1_charAt_3b067 cJ1_charAt_3b067 2 (some .char) ⟨2, 0, 0, 43⟩ [.ref v, .int (nI j)] ex n σ (fun v9 σ2 => σ2 = σ ∧ v9 = some (.int (nI (bs.getD j 0)))) := by
  refine q_enter [some (.ref v), some (.int (nI j))] (by decide) (Nat.le_of_ble_eq_true rfl) rfl ?_
  intro K hg
  obtain ⟨e1, e2, e3⟩ := q_ch _ (hb j)
  refine A_iload_n hg dJ1_charAt_3b067_0 rfl rfl ?_
  refine A_aload_n hg dJ1_charAt_3b067_1 rfl rfl ?_
  refine A_alenO hg hT dJ1_charAt_3b067_2 ?_
  refine A_vS (kc2 := 0) (ks2 := 0) (As := [.int (nI j), .int (nI bs.length)]) (rest := []) hg lk_RJ1_9 st_J0_checkIndex_df160 dJ1_charAt_3b067_3 ⟨by decide, by decide⟩ rfl rfl ⟨by decide, by decide⟩ rfl rfl (Nat.le_of_ble_eq_true rfl) (c_J0_checkIndex G ex n σ j bs.length hj hl) ?_
  rintro _ rfl
  refine A_aload_n hg dJ1_charAt_3b067_6 rfl rfl ?_
  refine A_iload_n hg dJ1_charAt_3b067_7 rfl rfl ?_
  refine A_baldO hg hT hj hl rfl dJ1_charAt_3b067_8 ?_
  refine A_sipush (v := (nI 255)) hg dJ1_charAt_3b067_9 (by decide) ?_
  refine A_iand hg dJ1_charAt_3b067_12 ?_
  refine A_i2c (v := nI (bs.getD j 0)) hg dJ1_charAt_3b067_13 (by rw [e1]; exact e2) ?_
  exact A_nreturn hg (by decide) (by decide) rfl e3 dJ1_charAt_3b067_14 ⟨rfl, rfl, rfl⟩
set_option maxRecDepth 100000 in
theorem c_J0_charAt (G : GL) (ex : Bool) (n : Nat) (σ : Nat → va_E) (a : Nat) (bs : List Nat) (j : Nat) (hs : q_st G a bs) (hj : j < bs.length) : Ct G yJ0_charAt_5068e cJ0_charAt_5068e 2 (some .char) ⟨3, 0, 0, 64⟩ [.ref a, .int (nI j)] ex n σ (fun v9 σ2 => σ2 = σ ∧ v9 = some (.int (nI (bs.getD j 0)))) := by
  refine q_enter [some (.ref a), some (.int (nI j))] (by decide) (Nat.le_of_ble_eq_true rfl) rfl ?_
  intro K hg
  have hs2 := hs
  obtain ⟨⟨v, h1, h2, h3, h4⟩, hl, hb⟩ := hs
  obtain ⟨e1, e2, e3⟩ := q_ch _ (hb j)
  refine A_aload_n hg dJ0_charAt_5068e_0 rfl rfl ?_
  refine A_eVO (kc2 := 0) (ks2 := 0) (As := []) (rest := []) hg lk_RJ0_492 in_J0_isLatin1_aae02 se_J0_isLatin1_aae02 dJ0_charAt_5068e_1 ⟨by decide, by decide⟩ rfl rfl ⟨by decide, by decide⟩ h1 rfl rfl (Nat.le_of_ble_eq_true rfl) (c_J0_isLatin1 G ex n σ a bs hs2) ?_
  refine A_if_eq (tgt := 16) hg dJ0_charAt_5068e_4 (by decide) (fun c => absurd c (by decide)) (fun c => ?_)
  refine A_aload_n hg dJ0_charAt_5068e_7 rfl rfl ?_
  refine A_getO hg h3 (q_mt 2143 (by decide +kernel)) dJ0_charAt_5068e_8 ?_
  refine A_iload_n hg dJ0_charAt_5068e_11 rfl rfl ?_
  refine A_eS (kc2 := 0) (ks2 := 0) (As := [.ref v, .int (nI j)]) (rest := []) hg lk_RJ0_495 st_J1_charAt_3b067 dJ0_charAt_5068e_12 ⟨by decide, by decide⟩ rfl rfl ⟨by decide, by decide⟩ rfl rfl (Nat.le_of_ble_eq_true rfl) (c_J1_charAt G ex n σ v bs j h4 hl hb hj) ?_
  exact A_nreturn hg (by decide) (by decide) rfl e3 dJ0_charAt_5068e_15 ⟨rfl, rfl, rfl⟩
end
