/-! METHODS WITH HANDLERS: their contracts, calls of them, what they catch; the script's ints -/
section
variable {G : GL} {K : KC} {Q : State → Prop} {kc ks : Nat} {ex : Bool} {n : Nat} {pc : Nat} {ls : List (Option Value)} {st : List Value} {σ : Nat → va_E} {own : String} {b : ByteArray} {nL : Nat} {ret : Option FieldType} {R : Room} {hh : List (Nat × Nat × Nat × Nat)}
def CtH (G : GL) (y : MethodName) (b : ByteArray) (nL : Nat) (ret : Option FieldType) (hh : List (Nat × Nat × Nat × Nat)) (rm : Room) (av : List Value) (n : Nat) (σ : Nat → va_E) (QR : Option Value → (Nat → va_E) → Prop) : Prop :=
  vx_Met G.1 y [.codeWith y b nL ret hh] rm (va_Pc av (q_W G false n σ)) (q_Qc G false (fun v n' σ' => n' = n ∧ QR v σ')) (q_XC G n q_noX) rm.cells rm.slots (q_A G)
theorem q_enterH {y : MethodName} {b : ByteArray} {nL : Nat} {ret : Option FieldType} {hh : List (Nat × Nat × Nat × Nat)} {rm : Room} {av : List Value} {n : Nat} {σ : Nat → va_E} {QR : Option Value → (Nat → va_E) → Prop} (ls : List (Option Value)) (hy : plainName y.cls = true) (hle : (lg_sl av).length ≤ nL) (hls : q_ent av nL = ls)
    (body : ∀ K : KC, Gd G K y.cls b nL ret rm hh → AJ G K (q_Q G K false n rm.cells rm.slots (fun v n' σ' => n' = n ∧ QR v σ') q_noX) 0 0 false n 0 ls [] σ) : CtH G y b nL ret hh rm av n σ QR := by
  refine vx_ofWH (cc := b) (maxL := nL) (ret := ret) (hh := hh) hy rfl ?_
  intro p e s m args below meth c s₁ B hml hv
  obtain ⟨rfl, hX, hP, hZ⟩ := hv
  have htab : c.exceptionTable.toList = tableOf hh := vx_table (x := y) B (atoms_spec (ws := [.codeWith y b nL ret hh]) B.pre _ List.mem_cons_self)
  have hg : Gd G (p, e, s, m, av.toArray, below, meth, c, (headSpec [.codeWith y b nL ret hh] rm).room) y.cls b nL ret rm hh := ⟨B.exec, B.bytes, hml, B.returns, B.notSynchronized, findClass_of_methodNamed B.named, hX, Nat.le_trans (Nat.le_add_right _ _) hZ.1, rfl, htab⟩
  have hb := body (p, e, s, m, av.toArray, below, meth, c, (headSpec [.codeWith y b nL ret hh] rm).room) hg
  have hl := lv_entry av (n := nL) hle
  rw [lg_entry_eq]
  refine hb _ s.heap [] ?_ hP hZ va_S.rf
  show q_lh _ c.maxLocals ls
  rw [hml]
  refine q_has_lh hl fun i v hi => ?_
  rw [← hls] at hi
  unfold q_ent at hi
  have h2 : (q_arg av)[i]? = some (some v) := by
    by_cases hil : i < (q_arg av).length
    · rw [List.getElem?_append_left hil] at hi; exact hi
    · rw [List.getElem?_append_right (by omega)] at hi
      have := List.eq_of_mem_replicate (List.mem_of_getElem? hi)
      cases this
  have h3 := q_arg_at av 0 i v h2
  rw [Nat.zero_add] at h3
  exact h3
def q_lkH (own : String) (ix : Nat) (y : MethodName) (b : ByteArray) (nL : Nat) (ret : Option FieldType) (hh : List (Nat × Nat × Nat × Nat)) (na : Nat) : Prop :=
  Cond.methodLink own ix y ∈ lw_tbl ∧ Cond.codeWith y b nL ret hh ∈ lw_tbl ∧ Cond.initialized y.cls ∈ lw_tbl ∧ (y.cls ≠ "java/lang/invoke/MethodHandle" ∧ y.cls ≠ "java/lang/invoke/VarHandle") ∧ (parseMethodDescriptor y.desc).map (fun d => d.parameters.length) = some na
theorem A_callSH {y : MethodName} {cb : ByteArray} {cL ix na : Nat} {cret : Option FieldType} {ch : List (Nat × Nat × Nat × Nat)} {rm : Room} {As rest : List Value} {QR : Option Value → (Nat → va_E) → Prop} (g : Gd G K own b nL ret R hh) (lk : q_lkH own ix y cb cL cret ch na) (hin : Cond.static y ∈ lw_tbl) (d : decode b pc = .ok (.invokestatic ix, 3)) (hR : q_rm rm R cL) (hf : kc + rm.cells ≤ R.cells ∧ ks + rm.slots ≤ R.slots) (hst : st = As.reverse ++ rest) (hna : As.length = na) (hcat : (rest.map fun v => v.category).sum ≤ 8)
    (hC : CtH G y cb cL cret ch rm As n σ QR)
    (kk : ∀ (v : Option Value) (σ' : Nat → va_E), QR v σ' → AJ G K Q (kc + rm.cells) (ks + rm.slots) false n (pc + 3) ls (v.toList ++ rest) σ') : AJ G K Q kc ks false n pc ls st σ := by
  have X := g.2.2.2.2.2.2.1
  have hRe := g.2.2.2.2.2.2.2.2.1
  refine A_run g (mc := rm.cells) (ms := rm.slots) (rest := rest) (a := As.toArray) (QR := fun v n' σ' => n' = n ∧ QR v σ') (QX := q_noX) (fun lsA H locs h1 h2 h3 h4 => ?_) q_nx (fun v n' σ' hq => by rw [hq.1]; exact kk v σ' hq.2)
  have hp := q_pre (av := As) X g.2.2.2.2.2.2.2.1 h2 h3 h4
  have hR2 : q_rm rm (k_R K) cL := by rw [hRe]; exact hR
  exact vx_runSX (nL := nL) (Ts := []) (hh := ch) ⟨g.1, g.2.1, g.2.2.1, g.2.2.2.2.2.1, fun _ h => nomatch h⟩ hC ⟨⟨rfl, rfl, hR2.1, hR2.2, q_pay X lk.2.1 rfl, List.mem_cons_self⟩, q_word X lk.2.1 rfl _, q_word X lk.2.2.1 rfl _, lk.2.2.2.1, q_len lk.2.2.2.2, q_word X lk.1 rfl _, q_word X hin rfl _⟩ hp rfl hna (h1.1.trans g.2.2.1) hst (lv_room hcat) d (by rw [hRe]; exact hf)
theorem q_nc {U : State} (X : q_Xt G U) {E nm : String} (i : Nat) (h : q_fl0[i]? = some (Cond.not (.castable E nm))) : va_Nc E nm U := by
  obtain ⟨b, hw, hg⟩ := q_giv2 X.1
  exact va_Nc.moved X.2.1.alike (va_Nc.of (hg i _ h))
/-- caught by the row (st, en, hp, ct) of the table, behind rows p that name other classes -/
theorem A_caught (g : Gd G K own b nL ret R hh) {E : String} (p s : List (Nat × Nat × Nat × Nat)) {t0 t1 hp ct : Nat} (hs : hh = p ++ (t0, t1, hp, ct) :: s) (hcov : (decide (t0 ≤ pc) && decide (pc < t1)) = true) (h0 : ct ≠ 0) (hl : Cond.classLink own ct E ∈ lw_tbl) (hcast : Cond.castable E E ∈ lw_tbl)
    (hpass : ∀ z ∈ p, z.2.2.2 ≠ 0 ∧ ∃ nm : String, Cond.classLink own z.2.2.2 nm ∈ lw_tbl ∧ ∀ U : State, q_Xt G U → va_Nc E nm U)
    (kk : ∀ q : Nat, AJ G K Q kc ks false n hp ls [.ref q] σ) : AX G K Q kc ks n pc ls st σ E := by
  intro lsA H locs q ce h1 h2 h3 h4 hce hcv hcl
  have X := g.2.2.2.2.2.2.1
  refine vx_catch (own := own) (name := E) g.2.2.2.2.2.1 (tableOf p) ⟨t0, t1, hp, ct⟩ (tableOf s) ?_ ?_ ?_ h0 (q_word X hl rfl _) (q_word X hcast rfl _) hce hcv hcl (kk q lsA H locs h1 h2 h3 h4)
  · rw [g.2.2.2.2.2.2.2.2.2, hs]
    unfold tableOf
    rw [List.map_append]; rfl
  · intro z hz
    obtain ⟨w, hw, rfl⟩ := List.mem_map.mp hz
    obtain ⟨z0, nm, z1, z2⟩ := hpass w hw
    exact Or.inr ⟨z0, nm, q_word X z1 rfl _, z2 _ X⟩
  · exact hcov
/-- the script -/
def q_scr (G : GL) (K : KC) (bs L : Nat) (xs : Nat → Int32) : Prop := va_X bs L xs (k_s K) (k_s K).heap ∧ bs < (k_s K).heap.size ∧ ¬ q_A G bs ∧ L < 2 ^ 31
theorem A_sld (g : Gd G K own b nL ret R hh) {bs L : Nat} {xs : Nat → Int32} (hX : q_scr G K bs L xs) (j : Nat) (hj : j < L) (d : decode b pc = .ok (.iaload, 1)) (kk : AJ G K Q kc ks ex n (pc + 1) ls (.int (xs j) :: st) σ) : AJ G K Q kc ks ex n pc ls (.int (nI j) :: .ref bs :: st) σ := by
  intro lsA H locs h1 h2 h3 h4
  refine va_sld g.1 g.2.1 hX.1 hX.2.1 hX.2.2.1 h4 (vp_in_nI hj hX.2.2.2) d ?_
  rw [nI_clamp (Nat.lt_trans hj hX.2.2.2)]
  exact kk lsA H locs h1 h2 h3 h4
theorem A_slen (g : Gd G K own b nL ret R hh) {bs L : Nat} {xs : Nat → Int32} (hX : q_scr G K bs L xs) (d : decode b pc = .ok (.arraylength, 1)) (kk : AJ G K Q kc ks ex n (pc + 1) ls (.int (nI L) :: st) σ) : AJ G K Q kc ks ex n pc ls (.ref bs :: st) σ := fun lsA H locs h1 h2 h3 h4 => va_slen g.1 g.2.1 hX.1 hX.2.1 hX.2.2.1 h4 d (kk lsA H locs h1 h2 h3 h4)
theorem lc_self (x : Int64) : lg_cmp x x = 0 := (lg_cmp_eq x x).mpr rfl
end
section
theorem lkH_164 : q_lkH RL 164 yL_count cL_count 4 (some .int) [(0, 9, 12, 13)] 3 := ⟨q_mt 813 (by decide +kernel), q_mt 815 (by decide +kernel), q_mt 0 (by decide +kernel), ⟨by decide +kernel, by decide +kernel⟩, by decide +kernel⟩
theorem stH_L_count : Cond.static yL_count ∈ lw_tbl := q_mt 814 (by decide +kernel)
theorem lkH_173 : q_lkH RL 173 yL_account cL_account 5 (some .int) [(0, 10, 13, 19), (0, 10, 17, 13)] 4 := ⟨q_mt 921 (by decide +kernel), q_mt 923 (by decide +kernel), q_mt 0 (by decide +kernel), ⟨by decide +kernel, by decide +kernel⟩, by decide +kernel⟩
theorem stH_L_account : Cond.static yL_account ∈ lw_tbl := q_mt 922 (by decide +kernel)
theorem lkH_177 : q_lkH RL 177 yL_turn cL_turn 5 (some .int) [(0, 10, 13, 19), (0, 10, 17, 13)] 4 := ⟨q_mt 956 (by decide +kernel), q_mt 958 (by decide +kernel), q_mt 0 (by decide +kernel), ⟨by decide +kernel, by decide +kernel⟩, by decide +kernel⟩
theorem stH_L_turn : Cond.static yL_turn ∈ lw_tbl := q_mt 957 (by decide +kernel)
theorem lkH_180 : q_lkH RL 180 yL_rule cL_rule 5 (some .int) [(0, 10, 13, 19), (0, 10, 17, 13)] 4 := ⟨q_mt 968 (by decide +kernel), q_mt 970 (by decide +kernel), q_mt 0 (by decide +kernel), ⟨by decide +kernel, by decide +kernel⟩, by decide +kernel⟩
theorem stH_L_rule : Cond.static yL_rule ∈ lw_tbl := q_mt 969 (by decide +kernel)
theorem lkH_183 : q_lkH RL 183 yL_only cL_only 5 (some .int) [(0, 10, 13, 19)] 4 := ⟨q_mt 1002 (by decide +kernel), q_mt 1004 (by decide +kernel), q_mt 0 (by decide +kernel), ⟨by decide +kernel, by decide +kernel⟩, by decide +kernel⟩
theorem stH_L_only : Cond.static yL_only ∈ lw_tbl := q_mt 1003 (by decide +kernel)
theorem lkH_186 : q_lkH RL 186 yL_barred cL_barred 6 (some .int) [(0, 12, 15, 19)] 5 := ⟨q_mt 1013 (by decide +kernel), q_mt 1015 (by decide +kernel), q_mt 0 (by decide +kernel), ⟨by decide +kernel, by decide +kernel⟩, by decide +kernel⟩
theorem stH_L_barred : Cond.static yL_barred ∈ lw_tbl := q_mt 1014 (by decide +kernel)
theorem lkH_190 : q_lkH RL 190 yL_ruleLetter cL_ruleLetter 5 (some .int) [(0, 10, 13, 19)] 4 := ⟨q_mt 1024 (by decide +kernel), q_mt 1026 (by decide +kernel), q_mt 0 (by decide +kernel), ⟨by decide +kernel, by decide +kernel⟩, by decide +kernel⟩
theorem stH_L_ruleLetter : Cond.static yL_ruleLetter ∈ lw_tbl := q_mt 1025 (by decide +kernel)
theorem lkH_193 : q_lkH RL 193 yL_part cL_part 5 (some .int) [(0, 10, 13, 19), (0, 10, 17, 13)] 4 := ⟨q_mt 1032 (by decide +kernel), q_mt 1034 (by decide +kernel), q_mt 0 (by decide +kernel), ⟨by decide +kernel, by decide +kernel⟩, by decide +kernel⟩
theorem stH_L_part : Cond.static yL_part ∈ lw_tbl := q_mt 1033 (by decide +kernel)
theorem lkH_196 : q_lkH RL 196 yL_allows cL_allows 6 (some .int) [(0, 19, 22, 19), (0, 19, 26, 13)] 5 := ⟨q_mt 1056 (by decide +kernel), q_mt 1058 (by decide +kernel), q_mt 0 (by decide +kernel), ⟨by decide +kernel, by decide +kernel⟩, by decide +kernel⟩
theorem stH_L_allows : Cond.static yL_allows ∈ lw_tbl := q_mt 1057 (by decide +kernel)
theorem lkH_200 : q_lkH RL 200 yL_whyNot cL_whyNot 6 (some .int) [(0, 12, 15, 19)] 5 := ⟨q_mt 1067 (by decide +kernel), q_mt 1069 (by decide +kernel), q_mt 0 (by decide +kernel), ⟨by decide +kernel, by decide +kernel⟩, by decide +kernel⟩
theorem stH_L_whyNot : Cond.static yL_whyNot ∈ lw_tbl := q_mt 1068 (by decide +kernel)
theorem lkH_203 : q_lkH RL 203 yL_value cL_value 6 (some .int) [(0, 12, 15, 19), (0, 12, 19, 13)] 5 := ⟨q_mt 1083 (by decide +kernel), q_mt 1085 (by decide +kernel), q_mt 0 (by decide +kernel), ⟨by decide +kernel, by decide +kernel⟩, by decide +kernel⟩
theorem stH_L_value : Cond.static yL_value ∈ lw_tbl := q_mt 1084 (by decide +kernel)
theorem lkH_206 : q_lkH RL 206 yL_span cL_span 6 (some .int) [(0, 12, 15, 19), (0, 12, 19, 13)] 5 := ⟨q_mt 1091 (by decide +kernel), q_mt 1093 (by decide +kernel), q_mt 0 (by decide +kernel), ⟨by decide +kernel, by decide +kernel⟩, by decide +kernel⟩
theorem stH_L_span : Cond.static yL_span ∈ lw_tbl := q_mt 1092 (by decide +kernel)
theorem lkH_209 : q_lkH RL 209 yL_losing cL_losing 6 (some .int) [(0, 12, 15, 19)] 5 := ⟨q_mt 1102 (by decide +kernel), q_mt 1104 (by decide +kernel), q_mt 0 (by decide +kernel), ⟨by decide +kernel, by decide +kernel⟩, by decide +kernel⟩
theorem stH_L_losing : Cond.static yL_losing ∈ lw_tbl := q_mt 1103 (by decide +kernel)
theorem lkH_212 : q_lkH RL 212 yL_partner cL_partner 5 (some .int) [(0, 10, 13, 19), (0, 10, 17, 13)] 4 := ⟨q_mt 1113 (by decide +kernel), q_mt 1115 (by decide +kernel), q_mt 0 (by decide +kernel), ⟨by decide +kernel, by decide +kernel⟩, by decide +kernel⟩
theorem stH_L_partner : Cond.static yL_partner ∈ lw_tbl := q_mt 1114 (by decide +kernel)
theorem lkH_215 : q_lkH RL 215 yL_golden cL_golden 6 (some .int) [(0, 12, 15, 13)] 5 := ⟨q_mt 1120 (by decide +kernel), q_mt 1122 (by decide +kernel), q_mt 0 (by decide +kernel), ⟨by decide +kernel, by decide +kernel⟩, by decide +kernel⟩
theorem stH_L_golden : Cond.static yL_golden ∈ lw_tbl := q_mt 1121 (by decide +kernel)
theorem lkH_218 : q_lkH RL 218 yL_goldenOf cL_goldenOf 5 (some .int) [(0, 10, 13, 13)] 4 := ⟨q_mt 1136 (by decide +kernel), q_mt 1138 (by decide +kernel), q_mt 0 (by decide +kernel), ⟨by decide +kernel, by decide +kernel⟩, by decide +kernel⟩
theorem stH_L_goldenOf : Cond.static yL_goldenOf ∈ lw_tbl := q_mt 1137 (by decide +kernel)
theorem lkH_221 : q_lkH RL 221 yL_goldenPartner cL_goldenPartner 5 (some .int) [(0, 9, 12, 13)] 4 := ⟨q_mt 1147 (by decide +kernel), q_mt 1149 (by decide +kernel), q_mt 0 (by decide +kernel), ⟨by decide +kernel, by decide +kernel⟩, by decide +kernel⟩
theorem stH_L_goldenPartner : Cond.static yL_goldenPartner ∈ lw_tbl := q_mt 1148 (by decide +kernel)
theorem lkH_224 : q_lkH RL 224 yL_goldenMany cL_goldenMany 5 (some .int) [(0, 10, 13, 13)] 4 := ⟨q_mt 1154 (by decide +kernel), q_mt 1156 (by decide +kernel), q_mt 0 (by decide +kernel), ⟨by decide +kernel, by decide +kernel⟩, by decide +kernel⟩
theorem stH_L_goldenMany : Cond.static yL_goldenMany ∈ lw_tbl := q_mt 1155 (by decide +kernel)
theorem lkH_227 : q_lkH RL 227 yL_summand cL_summand 5 (some .int) [(0, 10, 13, 13)] 4 := ⟨q_mt 1161 (by decide +kernel), q_mt 1163 (by decide +kernel), q_mt 0 (by decide +kernel), ⟨by decide +kernel, by decide +kernel⟩, by decide +kernel⟩
theorem stH_L_summand : Cond.static yL_summand ∈ lw_tbl := q_mt 1162 (by decide +kernel)
theorem lkH_230 : q_lkH RL 230 yL_leastPlace cL_leastPlace 4 (some .int) [(0, 9, 12, 13)] 3 := ⟨q_mt 1170 (by decide +kernel), q_mt 1172 (by decide +kernel), q_mt 0 (by decide +kernel), ⟨by decide +kernel, by decide +kernel⟩, by decide +kernel⟩
theorem stH_L_leastPlace : Cond.static yL_leastPlace ∈ lw_tbl := q_mt 1171 (by decide +kernel)
theorem lkH_233 : q_lkH RL 233 yL_gap cL_gap 4 (some .int) [(0, 9, 12, 19)] 3 := ⟨q_mt 1177 (by decide +kernel), q_mt 1179 (by decide +kernel), q_mt 0 (by decide +kernel), ⟨by decide +kernel, by decide +kernel⟩, by decide +kernel⟩
theorem stH_L_gap : Cond.static yL_gap ∈ lw_tbl := q_mt 1178 (by decide +kernel)
theorem lkH_236 : q_lkH RL 236 yL_advice cL_advice 4 (some .int) [(0, 9, 12, 13)] 3 := ⟨q_mt 1184 (by decide +kernel), q_mt 1186 (by decide +kernel), q_mt 0 (by decide +kernel), ⟨by decide +kernel, by decide +kernel⟩, by decide +kernel⟩
theorem stH_L_advice : Cond.static yL_advice ∈ lw_tbl := q_mt 1185 (by decide +kernel)
theorem lkH_247 : q_lkH RL 247 yL_totalBehind cL_totalBehind 6 (some .int) [(0, 12, 15, 19)] 5 := ⟨q_mt 1191 (by decide +kernel), q_mt 1193 (by decide +kernel), q_mt 0 (by decide +kernel), ⟨by decide +kernel, by decide +kernel⟩, by decide +kernel⟩
theorem stH_L_totalBehind : Cond.static yL_totalBehind ∈ lw_tbl := q_mt 1192 (by decide +kernel)
theorem lkH_250 : q_lkH RL 250 yL_changedBy cL_changedBy 6 (some .int) [(0, 12, 15, 19), (0, 12, 19, 13)] 5 := ⟨q_mt 1198 (by decide +kernel), q_mt 1200 (by decide +kernel), q_mt 0 (by decide +kernel), ⟨by decide +kernel, by decide +kernel⟩, by decide +kernel⟩
theorem stH_L_changedBy : Cond.static yL_changedBy ∈ lw_tbl := q_mt 1199 (by decide +kernel)
theorem lkH_253 : q_lkH RL 253 yL_losingWith cL_losingWith 5 (some .int) [(0, 10, 13, 19), (0, 10, 17, 13)] 4 := ⟨q_mt 1224 (by decide +kernel), q_mt 1226 (by decide +kernel), q_mt 0 (by decide +kernel), ⟨by decide +kernel, by decide +kernel⟩, by decide +kernel⟩
theorem stH_L_losingWith : Cond.static yL_losingWith ∈ lw_tbl := q_mt 1225 (by decide +kernel)
theorem lkH_256 : q_lkH RL 256 yL_share cL_share 4 (some .int) [(0, 9, 12, 19)] 3 := ⟨q_mt 1231 (by decide +kernel), q_mt 1233 (by decide +kernel), q_mt 0 (by decide +kernel), ⟨by decide +kernel, by decide +kernel⟩, by decide +kernel⟩
theorem stH_L_share : Cond.static yL_share ∈ lw_tbl := q_mt 1232 (by decide +kernel)
theorem lkH_260 : q_lkH RL 260 yL_meanValue cL_meanValue 4 (some .int) [(0, 8, 11, 19)] 3 := ⟨q_mt 1239 (by decide +kernel), q_mt 1241 (by decide +kernel), q_mt 0 (by decide +kernel), ⟨by decide +kernel, by decide +kernel⟩, by decide +kernel⟩
theorem stH_L_meanValue : Cond.static yL_meanValue ∈ lw_tbl := q_mt 1240 (by decide +kernel)
theorem lkH_263 : q_lkH RL 263 yL_move cL_move 6 (some .int) [(0, 12, 15, 19), (0, 12, 19, 105)] 5 := ⟨q_mt 1247 (by decide +kernel), q_mt 1249 (by decide +kernel), q_mt 0 (by decide +kernel), ⟨by decide +kernel, by decide +kernel⟩, by decide +kernel⟩
theorem stH_L_move : Cond.static yL_move ∈ lw_tbl := q_mt 1248 (by decide +kernel)
theorem lkH_266 : q_lkH RL 266 yL_follow cL_follow 4 (some .int) [(0, 9, 12, 13)] 3 := ⟨q_mt 1289 (by decide +kernel), q_mt 1291 (by decide +kernel), q_mt 0 (by decide +kernel), ⟨by decide +kernel, by decide +kernel⟩, by decide +kernel⟩
theorem stH_L_follow : Cond.static yL_follow ∈ lw_tbl := q_mt 1290 (by decide +kernel)
theorem lkH_269 : q_lkH RL 269 yL_bar cL_bar 7 (some .int) [(0, 14, 17, 19), (0, 14, 21, 13), (0, 14, 25, 105)] 6 := ⟨q_mt 1296 (by decide +kernel), q_mt 1298 (by decide +kernel), q_mt 0 (by decide +kernel), ⟨by decide +kernel, by decide +kernel⟩, by decide +kernel⟩
theorem stH_L_bar : Cond.static yL_bar ∈ lw_tbl := q_mt 1297 (by decide +kernel)
theorem lkH_273 : q_lkH RL 273 yL_setSlack cL_setSlack 5 (some .int) [(0, 10, 13, 19), (0, 10, 17, 13)] 4 := ⟨q_mt 1304 (by decide +kernel), q_mt 1306 (by decide +kernel), q_mt 0 (by decide +kernel), ⟨by decide +kernel, by decide +kernel⟩, by decide +kernel⟩
theorem stH_L_setSlack : Cond.static yL_setSlack ∈ lw_tbl := q_mt 1305 (by decide +kernel)
theorem lkH_276 : q_lkH RL 276 yL_setMost cL_setMost 5 (some .int) [(0, 10, 13, 19), (0, 10, 17, 13)] 4 := ⟨q_mt 1311 (by decide +kernel), q_mt 1313 (by decide +kernel), q_mt 0 (by decide +kernel), ⟨by decide +kernel, by decide +kernel⟩, by decide +kernel⟩
theorem stH_L_setMost : Cond.static yL_setMost ∈ lw_tbl := q_mt 1312 (by decide +kernel)
theorem lkH_279 : q_lkH RL 279 yL_again cL_again 4 (some .int) [(0, 9, 12, 19)] 3 := ⟨q_mt 1318 (by decide +kernel), q_mt 1320 (by decide +kernel), q_mt 0 (by decide +kernel), ⟨by decide +kernel, by decide +kernel⟩, by decide +kernel⟩
theorem stH_L_again : Cond.static yL_again ∈ lw_tbl := q_mt 1319 (by decide +kernel)
theorem lkH_282 : q_lkH RL 282 yL_undo cL_undo 3 (some .int) [(0, 8, 11, 127)] 2 := ⟨q_mt 1329 (by decide +kernel), q_mt 1331 (by decide +kernel), q_mt 0 (by decide +kernel), ⟨by decide +kernel, by decide +kernel⟩, by decide +kernel⟩
theorem stH_L_undo : Cond.static yL_undo ∈ lw_tbl := q_mt 1330 (by decide +kernel)
theorem lkH_290 : q_lkH RL 290 yL_printRule cL_printRule 4 (some .int) [(0, 9, 12, 19)] 3 := ⟨q_mt 1357 (by decide +kernel), q_mt 1359 (by decide +kernel), q_mt 0 (by decide +kernel), ⟨by decide +kernel, by decide +kernel⟩, by decide +kernel⟩
theorem stH_L_printRule : Cond.static yL_printRule ∈ lw_tbl := q_mt 1358 (by decide +kernel)
theorem lkH_297 : q_lkH RL 297 yL_keep cL_keep 4 (some .int) [(0, 9, 12, 13)] 3 := ⟨q_mt 1381 (by decide +kernel), q_mt 1383 (by decide +kernel), q_mt 0 (by decide +kernel), ⟨by decide +kernel, by decide +kernel⟩, by decide +kernel⟩
theorem stH_L_keep : Cond.static yL_keep ∈ lw_tbl := q_mt 1382 (by decide +kernel)
theorem lkH_300 : q_lkH RL 300 yL_bringBack cL_bringBack 4 (some .int) [(0, 9, 12, 13), (0, 9, 15, 127)] 3 := ⟨q_mt 1388 (by decide +kernel), q_mt 1390 (by decide +kernel), q_mt 0 (by decide +kernel), ⟨by decide +kernel, by decide +kernel⟩, by decide +kernel⟩
theorem stH_L_bringBack : Cond.static yL_bringBack ∈ lw_tbl := q_mt 1389 (by decide +kernel)
end
section
theorem clk_13 : Cond.classLink RL 13 "java/lang/IllegalArgumentException" ∈ lw_tbl := q_mt 816 (by decide +kernel)
theorem cst_13 : Cond.castable "java/lang/IllegalArgumentException" "java/lang/IllegalArgumentException" ∈ lw_tbl := q_mt 855 (by decide +kernel)
theorem clk_19 : Cond.classLink RL 19 "java/lang/IndexOutOfBoundsException" ∈ lw_tbl := q_mt 924 (by decide +kernel)
theorem cst_19 : Cond.castable "java/lang/IndexOutOfBoundsException" "java/lang/IndexOutOfBoundsException" ∈ lw_tbl := q_mt 934 (by decide +kernel)
theorem clk_105 : Cond.classLink RL 105 "java/lang/IllegalStateException" ∈ lw_tbl := q_mt 1250 (by decide +kernel)
theorem cst_105 : Cond.castable "java/lang/IllegalStateException" "java/lang/IllegalStateException" ∈ lw_tbl := q_mt 1257 (by decide +kernel)
theorem clk_127 : Cond.classLink RL 127 "java/util/NoSuchElementException" ∈ lw_tbl := q_mt 1332 (by decide +kernel)
theorem cst_127 : Cond.castable "java/util/NoSuchElementException" "java/util/NoSuchElementException" ∈ lw_tbl := q_mt 1339 (by decide +kernel)
theorem nc_13_19 {G : GL} (U : State) (X : q_Xt G U) : va_Nc "java/lang/IllegalArgumentException" "java/lang/IndexOutOfBoundsException" U := q_nc X 83 (by decide +kernel)
theorem nc_13_105 {G : GL} (U : State) (X : q_Xt G U) : va_Nc "java/lang/IllegalArgumentException" "java/lang/IllegalStateException" U := q_nc X 98 (by decide +kernel)
theorem nc_13_127 {G : GL} (U : State) (X : q_Xt G U) : va_Nc "java/lang/IllegalArgumentException" "java/util/NoSuchElementException" U := q_nc X 113 (by decide +kernel)
theorem nc_19_13 {G : GL} (U : State) (X : q_Xt G U) : va_Nc "java/lang/IndexOutOfBoundsException" "java/lang/IllegalArgumentException" U := q_nc X 68 (by decide +kernel)
theorem nc_19_105 {G : GL} (U : State) (X : q_Xt G U) : va_Nc "java/lang/IndexOutOfBoundsException" "java/lang/IllegalStateException" U := q_nc X 99 (by decide +kernel)
theorem nc_19_127 {G : GL} (U : State) (X : q_Xt G U) : va_Nc "java/lang/IndexOutOfBoundsException" "java/util/NoSuchElementException" U := q_nc X 114 (by decide +kernel)
theorem nc_105_13 {G : GL} (U : State) (X : q_Xt G U) : va_Nc "java/lang/IllegalStateException" "java/lang/IllegalArgumentException" U := q_nc X 69 (by decide +kernel)
theorem nc_105_19 {G : GL} (U : State) (X : q_Xt G U) : va_Nc "java/lang/IllegalStateException" "java/lang/IndexOutOfBoundsException" U := q_nc X 84 (by decide +kernel)
theorem nc_105_127 {G : GL} (U : State) (X : q_Xt G U) : va_Nc "java/lang/IllegalStateException" "java/util/NoSuchElementException" U := q_nc X 115 (by decide +kernel)
theorem nc_127_13 {G : GL} (U : State) (X : q_Xt G U) : va_Nc "java/util/NoSuchElementException" "java/lang/IllegalArgumentException" U := q_nc X 70 (by decide +kernel)
theorem nc_127_19 {G : GL} (U : State) (X : q_Xt G U) : va_Nc "java/util/NoSuchElementException" "java/lang/IndexOutOfBoundsException" U := q_nc X 85 (by decide +kernel)
theorem nc_127_105 {G : GL} (U : State) (X : q_Xt G U) : va_Nc "java/util/NoSuchElementException" "java/lang/IllegalStateException" U := q_nc X 100 (by decide +kernel)
end
