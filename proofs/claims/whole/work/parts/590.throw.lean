section
theorem q_notr {G : GL} (h : q_Ok G) : G.1.stackTraces = false := by
  unfold Launch.stackTraces
  rw [h.1]
  decide +kernel
theorem q_Zq {G : GL} {s : State} (X : q_Xt G s) {C n d : String} {i : Nat} (hl : Cond.laysStatic C n d ∈ lw_tbl) (hini : Cond.initialized C ∈ lw_tbl) (hr : q_fl0[i]? = some (Cond.isRef (.static C n d))) : vx_Zq C n d (q_A G) s s.heap := by
  obtain ⟨b, hw, hg⟩ := q_giv2 X.1
  have h0 : vx_Zq C n d (q_A G) (q_0 G) (q_0 G).heap := vx_Zqof (hw _ hl) (hw _ hini) (hg i _ hr) (fun a ha hA => by
    have hz := X.1.2.1
    exact absurd hA (Nat.not_le.mpr (by rw [hz] at ha; exact ha)))
  refine (vx_Zq.moved X.2.1.alike h0).kept (fun a _ hA => X.2.2 a (Nat.not_le.mp hA))
theorem q_ZU {G : GL} {s : State} (X : q_Xt G s) : vx_Zq Bundle.tN "UNASSIGNED_STACK" Bundle.steD (q_A G) s s.heap := q_Zq X (i := 9) (q_mt 880 (by decide +kernel)) (q_mt 20 (by decide +kernel)) (by decide +kernel)
theorem q_ZN {G : GL} {s : State} (X : q_Xt G s) : vx_Zq Bundle.tN "SUPPRESSED_SENTINEL" Bundle.listD (q_A G) s s.heap := q_Zq X (i := 10) (q_mt 882 (by decide +kernel)) (q_mt 20 (by decide +kernel)) (by decide +kernel)
/-- an exception is thrown with a text, and leaves the method -/
theorem A_throwS {G : GL} {K : KC} {kc ks : Nat} {ex : Bool} {n : Nat} {pc : Nat} {ls : List (Option Value)} {st : List Value} {σ : Nat → va_E} {own : String} {b : ByteArray} {nL : Nat} {ret : Option FieldType} {R : Room} (g : Gd G K own b nL ret R []) {cls text : String} {names : List String} {ik is ic mc ms : Nat} {QR : Option Value → Nat → (Nat → va_E) → Prop} {QX : String → (Nat → va_E) → Prop}
    (hcls : Bundle.fit cls = true) (hnames : (names.all Bundle.fit) = true) (hk : Cond.classLink own ik cls ∈ lw_tbl) (hini : Cond.initialized cls ∈ lw_tbl) (hstr : Cond.stringRef own is text ∈ lw_tbl) (hat : ∀ w ∈ vx_atS own ic cls names, w ∈ lw_tbl) (hgw : ((Cond.classLink own ik cls :: Cond.initialized cls :: vx_atS own ic cls names).all fun w => q_gw w && vx_ot w) = true)
    (d0 : decode b pc = .ok (.new ik, 3)) (d3 : decode b (pc + 3) = .ok (.dup, 1)) (d4 : decode b (pc + 4) = .ok (.ldc is, 2)) (d6 : decode b (pc + 6) = .ok (.invokespecial ic, 3)) (d9 : decode b (pc + 9) = .ok (.athrow, 1))
    (hR : names.length + 3 < R.frames ∧ (st.map fun v => v.category).sum + (13 * (names.length + 1) + 43) ≤ R.locals ∧ kc + 1 ≤ R.cells ∧ ks + 6 ≤ R.slots) (hc : kc + 1 ≤ mc) (hs : ks + 6 ≤ ms) (hq : QX cls σ) : AJ G K (q_Q G K ex n mc ms QR QX) kc ks ex n pc ls st σ := by
  intro lsA H locs h1 h2 h3 h4
  have X := g.2.2.2.2.2.2.1
  have hRe := g.2.2.2.2.2.2.2.2.1
  have hq1 := List.all_eq_true.mp hgw
  have hq2 : ∀ w ∈ Cond.classLink own ik cls :: Cond.initialized cls :: vx_atS own ic cls names, q_gw w = true ∧ vx_ot w = true := fun w hw => by
    have := hq1 w hw
    rw [Bool.and_eq_true] at this
    exact this
  obtain ⟨b9, hw9, -⟩ := q_giv2 X.1
  have hcur : (q_0 G).vm.findClass own = some (k_m K).cls := by rw [← X.2.1.alike.findClass]; exact g.2.2.2.2.2.1
  obtain ⟨k9, cf9, i9, sa, -, -, -, -, -, hev⟩ := Cond.stringRef_spec hcur (hw9 _ hstr)
  have hvk : vk_R own is text sa (k_s K) := vk_R.warm X.2.1 (vk_R.of (hw9 _ hstr) hev)
  refine vx_throwS g.1 g.2.1 (q_notr X.1) g.2.2.2.2.2.1 hcls (List.all_eq_true.mp hnames) (q_word X hk (hq2 _ List.mem_cons_self).1 _) (q_word X hini (hq2 _ (List.mem_cons_of_mem _ List.mem_cons_self)).1 _) (text := text) (sa := sa) hvk (fun w hw => q_word X (hat w hw) (hq2 _ (List.mem_cons_of_mem _ (List.mem_cons_of_mem _ hw))).1 _) (fun w hw => (hq2 w hw).2) (q_ZU X) (q_ZN X) h4 h1.1 d0 d3 d4 d6 d9 (by rw [g.2.2.2.2.2.2.2.2.2]; intro x hx; cases hx) (by rw [hRe]; exact hR.1) (by rw [hRe]; exact hR.2.1) (by rw [hRe]; exact hR.2.2.1) (by rw [hRe]; exact hR.2.2.2) g.2.2.2.2.1 (fun t ht hsz hold => ?_) h4.2.2 hc hs
  have hlow := q_low X g.2.2.2.2.2.2.2.1 h4
  have hz : ∀ q : Nat, q < q_h G + n → q < H.size := fun q hq9 => Nat.lt_of_lt_of_le hq9 h3.1
  exact ⟨σ, hq, fun q hq9 => (hold q (hz q (by omega))).trans (hlow q hq9), fun i hi => (h2 i hi).kept (hold _ (hz _ (by show q_h G + i < _; omega))), Nat.le_trans h3.1 hsz, fun e => by cases e⟩
/-- an exception is thrown with a text, and leaves the method -/
theorem A_throwSW {G : GL} {K : KC} {kc ks : Nat} {ex : Bool} {n : Nat} {pc : Nat} {ls : List (Option Value)} {st : List Value} {σ : Nat → va_E} {own : String} {b : ByteArray} {nL : Nat} {ret : Option FieldType} {R : Room} (g : Gd G K own b nL ret R []) {cls text : String} {names : List String} {ik is ic mc ms : Nat} {QR : Option Value → Nat → (Nat → va_E) → Prop} {QX : String → (Nat → va_E) → Prop}
    (hcls : Bundle.fit cls = true) (hnames : (names.all Bundle.fit) = true) (hk : Cond.classLink own ik cls ∈ lw_tbl) (hini : Cond.initialized cls ∈ lw_tbl) (hstr : Cond.stringRef own is text ∈ lw_tbl) (hat : ∀ w ∈ vx_atS own ic cls names, w ∈ lw_tbl) (hgw : ((Cond.classLink own ik cls :: Cond.initialized cls :: vx_atS own ic cls names).all fun w => q_gw w && vx_ot w) = true)
    (d0 : decode b pc = .ok (.new ik, 3)) (d3 : decode b (pc + 3) = .ok (.dup, 1)) (d4 : decode b (pc + 4) = .ok (.ldc_w is, 3)) (d6 : decode b (pc + 7) = .ok (.invokespecial ic, 3)) (d9 : decode b (pc + 10) = .ok (.athrow, 1))
    (hR : names.length + 3 < R.frames ∧ (st.map fun v => v.category).sum + (13 * (names.length + 1) + 43) ≤ R.locals ∧ kc + 1 ≤ R.cells ∧ ks + 6 ≤ R.slots) (hc : kc + 1 ≤ mc) (hs : ks + 6 ≤ ms) (hq : QX cls σ) : AJ G K (q_Q G K ex n mc ms QR QX) kc ks ex n pc ls st σ := by
  intro lsA H locs h1 h2 h3 h4
  have X := g.2.2.2.2.2.2.1
  have hRe := g.2.2.2.2.2.2.2.2.1
  have hq1 := List.all_eq_true.mp hgw
  have hq2 : ∀ w ∈ Cond.classLink own ik cls :: Cond.initialized cls :: vx_atS own ic cls names, q_gw w = true ∧ vx_ot w = true := fun w hw => by
    have := hq1 w hw
    rw [Bool.and_eq_true] at this
    exact this
  obtain ⟨b9, hw9, -⟩ := q_giv2 X.1
  have hcur : (q_0 G).vm.findClass own = some (k_m K).cls := by rw [← X.2.1.alike.findClass]; exact g.2.2.2.2.2.1
  obtain ⟨k9, cf9, i9, sa, -, -, -, -, -, hev⟩ := Cond.stringRef_spec hcur (hw9 _ hstr)
  have hvk : vk_R own is text sa (k_s K) := vk_R.warm X.2.1 (vk_R.of (hw9 _ hstr) hev)
  refine vx_throwSW g.1 g.2.1 (q_notr X.1) g.2.2.2.2.2.1 hcls (List.all_eq_true.mp hnames) (q_word X hk (hq2 _ List.mem_cons_self).1 _) (q_word X hini (hq2 _ (List.mem_cons_of_mem _ List.mem_cons_self)).1 _) (text := text) (sa := sa) hvk (fun w hw => q_word X (hat w hw) (hq2 _ (List.mem_cons_of_mem _ (List.mem_cons_of_mem _ hw))).1 _) (fun w hw => (hq2 w hw).2) (q_ZU X) (q_ZN X) h4 h1.1 d0 d3 d4 d6 d9 (by rw [g.2.2.2.2.2.2.2.2.2]; intro x hx; cases hx) (by rw [hRe]; exact hR.1) (by rw [hRe]; exact hR.2.1) (by rw [hRe]; exact hR.2.2.1) (by rw [hRe]; exact hR.2.2.2) g.2.2.2.2.1 (fun t ht hsz hold => ?_) h4.2.2 hc hs
  have hlow := q_low X g.2.2.2.2.2.2.2.1 h4
  have hz : ∀ q : Nat, q < q_h G + n → q < H.size := fun q hq9 => Nat.lt_of_lt_of_le hq9 h3.1
  exact ⟨σ, hq, fun q hq9 => (hold q (hz q (by omega))).trans (hlow q hq9), fun i hi => (h2 i hi).kept (hold _ (hz _ (by show q_h G + i < _; omega))), Nat.le_trans h3.1 hsz, fun e => by cases e⟩
/-- an exception is thrown with a text, and leaves the method -/
theorem A_throwN {G : GL} {K : KC} {kc ks : Nat} {ex : Bool} {n : Nat} {pc : Nat} {ls : List (Option Value)} {st : List Value} {σ : Nat → va_E} {own : String} {b : ByteArray} {nL : Nat} {ret : Option FieldType} {R : Room} (g : Gd G K own b nL ret R []) {cls Y9 text : String} {names : List String} {ik is ic ix mc ms : Nat} {rx : ByteArray} (x0 : decode rx 0 = .ok (.aload_n 0, 1)) (x1 : decode rx 1 = .ok (.aload_n 1, 1)) (x2 : decode rx 2 = .ok (.invokespecial ix, 3)) (x5 : decode rx 5 = .ok (.return_, 1)) {QR : Option Value → Nat → (Nat → va_E) → Prop} {QX : String → (Nat → va_E) → Prop}
    (hcls : Bundle.fit cls = true) (hY9 : Bundle.fit Y9 = true) (hnames : (names.all Bundle.fit) = true) (hk : Cond.classLink own ik cls ∈ lw_tbl) (hini : Cond.initialized cls ∈ lw_tbl) (hstr : Cond.stringRef own is text ∈ lw_tbl) (hat : ∀ w ∈ n_at own ic cls Y9 ix rx names, w ∈ lw_tbl) (hgw : ((Cond.classLink own ik cls :: Cond.initialized cls :: n_at own ic cls Y9 ix rx names).all fun w => q_gw w && vx_ot w) = true)
    (d0 : decode b pc = .ok (.new ik, 3)) (d3 : decode b (pc + 3) = .ok (.dup, 1)) (d4 : decode b (pc + 4) = .ok (.ldc_w is, 3)) (d6 : decode b (pc + 7) = .ok (.invokespecial ic, 3)) (d9 : decode b (pc + 10) = .ok (.athrow, 1))
    (hR : names.length + 4 < R.frames ∧ (st.map fun v => v.category).sum + (13 * (names.length + 2) + 43) ≤ R.locals ∧ kc + 1 ≤ R.cells ∧ ks + 6 ≤ R.slots) (hc : kc + 1 ≤ mc) (hs : ks + 6 ≤ ms) (hq : QX cls σ) : AJ G K (q_Q G K ex n mc ms QR QX) kc ks ex n pc ls st σ := by
  intro lsA H locs h1 h2 h3 h4
  have X := g.2.2.2.2.2.2.1
  have hRe := g.2.2.2.2.2.2.2.2.1
  have hq1 := List.all_eq_true.mp hgw
  have hq2 : ∀ w ∈ Cond.classLink own ik cls :: Cond.initialized cls :: n_at own ic cls Y9 ix rx names, q_gw w = true ∧ vx_ot w = true := fun w hw => by
    have := hq1 w hw
    rw [Bool.and_eq_true] at this
    exact this
  obtain ⟨b9, hw9, -⟩ := q_giv2 X.1
  have hcur : (q_0 G).vm.findClass own = some (k_m K).cls := by rw [← X.2.1.alike.findClass]; exact g.2.2.2.2.2.1
  obtain ⟨k9, cf9, i9, sa, -, -, -, -, -, hev⟩ := Cond.stringRef_spec hcur (hw9 _ hstr)
  have hvk : vk_R own is text sa (k_s K) := vk_R.warm X.2.1 (vk_R.of (hw9 _ hstr) hev)
  refine n_throwSW g.1 g.2.1 (q_notr X.1) x0 x1 x2 x5 g.2.2.2.2.2.1 hcls hY9 (List.all_eq_true.mp hnames) (q_word X hk (hq2 _ List.mem_cons_self).1 _) (q_word X hini (hq2 _ (List.mem_cons_of_mem _ List.mem_cons_self)).1 _) (text := text) (sa := sa) hvk (fun w hw => q_word X (hat w hw) (hq2 _ (List.mem_cons_of_mem _ (List.mem_cons_of_mem _ hw))).1 _) (fun w hw => (hq2 w hw).2) (q_ZU X) (q_ZN X) h4 h1.1 d0 d3 d4 d6 d9 (by rw [g.2.2.2.2.2.2.2.2.2]; intro x hx; cases hx) (by rw [hRe]; exact hR.1) (by rw [hRe]; exact hR.2.1) (by rw [hRe]; exact hR.2.2.1) (by rw [hRe]; exact hR.2.2.2) g.2.2.2.2.1 (fun t ht hsz hold => ?_) h4.2.2 hc hs
  have hlow := q_low X g.2.2.2.2.2.2.2.1 h4
  have hz : ∀ q : Nat, q < q_h G + n → q < H.size := fun q hq9 => Nat.lt_of_lt_of_le hq9 h3.1
  exact ⟨σ, hq, fun q hq9 => (hold q (hz q (by omega))).trans (hlow q hq9), fun i hi => (h2 i hi).kept (hold _ (hz _ (by show q_h G + i < _; omega))), Nat.le_trans h3.1 hsz, fun e => by cases e⟩
theorem tw_NSE : (∀ w ∈ n_at RX10 412 "java/util/NoSuchElementException" "java/lang/RuntimeException" 13 prog_32_method_4_code ["java/lang/Exception"], w ∈ lw_tbl) ∧ ((Cond.classLink RX10 408 "java/util/NoSuchElementException" :: Cond.initialized "java/util/NoSuchElementException" :: n_at RX10 412 "java/util/NoSuchElementException" "java/lang/RuntimeException" 13 prog_32_method_4_code ["java/lang/Exception"]).all fun w => q_gw w && vx_ot w) = true ∧ Cond.classLink RX10 408 "java/util/NoSuchElementException" ∈ lw_tbl ∧ Cond.initialized "java/util/NoSuchElementException" ∈ lw_tbl := ⟨goodIn_x [20, 875, 884, 889, 892, 894, 876, 877, 34, 35, 878, 883, 890, 910, 865, 911, 867, 912, 869, 879, 881, 871, 906, 907, 909, 871, 1348, 1349, 1350, 900, 857, 900, 901, 902, 903, 859, 903, 904, 905, 906, 861, 1347, 1338, 1339, 1340, 888, 1341, 1342, 1343, 1344, 874, 873, 1345] (by decide +kernel), by decide +kernel, q_mt 1337 (by decide +kernel), q_mt 27 (by decide +kernel)⟩
theorem tw_IllegalArgumentException : (∀ w ∈ vx_atS RX10 173 "java/lang/IllegalArgumentException" ["java/lang/RuntimeException", "java/lang/Exception"], w ∈ lw_tbl) ∧ ((Cond.classLink RX10 169 "java/lang/IllegalArgumentException" :: Cond.initialized "java/lang/IllegalArgumentException" :: vx_atS RX10 173 "java/lang/IllegalArgumentException" ["java/lang/RuntimeException", "java/lang/Exception"]).all fun w => q_gw w && vx_ot w) = true ∧ Cond.classLink RX10 169 "java/lang/IllegalArgumentException" ∈ lw_tbl ∧ Cond.initialized "java/lang/IllegalArgumentException" ∈ lw_tbl := ⟨goodIn_x [20, 875, 884, 889, 892, 894, 876, 877, 34, 35, 878, 883, 890, 910, 865, 911, 867, 912, 869, 879, 881, 871, 906, 907, 909, 871, 897, 898, 899, 900, 857, 900, 901, 902, 903, 859, 903, 904, 905, 906, 861, 896, 854, 855, 862, 863, 864, 866, 868, 870, 874, 873, 872] (by decide +kernel), by decide +kernel, q_mt 853 (by decide +kernel), q_mt 23 (by decide +kernel)⟩
theorem tw_IllegalStateException : (∀ w ∈ vx_atS RX10 388 "java/lang/IllegalStateException" ["java/lang/RuntimeException", "java/lang/Exception"], w ∈ lw_tbl) ∧ ((Cond.classLink RX10 384 "java/lang/IllegalStateException" :: Cond.initialized "java/lang/IllegalStateException" :: vx_atS RX10 388 "java/lang/IllegalStateException" ["java/lang/RuntimeException", "java/lang/Exception"]).all fun w => q_gw w && vx_ot w) = true ∧ Cond.classLink RX10 384 "java/lang/IllegalStateException" ∈ lw_tbl ∧ Cond.initialized "java/lang/IllegalStateException" ∈ lw_tbl := ⟨goodIn_x [20, 875, 884, 889, 892, 894, 876, 877, 34, 35, 878, 883, 890, 910, 865, 911, 867, 912, 869, 879, 881, 871, 906, 907, 909, 871, 1266, 1267, 1268, 900, 857, 900, 901, 902, 903, 859, 903, 904, 905, 906, 861, 1265, 1256, 1257, 1258, 886, 1259, 1260, 1261, 1262, 874, 873, 1263] (by decide +kernel), by decide +kernel, q_mt 1255 (by decide +kernel), q_mt 26 (by decide +kernel)⟩
theorem tw_IndexOutOfBoundsException : (∀ w ∈ vx_atS RX10 191 "java/lang/IndexOutOfBoundsException" ["java/lang/RuntimeException", "java/lang/Exception"], w ∈ lw_tbl) ∧ ((Cond.classLink RX10 187 "java/lang/IndexOutOfBoundsException" :: Cond.initialized "java/lang/IndexOutOfBoundsException" :: vx_atS RX10 191 "java/lang/IndexOutOfBoundsException" ["java/lang/RuntimeException", "java/lang/Exception"]).all fun w => q_gw w && vx_ot w) = true ∧ Cond.classLink RX10 187 "java/lang/IndexOutOfBoundsException" ∈ lw_tbl ∧ Cond.initialized "java/lang/IndexOutOfBoundsException" ∈ lw_tbl := ⟨goodIn_x [20, 875, 884, 889, 892, 894, 876, 877, 34, 35, 878, 883, 890, 910, 865, 911, 867, 912, 869, 879, 881, 871, 906, 907, 909, 871, 943, 944, 945, 900, 857, 900, 901, 902, 903, 859, 903, 904, 905, 906, 861, 942, 933, 934, 935, 887, 936, 937, 938, 939, 874, 873, 940] (by decide +kernel), by decide +kernel, q_mt 932 (by decide +kernel), q_mt 24 (by decide +kernel)⟩
end
