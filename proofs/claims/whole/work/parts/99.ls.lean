/-! What holds at the start. -/
theorem lt0 {w : Cond} (h : w ∈ tables_1_1) : w ∈ lw_tbl := List.mem_append_right _ (by unfold tables_1; simp only [List.mem_append]; simp only [h, true_or, or_true])
theorem lt1 {w : Cond} (h : w ∈ tables_1_2) : w ∈ lw_tbl := List.mem_append_right _ (by unfold tables_1; simp only [List.mem_append]; simp only [h, true_or, or_true])
theorem lt2 {w : Cond} (h : w ∈ tables_1_3) : w ∈ lw_tbl := List.mem_append_right _ (by unfold tables_1; simp only [List.mem_append]; simp only [h, true_or, or_true])
theorem lt3 {w : Cond} (h : w ∈ tables_1_4) : w ∈ lw_tbl := List.mem_append_right _ (by unfold tables_1; simp only [List.mem_append]; simp only [h, true_or, or_true])
theorem lt4 {w : Cond} (h : w ∈ tables_1_5) : w ∈ lw_tbl := List.mem_append_right _ (by unfold tables_1; simp only [List.mem_append]; simp only [h, true_or, or_true])
theorem lt5 {w : Cond} (h : w ∈ tables_1_6) : w ∈ lw_tbl := List.mem_append_right _ (by unfold tables_1; simp only [List.mem_append]; simp only [h, true_or, or_true])
theorem lt6 {w : Cond} (h : w ∈ tables_1_7) : w ∈ lw_tbl := List.mem_append_right _ (by unfold tables_1; simp only [List.mem_append]; simp only [h, true_or, or_true])
def flN : List Cond := flatC (Jvm.Cond.and given_1 narrow_1)
section SF
variable {s : State} {b : Nat}

theorem fl_BETWEEN : ∀ j : Fin 14, flN[29 + j.1]? = some (Cond.eq (.elem (.static "ControlText$Sign" "BETWEEN" "[I") (.int (Int32.ofNat j.1))) (.int (t_BETWEEN.getD j.1 0))) := by decide +kernel
theorem fl_BETWEENa : flN[27]? = some (Cond.arrayOf (.static "ControlText$Sign" "BETWEEN" "[I") .int) := by decide +kernel
theorem fl_BETWEENl : flN[28]? = some (Cond.eq (.length (.static "ControlText$Sign" "BETWEEN" "[I")) (.int (Int32.ofNat 14))) := by decide +kernel
theorem fl_BINDING : ∀ j : Fin 14, flN[12 + j.1]? = some (Cond.eq (.elem (.static "ControlText$Sign" "BINDING" "[I") (.int (Int32.ofNat j.1))) (.int (t_BINDING.getD j.1 0))) := by decide +kernel
theorem fl_BINDINGa : flN[10]? = some (Cond.arrayOf (.static "ControlText$Sign" "BINDING" "[I") .int) := by decide +kernel
theorem fl_BINDINGl : flN[11]? = some (Cond.eq (.length (.static "ControlText$Sign" "BINDING" "[I")) (.int (Int32.ofNat 14))) := by decide +kernel
theorem fs0 : ∀ j : Fin 75, flN[47 + j.1]? = some (Cond.eq (.elem (.field (.string "ControlText$Names" 26) "java/lang/String" "value" "[B") (.int (Int32.ofNat j.1))) (.int (sW0.getD j.1 0))) := by decide +kernel
theorem fs0e : flN[43]? = some (Cond.exactly (.string "ControlText$Names" 26) "java/lang/String") := by decide +kernel
theorem fs0c : flN[44]? = some (Cond.eq (.field (.string "ControlText$Names" 26) "java/lang/String" "coder" "B") (.int 0)) := by decide +kernel
theorem fs0a : flN[45]? = some (Cond.arrayOf (.field (.string "ControlText$Names" 26) "java/lang/String" "value" "[B") .byte) := by decide +kernel
theorem fs0l : flN[46]? = some (Cond.eq (.length (.field (.string "ControlText$Names" 26) "java/lang/String" "value" "[B")) (.int (Int32.ofNat 75))) := by decide +kernel
theorem fs0n : sW0.length = 75 := by decide +kernel
theorem fs1 : ∀ j : Fin 58, flN[126 + j.1]? = some (Cond.eq (.elem (.field (.string "ControlText$Names" 32) "java/lang/String" "value" "[B") (.int (Int32.ofNat j.1))) (.int (sW1.getD j.1 0))) := by decide +kernel
theorem fs1e : flN[122]? = some (Cond.exactly (.string "ControlText$Names" 32) "java/lang/String") := by decide +kernel
theorem fs1c : flN[123]? = some (Cond.eq (.field (.string "ControlText$Names" 32) "java/lang/String" "coder" "B") (.int 0)) := by decide +kernel
theorem fs1a : flN[124]? = some (Cond.arrayOf (.field (.string "ControlText$Names" 32) "java/lang/String" "value" "[B") .byte) := by decide +kernel
theorem fs1l : flN[125]? = some (Cond.eq (.length (.field (.string "ControlText$Names" 32) "java/lang/String" "value" "[B")) (.int (Int32.ofNat 58))) := by decide +kernel
theorem fs1n : sW1.length = 58 := by decide +kernel
theorem fs2 : ∀ j : Fin 39, flN[189 + j.1]? = some (Cond.eq (.elem (.field (.string "ControlText$Names" 34) "java/lang/String" "value" "[B") (.int (Int32.ofNat j.1))) (.int (sW2.getD j.1 0))) := by decide +kernel
theorem fs2e : flN[185]? = some (Cond.exactly (.string "ControlText$Names" 34) "java/lang/String") := by decide +kernel
theorem fs2c : flN[186]? = some (Cond.eq (.field (.string "ControlText$Names" 34) "java/lang/String" "coder" "B") (.int 0)) := by decide +kernel
theorem fs2a : flN[187]? = some (Cond.arrayOf (.field (.string "ControlText$Names" 34) "java/lang/String" "value" "[B") .byte) := by decide +kernel
theorem fs2l : flN[188]? = some (Cond.eq (.length (.field (.string "ControlText$Names" 34) "java/lang/String" "value" "[B")) (.int (Int32.ofNat 39))) := by decide +kernel
theorem fs2n : sW2.length = 39 := by decide +kernel
theorem fs3 : ∀ j : Fin 32, flN[234 + j.1]? = some (Cond.eq (.elem (.field (.string "ControlText$Names" 36) "java/lang/String" "value" "[B") (.int (Int32.ofNat j.1))) (.int (sW3.getD j.1 0))) := by decide +kernel
theorem fs3e : flN[230]? = some (Cond.exactly (.string "ControlText$Names" 36) "java/lang/String") := by decide +kernel
theorem fs3c : flN[231]? = some (Cond.eq (.field (.string "ControlText$Names" 36) "java/lang/String" "coder" "B") (.int 0)) := by decide +kernel
theorem fs3a : flN[232]? = some (Cond.arrayOf (.field (.string "ControlText$Names" 36) "java/lang/String" "value" "[B") .byte) := by decide +kernel
theorem fs3l : flN[233]? = some (Cond.eq (.length (.field (.string "ControlText$Names" 36) "java/lang/String" "value" "[B")) (.int (Int32.ofNat 32))) := by decide +kernel
theorem fs3n : sW3.length = 32 := by decide +kernel
theorem fs4 : ∀ j : Fin 29, flN[273 + j.1]? = some (Cond.eq (.elem (.field (.string "ControlText$Names" 38) "java/lang/String" "value" "[B") (.int (Int32.ofNat j.1))) (.int (sW4.getD j.1 0))) := by decide +kernel
theorem fs4e : flN[269]? = some (Cond.exactly (.string "ControlText$Names" 38) "java/lang/String") := by decide +kernel
theorem fs4c : flN[270]? = some (Cond.eq (.field (.string "ControlText$Names" 38) "java/lang/String" "coder" "B") (.int 0)) := by decide +kernel
theorem fs4a : flN[271]? = some (Cond.arrayOf (.field (.string "ControlText$Names" 38) "java/lang/String" "value" "[B") .byte) := by decide +kernel
theorem fs4l : flN[272]? = some (Cond.eq (.length (.field (.string "ControlText$Names" 38) "java/lang/String" "value" "[B")) (.int (Int32.ofNat 29))) := by decide +kernel
theorem fs4n : sW4.length = 29 := by decide +kernel
theorem fs5 : ∀ j : Fin 31, flN[310 + j.1]? = some (Cond.eq (.elem (.field (.string "ControlText$Names" 40) "java/lang/String" "value" "[B") (.int (Int32.ofNat j.1))) (.int (sW5.getD j.1 0))) := by decide +kernel
theorem fs5e : flN[306]? = some (Cond.exactly (.string "ControlText$Names" 40) "java/lang/String") := by decide +kernel
theorem fs5c : flN[307]? = some (Cond.eq (.field (.string "ControlText$Names" 40) "java/lang/String" "coder" "B") (.int 0)) := by decide +kernel
theorem fs5a : flN[308]? = some (Cond.arrayOf (.field (.string "ControlText$Names" 40) "java/lang/String" "value" "[B") .byte) := by decide +kernel
theorem fs5l : flN[309]? = some (Cond.eq (.length (.field (.string "ControlText$Names" 40) "java/lang/String" "value" "[B")) (.int (Int32.ofNat 31))) := by decide +kernel
theorem fs5n : sW5.length = 31 := by decide +kernel
theorem fs_cs : flN[4]? = some (Cond.eq (.static "java/lang/String" "COMPACT_STRINGS" "Z") (.int 1)) := by decide +kernel
theorem fs_fo : flN[5]? = some (Cond.isRef (.static "jdk/internal/util/Preconditions" "SIOOBE_FORMATTER" "Ljava/util/function/BiFunction;")) := by decide +kernel
theorem sf_nA : ∀ a : Nat, a < s.heap.size → ¬ (fun q : Nat => s.heap.size ≤ q) a := fun _ h => Nat.not_le.mpr h
theorem sf_in (hgv : (Jvm.Cond.and given_1 narrow_1).before #[Value.ref b] s = true) {w : Cond} {k : Nat} (h : flN[k]? = some w) : w.before #[Value.ref b] s = true := flat_of_before _ hgv _ (List.mem_of_getElem? h)
theorem sf_BETWEEN (hts : ∀ w ∈ lw_tbl, w.before #[Value.ref b] s = true) (hgv : (Jvm.Cond.and given_1 narrow_1).before #[Value.ref b] s = true) : ∃ t : Nat, va_Z "ControlText$Sign" "BETWEEN" "[I" (.ref t) (fun q : Nat => s.heap.size ≤ q) s s.heap ∧ va_T .int t 14 (fun j => .int (t_BETWEEN.getD j 0)) (fun q : Nat => s.heap.size ≤ q) s s.heap := by
  obtain ⟨t, e, h⟩ := va_Tof (tm := .static "ControlText$Sign" "BETWEEN" "[I") (ty := .int) (N := 14) (f := fun j => .int (t_BETWEEN.getD j 0)) (A := (fun q : Nat => s.heap.size ≤ q)) (by decide) (sf_in hgv fl_BETWEENa) (va_eqt (sf_in hgv fl_BETWEENl)) (fun j hj => va_eqt (sf_in hgv (fl_BETWEEN ⟨j, hj⟩))) sf_nA
  exact ⟨t, va_Zref (hts _ (lt3 (List.mem_of_getElem? (i := 20) rfl))) (hts _ (lt0 (List.mem_of_getElem? (i := 14) rfl))) e sf_nA, h⟩
theorem sf_BINDING (hts : ∀ w ∈ lw_tbl, w.before #[Value.ref b] s = true) (hgv : (Jvm.Cond.and given_1 narrow_1).before #[Value.ref b] s = true) : ∃ t : Nat, va_Z "ControlText$Sign" "BINDING" "[I" (.ref t) (fun q : Nat => s.heap.size ≤ q) s s.heap ∧ va_T .int t 14 (fun j => .int (t_BINDING.getD j 0)) (fun q : Nat => s.heap.size ≤ q) s s.heap := by
  obtain ⟨t, e, h⟩ := va_Tof (tm := .static "ControlText$Sign" "BINDING" "[I") (ty := .int) (N := 14) (f := fun j => .int (t_BINDING.getD j 0)) (A := (fun q : Nat => s.heap.size ≤ q)) (by decide) (sf_in hgv fl_BINDINGa) (va_eqt (sf_in hgv fl_BINDINGl)) (fun j hj => va_eqt (sf_in hgv (fl_BINDING ⟨j, hj⟩))) sf_nA
  exact ⟨t, va_Zref (hts _ (lt2 (List.mem_of_getElem? (i := 102) rfl))) (hts _ (lt0 (List.mem_of_getElem? (i := 14) rfl))) e sf_nA, h⟩
theorem sf_nf (hts : ∀ w ∈ lw_tbl, w.before #[Value.ref b] s = true) : ∀ q ∈ nestF, va_Nw (.fieldLinkNest q.1 q.2.1 q.2.2.1 q.2.2.2.1 q.2.2.2.2.1 q.2.2.2.2.2) s := by
  unfold nestF
  exact List.forall_mem_cons.mpr ⟨(show va_Nw (.fieldLinkNest "ControlText" 62 "ControlText$Bytes" "size" "I" "ControlText") s from va_Nw.of rfl (hts _ (lt0 (List.mem_of_getElem? (i := 31) rfl)))), List.forall_mem_cons.mpr ⟨(show va_Nw (.fieldLinkNest "ControlText$Tokens" 89 "ControlText$Bytes" "size" "I" "ControlText") s from va_Nw.of rfl (hts _ (lt0 (List.mem_of_getElem? (i := 33) rfl)))), List.forall_mem_cons.mpr ⟨(show va_Nw (.fieldLinkNest "ControlText$Writer" 141 "ControlText$Bytes" "size" "I" "ControlText") s from va_Nw.of rfl (hts _ (lt0 (List.mem_of_getElem? (i := 34) rfl)))), List.forall_mem_cons.mpr ⟨(show va_Nw (.fieldLinkNest "ControlText" 99 "ControlText$Names" "size" "I" "ControlText") s from va_Nw.of rfl (hts _ (lt0 (List.mem_of_getElem? (i := 137) rfl)))), List.forall_mem_cons.mpr ⟨(show va_Nw (.fieldLinkNest "ControlText$Parser" 100 "ControlText$Tokens" "kinds" "[I" "ControlText") s from va_Nw.of rfl (hts _ (lt0 (List.mem_of_getElem? (i := 162) rfl)))), List.forall_mem_cons.mpr ⟨(show va_Nw (.fieldLinkNest "ControlText$Parser" 104 "ControlText$Tokens" "places" "[I" "ControlText") s from va_Nw.of rfl (hts _ (lt0 (List.mem_of_getElem? (i := 164) rfl)))), List.forall_mem_cons.mpr ⟨(show va_Nw (.fieldLinkNest "ControlText$Parser" 107 "ControlText$Tokens" "values" "[I" "ControlText") s from va_Nw.of rfl (hts _ (lt0 (List.mem_of_getElem? (i := 166) rfl)))), List.forall_mem_cons.mpr ⟨(show va_Nw (.fieldLinkNest "ControlText$Parser" 97 "ControlText$Tokens" "size" "I" "ControlText") s from va_Nw.of rfl (hts _ (lt0 (List.mem_of_getElem? (i := 168) rfl)))), List.forall_mem_cons.mpr ⟨(show va_Nw (.fieldLinkNest "ControlText$Writer" 29 "ControlText$Tree" "size" "I" "ControlText") s from va_Nw.of rfl (hts _ (lt0 (List.mem_of_getElem? (i := 199) rfl)))), List.forall_mem_cons.mpr ⟨(show va_Nw (.fieldLinkNest "ControlText" 98 "ControlText$Tree" "size" "I" "ControlText") s from va_Nw.of rfl (hts _ (lt0 (List.mem_of_getElem? (i := 200) rfl)))), List.forall_mem_cons.mpr ⟨(show va_Nw (.fieldLinkNest "ControlText$Parser" 165 "ControlText$Tree" "size" "I" "ControlText") s from va_Nw.of rfl (hts _ (lt0 (List.mem_of_getElem? (i := 201) rfl)))), List.forall_mem_cons.mpr ⟨(show va_Nw (.fieldLinkNest "ControlText" 85 "ControlText$Parser" "fault" "I" "ControlText") s from va_Nw.of rfl (hts _ (lt0 (List.mem_of_getElem? (i := 236) rfl)))), List.forall_mem_cons.mpr ⟨(show va_Nw (.fieldLinkNest "ControlText" 95 "ControlText$Parser" "faultPlace" "I" "ControlText") s from va_Nw.of rfl (hts _ (lt0 (List.mem_of_getElem? (i := 238) rfl)))), fun _ h => absurd h List.not_mem_nil⟩⟩⟩⟩⟩⟩⟩⟩⟩⟩⟩⟩⟩
theorem sf_nm (hts : ∀ w ∈ lw_tbl, w.before #[Value.ref b] s = true) : ∀ q ∈ nestM, va_Nw (.methodLinkNest q.1 q.2.1 q.2.2.1 q.2.2.2) s := by
  unfold nestM
  exact List.forall_mem_cons.mpr ⟨(show va_Nw (.methodLinkNest "ControlText$Names" 66 yX6_great "ControlText") s from va_Nw.of rfl (hts _ (lt0 (List.mem_of_getElem? (i := 124) rfl)))), List.forall_mem_cons.mpr ⟨(show va_Nw (.methodLinkNest "ControlText" 39 yX3_init "ControlText") s from va_Nw.of rfl (hts _ (lt0 (List.mem_of_getElem? (i := 187) rfl)))), List.forall_mem_cons.mpr ⟨(show va_Nw (.methodLinkNest "ControlText$Tokens" 61 yX6_great "ControlText") s from va_Nw.of rfl (hts _ (lt1 (List.mem_of_getElem? (i := 127) rfl)))), List.forall_mem_cons.mpr ⟨(show va_Nw (.methodLinkNest "ControlText$Tokens" 67 yX6_isDigit "ControlText") s from va_Nw.of rfl (hts _ (lt1 (List.mem_of_getElem? (i := 139) rfl)))), List.forall_mem_cons.mpr ⟨(show va_Nw (.methodLinkNest "ControlText$Tokens" 74 yX6_isNameByte "ControlText") s from va_Nw.of rfl (hts _ (lt1 (List.mem_of_getElem? (i := 159) rfl)))), List.forall_mem_cons.mpr ⟨(show va_Nw (.methodLinkNest "ControlText$Writer" 145 yX6_isNameByte "ControlText") s from va_Nw.of rfl (hts _ (lt2 (List.mem_of_getElem? (i := 233) rfl)))), fun _ h => absurd h List.not_mem_nil⟩⟩⟩⟩⟩⟩
theorem sf_E (hts : ∀ w ∈ lw_tbl, w.before #[Value.ref b] s = true) (hgv : (Jvm.Cond.and given_1 narrow_1).before #[Value.ref b] s = true) (cI : ClassId) : ∃ sd : Nat → Nat, Ev cI sd (fun q : Nat => s.heap.size ≤ q) s := by
  obtain ⟨t0, z0, a0⟩ := sf_BETWEEN hts hgv
  obtain ⟨t1, z1, a1⟩ := sf_BINDING hts hgv
  refine ⟨fun k => match k with | 0 => t0 | _ => t1, sf_nf hts, sf_nm hts, ?_⟩
  unfold statA
  exact List.forall_mem_cons.mpr ⟨⟨z0, a0⟩, List.forall_mem_cons.mpr ⟨⟨z1, a1⟩, fun _ h => absurd h List.not_mem_nil⟩⟩
theorem sf_str {args : Array Value} {own : String} {k : Nat} {bs : List Int32} {v : Value} {A : Nat → Prop} (hN : bs.length < 2 ^ 31) (hex : (Cond.exactly (.string own k) "java/lang/String").before args s = true) (hco : (Cond.eq (.field (.string own k) "java/lang/String" "coder" "B") (.int 0)).before args s = true) (har : (Cond.arrayOf (.field (.string own k) "java/lang/String" "value" "[B") .byte).before args s = true)
    (hle : (Cond.eq (.length (.field (.string own k) "java/lang/String" "value" "[B")) (.int (Int32.ofNat bs.length))).before args s = true) (hel : ∀ j : Nat, j < bs.length → (Cond.eq (.elem (.field (.string own k) "java/lang/String" "value" "[B") (.int (Int32.ofNat j))) (.int (bs.getD j 0))).before args s = true)
    (z1 : va_Z "java/lang/String" "COMPACT_STRINGS" "Z" (.int 1) A s s.heap) (z2 : va_Z "jdk/internal/util/Preconditions" "SIOOBE_FORMATTER" "Ljava/util/function/BiFunction;" v A s s.heap) (hA : ∀ a : Nat, a < s.heap.size → ¬ A a) : ∃ q qv : Nat, (Term.string own k).eval args s none [] s = some (.ref q) ∧ ESt v q qv bs A s := by
  obtain ⟨a, c, cA, kA, q1, q2, q3, q4, q5, q6, -⟩ := Cond.exactly_spec (args := args) (first := s) (o := none) (s := s) (idx := []) (t := .string own k) (cls := "java/lang/String") hex
  obtain ⟨t, ht, hT⟩ := va_Tof (f := fun j => .int (bs.getD j 0)) (A := A) hN har (va_eqt hle) (fun j hj => va_eqt (hel j hj)) hA
  exact ⟨a, t, q1, z1, z2, ⟨cA, q3, q5, by rw [q6]; exact q2, hA a (Array.getElem?_eq_some_iff.mp q3).1⟩, vk_OFof q1 (va_eqt hco) hA, vk_OFof q1 ht hA, hT⟩
theorem sf_N (hts : ∀ w ∈ lw_tbl, w.before #[Value.ref b] s = true) (hgv : (Jvm.Cond.and given_1 narrow_1).before #[Value.ref b] s = true) : ∃ (v : Value) (ss sv : Nat → Nat), (v = .null ∨ ∃ a, v = .ref a) ∧ ENm v ss sv (fun q : Nat => s.heap.size ≤ q) s := by
  have z1 : va_Z "java/lang/String" "COMPACT_STRINGS" "Z" (.int 1) (fun q : Nat => s.heap.size ≤ q) s s.heap := va_Zof (hts _ (lt0 (List.mem_of_getElem? (i := 61) rfl))) (hts _ (lt0 (List.mem_of_getElem? (i := 4) rfl))) (va_eqt (sf_in hgv fs_cs)) sf_nA
  obtain ⟨v, hv, z2⟩ : ∃ v : Value, (v = .null ∨ ∃ a, v = .ref a) ∧ va_Z "jdk/internal/util/Preconditions" "SIOOBE_FORMATTER" "Ljava/util/function/BiFunction;" v (fun q : Nat => s.heap.size ≤ q) s s.heap := by
    rcases va_Zqof (hts _ (lt0 (List.mem_of_getElem? (i := 77) rfl))) (hts _ (lt0 (List.mem_of_getElem? (i := 6) rfl))) (sf_in hgv fs_fo) sf_nA with h | ⟨t, h⟩
    · exact ⟨_, Or.inl rfl, h⟩
    · exact ⟨_, Or.inr ⟨t, rfl⟩, h⟩
  obtain ⟨q0, w0, e0, h0⟩ := sf_str (own := "ControlText$Names") (k := 26) (bs := sW0) (by rw [fs0n]; decide) (sf_in hgv fs0e) (sf_in hgv fs0c) (sf_in hgv fs0a) (by rw [fs0n]; exact sf_in hgv fs0l) (fun j hj => sf_in hgv (fs0 ⟨j, Nat.lt_of_lt_of_eq hj fs0n⟩)) z1 z2 sf_nA
  obtain ⟨q1, w1, e1, h1⟩ := sf_str (own := "ControlText$Names") (k := 32) (bs := sW1) (by rw [fs1n]; decide) (sf_in hgv fs1e) (sf_in hgv fs1c) (sf_in hgv fs1a) (by rw [fs1n]; exact sf_in hgv fs1l) (fun j hj => sf_in hgv (fs1 ⟨j, Nat.lt_of_lt_of_eq hj fs1n⟩)) z1 z2 sf_nA
  obtain ⟨q2, w2, e2, h2⟩ := sf_str (own := "ControlText$Names") (k := 34) (bs := sW2) (by rw [fs2n]; decide) (sf_in hgv fs2e) (sf_in hgv fs2c) (sf_in hgv fs2a) (by rw [fs2n]; exact sf_in hgv fs2l) (fun j hj => sf_in hgv (fs2 ⟨j, Nat.lt_of_lt_of_eq hj fs2n⟩)) z1 z2 sf_nA
  obtain ⟨q3, w3, e3, h3⟩ := sf_str (own := "ControlText$Names") (k := 36) (bs := sW3) (by rw [fs3n]; decide) (sf_in hgv fs3e) (sf_in hgv fs3c) (sf_in hgv fs3a) (by rw [fs3n]; exact sf_in hgv fs3l) (fun j hj => sf_in hgv (fs3 ⟨j, Nat.lt_of_lt_of_eq hj fs3n⟩)) z1 z2 sf_nA
  obtain ⟨q4, w4, e4, h4⟩ := sf_str (own := "ControlText$Names") (k := 38) (bs := sW4) (by rw [fs4n]; decide) (sf_in hgv fs4e) (sf_in hgv fs4c) (sf_in hgv fs4a) (by rw [fs4n]; exact sf_in hgv fs4l) (fun j hj => sf_in hgv (fs4 ⟨j, Nat.lt_of_lt_of_eq hj fs4n⟩)) z1 z2 sf_nA
  obtain ⟨q5, w5, e5, h5⟩ := sf_str (own := "ControlText$Names") (k := 40) (bs := sW5) (by rw [fs5n]; decide) (sf_in hgv fs5e) (sf_in hgv fs5c) (sf_in hgv fs5a) (by rw [fs5n]; exact sf_in hgv fs5l) (fun j hj => sf_in hgv (fs5 ⟨j, Nat.lt_of_lt_of_eq hj fs5n⟩)) z1 z2 sf_nA
  exact ⟨v, fun k => match k with | 0 => q0 | 1 => q1 | 2 => q2 | 3 => q3 | 4 => q4 | _ => q5, fun k => match k with | 0 => w0 | 1 => w1 | 2 => w2 | 3 => w3 | 4 => w4 | _ => w5, hv, ⟨h0, h1, h2, h3, h4, h5⟩, vk_R.of (hts _ (lt0 (List.mem_of_getElem? (i := 47) rfl))) e0, vk_R.of (hts _ (lt0 (List.mem_of_getElem? (i := 127) rfl))) e1, vk_R.of (hts _ (lt0 (List.mem_of_getElem? (i := 128) rfl))) e2, vk_R.of (hts _ (lt0 (List.mem_of_getElem? (i := 129) rfl))) e3, vk_R.of (hts _ (lt0 (List.mem_of_getElem? (i := 130) rfl))) e4, vk_R.of (hts _ (lt0 (List.mem_of_getElem? (i := 131) rfl))) e5⟩
theorem sf_K {c0 : Cond} (hts : ∀ w ∈ c0 :: ALL, w.before #[Value.ref b] s = true) : ∃ (D : va_G) (cI : ClassId), va_K D vwCl [(cI, .int)] s := by
  obtain ⟨cc0, ii0, kk0⟩ := u_known (C := RX0) (T := TX0) (N := 2) (n := 2) hts layX0 (hts _ (inA q197))
  obtain ⟨cc1, ii1, kk1⟩ := u_known (C := RX1) (T := TX1) (N := 6) (n := 6) hts layX1 (hts _ (inA q214))
  obtain ⟨cc2, ii2, kk2⟩ := u_known (C := RX2) (T := TX2) (N := 7) (n := 7) hts layX2 (hts _ (inA q326))
  obtain ⟨cc3, ii3, kk3⟩ := u_known (C := RX3) (T := TX3) (N := 8) (n := 8) hts layX3 (hts _ (inA q358))
  obtain ⟨cc4, ii4, kk4⟩ := u_known (C := RX4) (T := TX4) (N := 12) (n := 12) hts layX4 (hts _ (inA q392))
  obtain ⟨cc5, ii5, kk5⟩ := u_known (C := RX5) (T := TX5) (N := 3) (n := 3) hts layX5 (hts _ (inA q437))
  obtain ⟨cc6, ii6, kk6⟩ := u_known (C := RX6) (T := TX6) (N := 7) (n := 7) hts layX6 (hts _ (inA q189))
  obtain ⟨cc8, ii8, kk8⟩ := u_known (C := RX8) (T := TX8) (N := 48) (n := 48) hts layX8 (hts _ (inA q973))
  obtain ⟨dC, dI, hKc⟩ : ∃ (dC : Nat → ClassId) (dI : Nat → Nat → Nat), ∀ (k : Nat) (q : vw_C), vwCl[k]? = some q → u_Kn s q.1 q.2.1 q.2.2 (dC k) (dI k) := by
    refine ⟨fun k : Nat => match k with | 0 => cc0 | 1 => cc1 | 2 => cc2 | 3 => cc3 | 4 => cc4 | 5 => cc5 | 6 => cc6 | 7 => cc0 | 8 => cc8 | 9 => cc0 | 10 => cc0 | _ => cc0 , fun k : Nat => match k with | 0 => ii0 | 1 => ii1 | 2 => ii2 | 3 => ii3 | 4 => ii4 | 5 => ii5 | 6 => ii6 | 7 => ii0 | 8 => ii8 | 9 => ii0 | 10 => ii0 | _ => ii0, ?_⟩
    intro k q hq
    match k, hq with
    | 0, hq => cases hq; exact kk0
    | 1, hq => cases hq; exact kk1
    | 2, hq => cases hq; exact kk2
    | 3, hq => cases hq; exact kk3
    | 4, hq => cases hq; exact kk4
    | 5, hq => cases hq; exact kk5
    | 6, hq => cases hq; exact kk6
    | 7, hq => cases hq; exact kk0
    | 8, hq => cases hq; exact kk8
    | 9, hq => cases hq; exact kk0
    | 10, hq => cases hq; exact kk0
    | k + 11, hq => exact absurd hq (by unfold vwCl; simp)
  obtain ⟨cA, kA, comp, g1, g2, g3⟩ := Cond.arrayClass_spec (args := #[Value.ref b]) (first := s) (o := none) (s := s) (idx := []) (type := .int) (hts _ (inA q212))
  refine ⟨(dC, dI), cA, hKc, fun k q h => ?_⟩
  match k, h with
  | 0, h => cases h; exact ⟨fun n z => ⟨fun k h => (by cases h), kA, g2, comp, g3⟩, g1⟩
  | k + 1, h => exact absurd h (by simp)
end SF
