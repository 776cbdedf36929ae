set_option maxHeartbeats 4000000 in
set_option maxRecDepth 100000 in
theorem c_Writer_separator (l : Launch) (D : va_G) (cI : ClassId) (sd : Nat → Nat) (ad : Nat → Nat) (a1 : Int32) (a2 : Int32) (a3 : Int32) (res : Int32) (hM : f_Writer_separator a1 a2 a3 = some res) : Ctr l D cI sd yX5_separator (wsM yX5_separator cX5_separator 3 (Option.some Jvm.ClassFile.FieldType.int)) { frames := 2, cells := 0, slots := 0, locals := 42 } [.int a1, .int a2, .int a3] (([] : va_W)) (([] : va_W)) (some (.int res)) := by
  refine Ctr.of (cc := cX5_separator) (maxL := 3) (own := RX5) (by decide +kernel) rfl rfl (Nat.le_of_ble_eq_true rfl) ?_
  intro p e s m below meth c A ls hx hb hr hml hown hts hlk hK hE hA hP hD hS hl
  have hl : lv_has ls 3 [(0, .int a1), (1, .int a2), (2, .int a3)] := hl
  unfold f_Writer_separator at hM
  refine lv_iload_n hx hb dX5_separator_0 rfl (lv_at hl 0 rfl) ?_
  by_cases c1 : a1 = 5
  · replace hM := if_t c1 hM
    refine lv_tableIn (tgt := 136) hx hb dX5_separator_1 (by rw [c1]; decide) (by rw [c1]; decide) (by rw [c1]; rfl) (by decide) ?_
    refine lv_iload_n hx hb dX5_separator_136 rfl (lv_at hl 1 rfl) ?_
    refine lv_iload_n hx hb dX5_separator_137 rfl (lv_at hl 2 rfl) ?_
    obtain ⟨r2, hcr2, hM⟩ := ob_use hM
    refine cl_S (As := [.int a2, .int a3]) (rest := []) (([] : va_W)) (.int r2 :: []) ⟨hx, hb, hml, hown, hts⟩ (c_Writer_separatorInDeclaration l D cI sd ad a2 a3 r2 hcr2) (cwS2 hts q916 mvX5_separatorInDeclaration rfl rfl ⟨(Nat.le_of_ble_eq_true rfl), (Nat.le_of_ble_eq_true rfl)⟩) hK hE hA hP hD hS [] rfl (by decide) rfl rfl rfl rfl rfl rfl hl.1 (Nat.le_of_ble_eq_true rfl) dX5_separator_138 ⟨Nat.zero_le _, Nat.zero_le _⟩ (fun H locs hP hD hS => ?_)
    cases hM
    exact rt_i hx hb hr hlk hP hD hS rfl dX5_separator_141
  replace hM := if_f c1 hM
  by_cases c3 : a1 = 6
  · replace hM := if_t c3 hM
    refine lv_tableIn (tgt := 232) hx hb dX5_separator_1 (by rw [c3]; decide) (by rw [c3]; decide) (by rw [c3]; rfl) (by decide) ?_
    refine lv_iconst (v := (-1)) hx hb dX5_separator_232 (by decide) ?_
    cases hM
    exact rt_i hx hb hr hlk hP hD hS rfl dX5_separator_233
  replace hM := if_f c3 hM
  by_cases c4 : a1 = 7
  · replace hM := if_t c4 hM
    refine lv_tableIn (tgt := 232) hx hb dX5_separator_1 (by rw [c4]; decide) (by rw [c4]; decide) (by rw [c4]; rfl) (by decide) ?_
    refine lv_iconst (v := (-1)) hx hb dX5_separator_232 (by decide) ?_
    cases hM
    exact rt_i hx hb hr hlk hP hD hS rfl dX5_separator_233
  replace hM := if_f c4 hM
  by_cases c5 : a1 = 8
  · replace hM := if_t c5 hM
    refine lv_tableIn (tgt := 232) hx hb dX5_separator_1 (by rw [c5]; decide) (by rw [c5]; decide) (by rw [c5]; rfl) (by decide) ?_
    refine lv_iconst (v := (-1)) hx hb dX5_separator_232 (by decide) ?_
    cases hM
    exact rt_i hx hb hr hlk hP hD hS rfl dX5_separator_233
  replace hM := if_f c5 hM
  by_cases c6 : a1 = 9
  · replace hM := if_t c6 hM
    refine lv_tableIn (tgt := 142) hx hb dX5_separator_1 (by rw [c6]; decide) (by rw [c6]; decide) (by rw [c6]; rfl) (by decide) ?_
    refine lv_iload_n hx hb dX5_separator_142 rfl (lv_at hl 2 rfl) ?_
    refine lv_if_ne (tgt := 150) hx hb dX5_separator_143 (by decide) (fun c7 => ?_) (fun c7 => ?_)
    · replace hM := if_f c7 hM
      refine lv_iload_n hx hb dX5_separator_150 rfl (lv_at hl 2 rfl) ?_
      refine lv_iconst (v := 1) hx hb dX5_separator_151 (by decide) ?_
      refine lv_icmp_ne (tgt := 161) hx hb dX5_separator_152 (by decide) (fun c8 => ?_) (fun c8 => ?_)
      · replace hM := if_f c8 hM
        refine lv_sipush (v := 271) hx hb dX5_separator_161 (by decide) ?_
        cases hM
        exact rt_i hx hb hr hlk hP hD hS rfl dX5_separator_164
      · replace hM := if_t c8 hM
        refine lv_sipush (v := 11822) hx hb dX5_separator_155 (by decide) ?_
        refine lv_goto (tgt := 164) hx hb dX5_separator_158 (by decide) ?_
        cases hM
        exact rt_i hx hb hr hlk hP hD hS rfl dX5_separator_164
    · replace hM := if_t c7 hM
      refine lv_iconst (v := (-1)) hx hb dX5_separator_146 (by decide) ?_
      refine lv_goto (tgt := 164) hx hb dX5_separator_147 (by decide) ?_
      cases hM
      exact rt_i hx hb hr hlk hP hD hS rfl dX5_separator_164
  replace hM := if_f c6 hM
  by_cases c9 : a1 = 10
  · replace hM := if_t c9 hM
    refine lv_tableIn (tgt := 232) hx hb dX5_separator_1 (by rw [c9]; decide) (by rw [c9]; decide) (by rw [c9]; rfl) (by decide) ?_
    refine lv_iconst (v := (-1)) hx hb dX5_separator_232 (by decide) ?_
    cases hM
    exact rt_i hx hb hr hlk hP hD hS rfl dX5_separator_233
  replace hM := if_f c9 hM
  by_cases c10 : a1 = 11
  · replace hM := if_t c10 hM
    refine lv_tableIn (tgt := 232) hx hb dX5_separator_1 (by rw [c10]; decide) (by rw [c10]; decide) (by rw [c10]; rfl) (by decide) ?_
    refine lv_iconst (v := (-1)) hx hb dX5_separator_232 (by decide) ?_
    cases hM
    exact rt_i hx hb hr hlk hP hD hS rfl dX5_separator_233
  replace hM := if_f c10 hM
  by_cases c11 : a1 = 12
  · replace hM := if_t c11 hM
    refine lv_tableIn (tgt := 216) hx hb dX5_separator_1 (by rw [c11]; decide) (by rw [c11]; decide) (by rw [c11]; rfl) (by decide) ?_
    refine lv_iload_n hx hb dX5_separator_216 rfl (lv_at hl 2 rfl) ?_
    refine lv_sipush (v := 14909) hx hb dX5_separator_217 (by decide) ?_
    obtain ⟨r12, hcr12, hM⟩ := ob_use hM
    refine cl_S (As := [.int a3, .int 14909]) (rest := []) (([] : va_W)) (.int r12 :: []) ⟨hx, hb, hml, hown, hts⟩ (c_Writer_behindFirst l D cI sd ad a3 14909 r12 hcr12) (cwS2 hts q919 mvX5_behindFirst rfl rfl ⟨(Nat.le_of_ble_eq_true rfl), (Nat.le_of_ble_eq_true rfl)⟩) hK hE hA hP hD hS [] rfl (by decide) rfl rfl rfl rfl rfl rfl hl.1 (Nat.le_of_ble_eq_true rfl) dX5_separator_220 ⟨Nat.zero_le _, Nat.zero_le _⟩ (fun H locs hP hD hS => ?_)
    cases hM
    exact rt_i hx hb hr hlk hP hD hS rfl dX5_separator_223
  replace hM := if_f c11 hM
  by_cases c13 : a1 = 13
  · replace hM := if_t c13 hM
    refine lv_tableIn (tgt := 209) hx hb dX5_separator_1 (by rw [c13]; decide) (by rw [c13]; decide) (by rw [c13]; rfl) (by decide) ?_
    refine lv_iload_n hx hb dX5_separator_209 rfl (lv_at hl 2 rfl) ?_
    refine lv_bipush (v := 44) hx hb dX5_separator_210 (by decide) ?_
    obtain ⟨r14, hcr14, hM⟩ := ob_use hM
    refine cl_S (As := [.int a3, .int 44]) (rest := []) (([] : va_W)) (.int r14 :: []) ⟨hx, hb, hml, hown, hts⟩ (c_Writer_behindFirst l D cI sd ad a3 44 r14 hcr14) (cwS2 hts q919 mvX5_behindFirst rfl rfl ⟨(Nat.le_of_ble_eq_true rfl), (Nat.le_of_ble_eq_true rfl)⟩) hK hE hA hP hD hS [] rfl (by decide) rfl rfl rfl rfl rfl rfl hl.1 (Nat.le_of_ble_eq_true rfl) dX5_separator_212 ⟨Nat.zero_le _, Nat.zero_le _⟩ (fun H locs hP hD hS => ?_)
    cases hM
    exact rt_i hx hb hr hlk hP hD hS rfl dX5_separator_215
  replace hM := if_f c13 hM
  by_cases c15 : a1 = 14
  · replace hM := if_t c15 hM
    refine lv_tableIn (tgt := 232) hx hb dX5_separator_1 (by rw [c15]; decide) (by rw [c15]; decide) (by rw [c15]; rfl) (by decide) ?_
    refine lv_iconst (v := (-1)) hx hb dX5_separator_232 (by decide) ?_
    cases hM
    exact rt_i hx hb hr hlk hP hD hS rfl dX5_separator_233
  replace hM := if_f c15 hM
  by_cases c16 : a1 = 15
  · replace hM := if_t c16 hM
    refine lv_tableIn (tgt := 165) hx hb dX5_separator_1 (by rw [c16]; decide) (by rw [c16]; decide) (by rw [c16]; rfl) (by decide) ?_
    refine lv_iload_n hx hb dX5_separator_165 rfl (lv_at hl 1 rfl) ?_
    refine lv_iload_n hx hb dX5_separator_166 rfl (lv_at hl 2 rfl) ?_
    obtain ⟨r17, hcr17, hM⟩ := ob_use hM
    refine cl_S (As := [.int a2, .int a3]) (rest := []) (([] : va_W)) (.int r17 :: []) ⟨hx, hb, hml, hown, hts⟩ (c_Writer_separatorInIf l D cI sd ad a2 a3 r17 hcr17) (cwS2 hts q922 mvX5_separatorInIf rfl rfl ⟨(Nat.le_of_ble_eq_true rfl), (Nat.le_of_ble_eq_true rfl)⟩) hK hE hA hP hD hS [] rfl (by decide) rfl rfl rfl rfl rfl rfl hl.1 (Nat.le_of_ble_eq_true rfl) dX5_separator_167 ⟨Nat.zero_le _, Nat.zero_le _⟩ (fun H locs hP hD hS => ?_)
    cases hM
    exact rt_i hx hb hr hlk hP hD hS rfl dX5_separator_170
  replace hM := if_f c16 hM
  by_cases c18 : a1 = 16
  · replace hM := if_t c18 hM
    refine lv_tableIn (tgt := 171) hx hb dX5_separator_1 (by rw [c18]; decide) (by rw [c18]; decide) (by rw [c18]; rfl) (by decide) ?_
    refine lv_iload_n hx hb dX5_separator_171 rfl (lv_at hl 1 rfl) ?_
    refine lv_bipush (v := 11) hx hb dX5_separator_172 (by decide) ?_
    refine lv_icmp_ne (tgt := 183) hx hb dX5_separator_174 (by decide) (fun c19 => ?_) (fun c19 => ?_)
    · replace hM := if_f c19 hM
      refine lv_iconst (v := (-1)) hx hb dX5_separator_183 (by decide) ?_
      cases hM
      exact rt_i hx hb hr hlk hP hD hS rfl dX5_separator_184
    · replace hM := if_t c19 hM
      refine lv_sipush (v := 275) hx hb dX5_separator_177 (by decide) ?_
      refine lv_goto (tgt := 184) hx hb dX5_separator_180 (by decide) ?_
      cases hM
      exact rt_i hx hb hr hlk hP hD hS rfl dX5_separator_184
  replace hM := if_f c18 hM
  by_cases c20 : a1 = 17
  · replace hM := if_t c20 hM
    refine lv_tableIn (tgt := 185) hx hb dX5_separator_1 (by rw [c20]; decide) (by rw [c20]; decide) (by rw [c20]; rfl) (by decide) ?_
    refine lv_iload_n hx hb dX5_separator_185 rfl (lv_at hl 1 rfl) ?_
    refine lv_bipush (v := 11) hx hb dX5_separator_186 (by decide) ?_
    refine lv_icmp_ne (tgt := 196) hx hb dX5_separator_188 (by decide) (fun c21 => ?_) (fun c21 => ?_)
    · replace hM := if_f c21 hM
      refine lv_iload_n hx hb dX5_separator_196 rfl (lv_at hl 2 rfl) ?_
      refine lv_bipush (v := 44) hx hb dX5_separator_197 (by decide) ?_
      obtain ⟨r22, hcr22, hM⟩ := ob_use hM
      refine cl_S (As := [.int a3, .int 44]) (rest := []) (([] : va_W)) (.int r22 :: []) ⟨hx, hb, hml, hown, hts⟩ (c_Writer_behindFirst l D cI sd ad a3 44 r22 hcr22) (cwS2 hts q919 mvX5_behindFirst rfl rfl ⟨(Nat.le_of_ble_eq_true rfl), (Nat.le_of_ble_eq_true rfl)⟩) hK hE hA hP hD hS [] rfl (by decide) rfl rfl rfl rfl rfl rfl hl.1 (Nat.le_of_ble_eq_true rfl) dX5_separator_199 ⟨Nat.zero_le _, Nat.zero_le _⟩ (fun H locs hP hD hS => ?_)
      cases hM
      exact rt_i hx hb hr hlk hP hD hS rfl dX5_separator_202
    · replace hM := if_t c21 hM
      refine lv_bipush (v := 58) hx hb dX5_separator_191 (by decide) ?_
      refine lv_goto (tgt := 202) hx hb dX5_separator_193 (by decide) ?_
      cases hM
      exact rt_i hx hb hr hlk hP hD hS rfl dX5_separator_202
  replace hM := if_f c20 hM
  by_cases c23 : a1 = 18
  · replace hM := if_t c23 hM
    refine lv_tableIn (tgt := 224) hx hb dX5_separator_1 (by rw [c23]; decide) (by rw [c23]; decide) (by rw [c23]; rfl) (by decide) ?_
    refine lv_iload_n hx hb dX5_separator_224 rfl (lv_at hl 2 rfl) ?_
    refine lv_sipush (v := 11822) hx hb dX5_separator_225 (by decide) ?_
    obtain ⟨r24, hcr24, hM⟩ := ob_use hM
    refine cl_S (As := [.int a3, .int 11822]) (rest := []) (([] : va_W)) (.int r24 :: []) ⟨hx, hb, hml, hown, hts⟩ (c_Writer_behindFirst l D cI sd ad a3 11822 r24 hcr24) (cwS2 hts q919 mvX5_behindFirst rfl rfl ⟨(Nat.le_of_ble_eq_true rfl), (Nat.le_of_ble_eq_true rfl)⟩) hK hE hA hP hD hS [] rfl (by decide) rfl rfl rfl rfl rfl rfl hl.1 (Nat.le_of_ble_eq_true rfl) dX5_separator_228 ⟨Nat.zero_le _, Nat.zero_le _⟩ (fun H locs hP hD hS => ?_)
    cases hM
    exact rt_i hx hb hr hlk hP hD hS rfl dX5_separator_231
  replace hM := if_f c23 hM
  by_cases c25 : a1 = 19
  · replace hM := if_t c25 hM
    refine lv_tableIn (tgt := 203) hx hb dX5_separator_1 (by rw [c25]; decide) (by rw [c25]; decide) (by rw [c25]; rfl) (by decide) ?_
    refine lv_iload_n hx hb dX5_separator_203 rfl (lv_at hl 1 rfl) ?_
    refine lv_iload_n hx hb dX5_separator_204 rfl (lv_at hl 2 rfl) ?_
    obtain ⟨r26, hcr26, hM⟩ := ob_use hM
    refine cl_S (As := [.int a2, .int a3]) (rest := []) (([] : va_W)) (.int r26 :: []) ⟨hx, hb, hml, hown, hts⟩ (c_Writer_separatorInFor l D cI sd ad a2 a3 r26 hcr26) (cwS2 hts q925 mvX5_separatorInFor rfl rfl ⟨(Nat.le_of_ble_eq_true rfl), (Nat.le_of_ble_eq_true rfl)⟩) hK hE hA hP hD hS [] rfl (by decide) rfl rfl rfl rfl rfl rfl hl.1 (Nat.le_of_ble_eq_true rfl) dX5_separator_205 ⟨Nat.zero_le _, Nat.zero_le _⟩ (fun H locs hP hD hS => ?_)
    cases hM
    exact rt_i hx hb hr hlk hP hD hS rfl dX5_separator_208
  replace hM := if_f c25 hM
  by_cases c27 : a1 = 20
  · replace hM := if_t c27 hM
    refine lv_tableIn (tgt := 232) hx hb dX5_separator_1 (by rw [c27]; decide) (by rw [c27]; decide) (by rw [c27]; rfl) (by decide) ?_
    refine lv_iconst (v := (-1)) hx hb dX5_separator_232 (by decide) ?_
    cases hM
    exact rt_i hx hb hr hlk hP hD hS rfl dX5_separator_233
  replace hM := if_f c27 hM
  by_cases c28 : a1 = 21
  · replace hM := if_t c28 hM
    refine lv_tableIn (tgt := 232) hx hb dX5_separator_1 (by rw [c28]; decide) (by rw [c28]; decide) (by rw [c28]; rfl) (by decide) ?_
    refine lv_iconst (v := (-1)) hx hb dX5_separator_232 (by decide) ?_
    cases hM
    exact rt_i hx hb hr hlk hP hD hS rfl dX5_separator_233
  replace hM := if_f c28 hM
  by_cases c29 : a1 = 22
  · replace hM := if_t c29 hM
    refine lv_tableIn (tgt := 232) hx hb dX5_separator_1 (by rw [c29]; decide) (by rw [c29]; decide) (by rw [c29]; rfl) (by decide) ?_
    refine lv_iconst (v := (-1)) hx hb dX5_separator_232 (by decide) ?_
    cases hM
    exact rt_i hx hb hr hlk hP hD hS rfl dX5_separator_233
  replace hM := if_f c29 hM
  by_cases c30 : a1 = 23
  · replace hM := if_t c30 hM
    refine lv_tableIn (tgt := 232) hx hb dX5_separator_1 (by rw [c30]; decide) (by rw [c30]; decide) (by rw [c30]; rfl) (by decide) ?_
    refine lv_iconst (v := (-1)) hx hb dX5_separator_232 (by decide) ?_
    cases hM
    exact rt_i hx hb hr hlk hP hD hS rfl dX5_separator_233
  replace hM := if_f c30 hM
  by_cases c31 : a1 = 24
  · replace hM := if_t c31 hM
    refine lv_tableIn (tgt := 232) hx hb dX5_separator_1 (by rw [c31]; decide) (by rw [c31]; decide) (by rw [c31]; rfl) (by decide) ?_
    refine lv_iconst (v := (-1)) hx hb dX5_separator_232 (by decide) ?_
    cases hM
    exact rt_i hx hb hr hlk hP hD hS rfl dX5_separator_233
  replace hM := if_f c31 hM
  by_cases c32 : a1 = 25
  · replace hM := if_t c32 hM
    refine lv_tableIn (tgt := 232) hx hb dX5_separator_1 (by rw [c32]; decide) (by rw [c32]; decide) (by rw [c32]; rfl) (by decide) ?_
    refine lv_iconst (v := (-1)) hx hb dX5_separator_232 (by decide) ?_
    cases hM
    exact rt_i hx hb hr hlk hP hD hS rfl dX5_separator_233
  replace hM := if_f c32 hM
  by_cases c33 : a1 = 26
  · replace hM := if_t c33 hM
    refine lv_tableIn (tgt := 232) hx hb dX5_separator_1 (by rw [c33]; decide) (by rw [c33]; decide) (by rw [c33]; rfl) (by decide) ?_
    refine lv_iconst (v := (-1)) hx hb dX5_separator_232 (by decide) ?_
    cases hM
    exact rt_i hx hb hr hlk hP hD hS rfl dX5_separator_233
  replace hM := if_f c33 hM
  by_cases c34 : a1 = 27
  · replace hM := if_t c34 hM
    refine lv_tableIn (tgt := 232) hx hb dX5_separator_1 (by rw [c34]; decide) (by rw [c34]; decide) (by rw [c34]; rfl) (by decide) ?_
    refine lv_iconst (v := (-1)) hx hb dX5_separator_232 (by decide) ?_
    cases hM
    exact rt_i hx hb hr hlk hP hD hS rfl dX5_separator_233
  replace hM := if_f c34 hM
  by_cases c35 : a1 = 28
  · replace hM := if_t c35 hM
    refine lv_tableIn (tgt := 232) hx hb dX5_separator_1 (by rw [c35]; decide) (by rw [c35]; decide) (by rw [c35]; rfl) (by decide) ?_
    refine lv_iconst (v := (-1)) hx hb dX5_separator_232 (by decide) ?_
    cases hM
    exact rt_i hx hb hr hlk hP hD hS rfl dX5_separator_233
  replace hM := if_f c35 hM
  by_cases c36 : a1 = 29
  · replace hM := if_t c36 hM
    refine lv_tableIn (tgt := 232) hx hb dX5_separator_1 (by rw [c36]; decide) (by rw [c36]; decide) (by rw [c36]; rfl) (by decide) ?_
    refine lv_iconst (v := (-1)) hx hb dX5_separator_232 (by decide) ?_
    cases hM
    exact rt_i hx hb hr hlk hP hD hS rfl dX5_separator_233
  replace hM := if_f c36 hM
  by_cases c37 : a1 = 30
  · replace hM := if_t c37 hM
    refine lv_tableIn (tgt := 232) hx hb dX5_separator_1 (by rw [c37]; decide) (by rw [c37]; decide) (by rw [c37]; rfl) (by decide) ?_
    refine lv_iconst (v := (-1)) hx hb dX5_separator_232 (by decide) ?_
    cases hM
    exact rt_i hx hb hr hlk hP hD hS rfl dX5_separator_233
  replace hM := if_f c37 hM
  by_cases c38 : a1 = 31
  · replace hM := if_t c38 hM
    refine lv_tableIn (tgt := 232) hx hb dX5_separator_1 (by rw [c38]; decide) (by rw [c38]; decide) (by rw [c38]; rfl) (by decide) ?_
    refine lv_iconst (v := (-1)) hx hb dX5_separator_232 (by decide) ?_
    cases hM
    exact rt_i hx hb hr hlk hP hD hS rfl dX5_separator_233
  replace hM := if_f c38 hM
  by_cases c39 : a1 = 32
  · replace hM := if_t c39 hM
    refine lv_tableIn (tgt := 232) hx hb dX5_separator_1 (by rw [c39]; decide) (by rw [c39]; decide) (by rw [c39]; rfl) (by decide) ?_
    refine lv_iconst (v := (-1)) hx hb dX5_separator_232 (by decide) ?_
    cases hM
    exact rt_i hx hb hr hlk hP hD hS rfl dX5_separator_233
  replace hM := if_f c39 hM
  by_cases c40 : a1 = 33
  · replace hM := if_t c40 hM
    refine lv_tableIn (tgt := 232) hx hb dX5_separator_1 (by rw [c40]; decide) (by rw [c40]; decide) (by rw [c40]; rfl) (by decide) ?_
    refine lv_iconst (v := (-1)) hx hb dX5_separator_232 (by decide) ?_
    cases hM
    exact rt_i hx hb hr hlk hP hD hS rfl dX5_separator_233
  replace hM := if_f c40 hM
  by_cases c41 : a1 = 34
  · replace hM := if_t c41 hM
    refine lv_tableIn (tgt := 209) hx hb dX5_separator_1 (by rw [c41]; decide) (by rw [c41]; decide) (by rw [c41]; rfl) (by decide) ?_
    refine lv_iload_n hx hb dX5_separator_209 rfl (lv_at hl 2 rfl) ?_
    refine lv_bipush (v := 44) hx hb dX5_separator_210 (by decide) ?_
    obtain ⟨r42, hcr42, hM⟩ := ob_use hM
    refine cl_S (As := [.int a3, .int 44]) (rest := []) (([] : va_W)) (.int r42 :: []) ⟨hx, hb, hml, hown, hts⟩ (c_Writer_behindFirst l D cI sd ad a3 44 r42 hcr42) (cwS2 hts q919 mvX5_behindFirst rfl rfl ⟨(Nat.le_of_ble_eq_true rfl), (Nat.le_of_ble_eq_true rfl)⟩) hK hE hA hP hD hS [] rfl (by decide) rfl rfl rfl rfl rfl rfl hl.1 (Nat.le_of_ble_eq_true rfl) dX5_separator_212 ⟨Nat.zero_le _, Nat.zero_le _⟩ (fun H locs hP hD hS => ?_)
    cases hM
    exact rt_i hx hb hr hlk hP hD hS rfl dX5_separator_215
  replace hM := if_f c41 hM
  refine lv_tableOut (tgt := 232) hx hb dX5_separator_1 (by have := lv_neT c1 (show (5 : Int32).toInt = 5 by decide); have := lv_neT c3 (show (6 : Int32).toInt = 6 by decide); have := lv_neT c4 (show (7 : Int32).toInt = 7 by decide); have := lv_neT c5 (show (8 : Int32).toInt = 8 by decide); have := lv_neT c6 (show (9 : Int32).toInt = 9 by decide); have := lv_neT c9 (show (10 : Int32).toInt = 10 by decide); have := lv_neT c10 (show (11 : Int32).toInt = 11 by decide); have := lv_neT c11 (show (12 : Int32).toInt = 12 by decide); have := lv_neT c13 (show (13 : Int32).toInt = 13 by decide); have := lv_neT c15 (show (14 : Int32).toInt = 14 by decide); have := lv_neT c16 (show (15 : Int32).toInt = 15 by decide); have := lv_neT c18 (show (16 : Int32).toInt = 16 by decide); have := lv_neT c20 (show (17 : Int32).toInt = 17 by decide); have := lv_neT c23 (show (18 : Int32).toInt = 18 by decide); have := lv_neT c25 (show (19 : Int32).toInt = 19 by decide); have := lv_neT c27 (show (20 : Int32).toInt = 20 by decide); have := lv_neT c28 (show (21 : Int32).toInt = 21 by decide); have := lv_neT c29 (show (22 : Int32).toInt = 22 by decide); have := lv_neT c30 (show (23 : Int32).toInt = 23 by decide); have := lv_neT c31 (show (24 : Int32).toInt = 24 by decide); have := lv_neT c32 (show (25 : Int32).toInt = 25 by decide); have := lv_neT c33 (show (26 : Int32).toInt = 26 by decide); have := lv_neT c34 (show (27 : Int32).toInt = 27 by decide); have := lv_neT c35 (show (28 : Int32).toInt = 28 by decide); have := lv_neT c36 (show (29 : Int32).toInt = 29 by decide); have := lv_neT c37 (show (30 : Int32).toInt = 30 by decide); have := lv_neT c38 (show (31 : Int32).toInt = 31 by decide); have := lv_neT c39 (show (32 : Int32).toInt = 32 by decide); have := lv_neT c40 (show (33 : Int32).toInt = 33 by decide); have := lv_neT c41 (show (34 : Int32).toInt = 34 by decide); omega) (by decide) ?_
  refine lv_iconst (v := (-1)) hx hb dX5_separator_232 (by decide) ?_
  cases hM
  exact rt_i hx hb hr hlk hP hD hS rfl dX5_separator_233
