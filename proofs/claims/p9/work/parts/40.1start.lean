theorem lz_int {s : State} {a : Array Value} (h : (Cond.arrayClass .int).before a s = true) : ∃ cA, ArrOfT s cA .int ∧ va_RA s cA .int := by
  obtain ⟨c, k, comp, h1, h2, h3⟩ := Cond.arrayClass_spec h
  exact ⟨c, fun n z => ⟨fun k h => (by cases h), k, h2, comp, h3⟩, h1⟩
theorem lz_long {s : State} {a : Array Value} (h : (Cond.arrayClass .long).before a s = true) : ∃ cA, ArrOfT s cA .long ∧ va_RA s cA .long := by
  obtain ⟨c, k, comp, h1, h2, h3⟩ := Cond.arrayClass_spec h
  exact ⟨c, fun n z => ⟨fun k h => (by cases h), k, h2, comp, h3⟩, h1⟩
theorem lz_char {s : State} {a : Array Value} (h : (Cond.arrayClass .char).before a s = true) : ∃ cA, ArrOfT s cA .char ∧ va_RA s cA .char := by
  obtain ⟨c, k, comp, h1, h2, h3⟩ := Cond.arrayClass_spec h
  exact ⟨c, fun n z => ⟨fun k h => (by cases h), k, h2, comp, h3⟩, h1⟩
theorem lz_boolean {s : State} {a : Array Value} (h : (Cond.arrayClass .boolean).before a s = true) : ∃ cA, ArrOfT s cA .boolean ∧ va_RA s cA .boolean := by
  obtain ⟨c, k, comp, h1, h2, h3⟩ := Cond.arrayClass_spec h
  exact ⟨c, fun n z => ⟨fun k h => (by cases h), k, h2, comp, h3⟩, h1⟩
theorem lz_obj {s : State} {a : Array Value} {C : String} (h : (Cond.arrayOver (.object C)).before a s = true) : ∃ cA, ArrOfT s cA (.object C) ∧ va_RA s cA (.object C) := by
  obtain ⟨comp, c, k, h1, -, h3, h4, h5⟩ := Cond.arrayOver_spec h
  exact ⟨c, fun n z => ⟨fun k h => (by cases h), k, h3, comp, h4⟩, k, comp, h3, h4, h1, h5⟩
theorem lz_K {p : Program} {s : State} {m : MethodId} {meth : Method} {c : Code} {b N9 : Nat} {xs : Nat → Int32} (C0 : lw_At p s m meth c b N9 xs) : ∃ (dC : Nat → ClassId) (dI : Nat → Nat → Nat) (κ : Nat → ClassId), va_K (dC, dI) vwCl (tp_K κ) s ∧ va_K (dC, dI) vwCl (tp_K κ) s := by
  obtain ⟨hx, hb, hr, hml, hown, hts, hX, hbl, hlocks, hgv⟩ := C0
  obtain ⟨cc0, iS0, hKn0⟩ := u_known (C := RX0) (T := TX0) (N := 5) (n := 5) hts in_X0 (hts (.instantiable RX0 5) mw_984)
  obtain ⟨cc1, iS1, hKn1⟩ := u_known (C := RX1) (T := TX1) (N := 15) (n := 15) hts in_X1 (hts (.instantiable RX1 15) mw_343)
  obtain ⟨cc2, iS2, hKn2⟩ := u_known (C := RX2) (T := TX2) (N := 16) (n := 16) hts in_X2 (hts (.instantiable RX2 16) mw_351)
  obtain ⟨cc3, iS3, hKn3⟩ := u_known (C := RX3) (T := TX3) (N := 6) (n := 6) hts in_X3 (hts (.instantiable RX3 6) mw_347)
  obtain ⟨cc4, iS4, hKn4⟩ := u_known (C := RX4) (T := TX4) (N := 3) (n := 3) hts in_X4 (hts (.instantiable RX4 3) mw_415)
  obtain ⟨cc5, iS5, hKn5⟩ := u_known (C := RX5) (T := TX5) (N := 17) (n := 17) hts in_X5 (hts (.instantiable RX5 17) mw_407)
  obtain ⟨cc6, iS6, hKn6⟩ := u_known (C := RX6) (T := TX6) (N := 4) (n := 4) hts in_X6 (hts (.instantiable RX6 4) mw_324)
  obtain ⟨cc7, iS7, hKn7⟩ := u_known (C := RX7) (T := TX7) (N := 7) (n := 7) hts in_X7 (hts (.instantiable RX7 7) mw_376)
  obtain ⟨cc8, iS8, hKn8⟩ := u_known (C := RX8) (T := TX8) (N := 7) (n := 7) hts in_X8 (hts (.instantiable RX8 7) mw_409)
  obtain ⟨cc9, iS9, hKn9⟩ := u_known (C := RX9) (T := TX9) (N := 4) (n := 4) hts in_X9 (hts (.instantiable RX9 4) mw_355)
  obtain ⟨cc10, iS10, hKn10⟩ := u_known (C := RX10) (T := TX10) (N := 19) (n := 19) hts in_X10 (hts (.instantiable RX10 19) mw_360)
  obtain ⟨cc11, iS11, hKn11⟩ := u_known (C := RX11) (T := TX11) (N := 7) (n := 7) hts in_X11 (hts (.instantiable RX11 7) mw_369)
  obtain ⟨cc12, iS12, hKn12⟩ := u_known (C := RX12) (T := TX12) (N := 53) (n := 53) hts in_X12 (hts (.instantiable RX12 53) mw_367)
  obtain ⟨k0, ha0, hb0⟩ := lz_int (hts (.arrayClass .int) mw_334)
  obtain ⟨k1, ha1, hb1⟩ := lz_long (hts (.arrayClass .long) mw_388)
  obtain ⟨k2, ha2, hb2⟩ := lz_char (hts (.arrayClass .char) mw_451)
  obtain ⟨k3, ha3, hb3⟩ := lz_boolean (hts (.arrayClass .boolean) mw_515)
  obtain ⟨k4, ha4, hb4⟩ := lz_obj (hts (.arrayOver (.object RX8)) mw_1713)
  obtain ⟨k5, ha5, hb5⟩ := lz_obj (hts (.arrayOver (.object RX5)) mw_1714)
  obtain ⟨k6, ha6, hb6⟩ := lz_obj (hts (.arrayOver (.object RX0)) mw_1715)
  obtain ⟨k7, ha7, hb7⟩ := lz_obj (hts (.arrayOver (.object RX10)) mw_1716)
  have hKc : ∀ (k : Nat) (q : vw_C), vwCl[k]? = some q → u_Kn s q.1 q.2.1 q.2.2 ((fun k => match k with | 0 => cc0 | 1 => cc1 | 2 => cc2 | 3 => cc3 | 4 => cc4 | 5 => cc5 | 6 => cc6 | 7 => cc7 | 8 => cc8 | 9 => cc9 | 10 => cc10 | 11 => cc11 | _ => cc12) k) ((fun k => match k with | 0 => iS0 | 1 => iS1 | 2 => iS2 | 3 => iS3 | 4 => iS4 | 5 => iS5 | 6 => iS6 | 7 => iS7 | 8 => iS8 | 9 => iS9 | 10 => iS10 | 11 => iS11 | _ => iS12) k) := by
    intro k q hq
    match k, hq with
    | 0, hq => cases hq; exact hKn0
    | 1, hq => cases hq; exact hKn1
    | 2, hq => cases hq; exact hKn2
    | 3, hq => cases hq; exact hKn3
    | 4, hq => cases hq; exact hKn4
    | 5, hq => cases hq; exact hKn5
    | 6, hq => cases hq; exact hKn6
    | 7, hq => cases hq; exact hKn7
    | 8, hq => cases hq; exact hKn8
    | 9, hq => cases hq; exact hKn9
    | 10, hq => cases hq; exact hKn10
    | 11, hq => cases hq; exact hKn11
    | 12, hq => cases hq; exact hKn12
    | k + 13, hq => simp [vwCl] at hq
  have hA : va_K ((fun k => match k with | 0 => cc0 | 1 => cc1 | 2 => cc2 | 3 => cc3 | 4 => cc4 | 5 => cc5 | 6 => cc6 | 7 => cc7 | 8 => cc8 | 9 => cc9 | 10 => cc10 | 11 => cc11 | _ => cc12), (fun k => match k with | 0 => iS0 | 1 => iS1 | 2 => iS2 | 3 => iS3 | 4 => iS4 | 5 => iS5 | 6 => iS6 | 7 => iS7 | 8 => iS8 | 9 => iS9 | 10 => iS10 | 11 => iS11 | _ => iS12)) vwCl (tp_K (fun k => match k with | 0 => k0 | 1 => k1 | 2 => k2 | 3 => k3 | 4 => k4 | 5 => k5 | 6 => k6 | _ => k7)) s := by
    refine ⟨hKc, fun k q hq => ?_⟩
    match k, hq with
    | 0, hq => cases hq; exact ⟨ha0, hb0⟩
    | 1, hq => cases hq; exact ⟨ha1, hb1⟩
    | 2, hq => cases hq; exact ⟨ha2, hb2⟩
    | 3, hq => cases hq; exact ⟨ha3, hb3⟩
    | 4, hq => cases hq; exact ⟨ha4, hb4⟩
    | 5, hq => cases hq; exact ⟨ha5, hb5⟩
    | 6, hq => cases hq; exact ⟨ha6, hb6⟩
    | 7, hq => cases hq; exact ⟨ha7, hb7⟩
    | k + 8, hq => simp [tp_K] at hq
  exact ⟨_, _, _, hA, hA⟩
theorem tpz_2 (j : Nat) (h : j < 2) : j = 0 ∨ j = 1 := by omega
theorem tpz_3 (j : Nat) (h : j < 3) : j = 0 ∨ j = 1 ∨ j = 2 := by omega
theorem tpz_4 (j : Nat) (h : j < 4) : j = 0 ∨ j = 1 ∨ j = 2 ∨ j = 3 := by omega
theorem tpz_5 (j : Nat) (h : j < 5) : j = 0 ∨ j = 1 ∨ j = 2 ∨ j = 3 ∨ j = 4 := by omega
theorem tpz_6 (j : Nat) (h : j < 6) : j = 0 ∨ j = 1 ∨ j = 2 ∨ j = 3 ∨ j = 4 ∨ j = 5 := by omega
theorem tpz_9 (j : Nat) (h : j < 9) : j = 0 ∨ j = 1 ∨ j = 2 ∨ j = 3 ∨ j = 4 ∨ j = 5 ∨ j = 6 ∨ j = 7 ∨ j = 8 := by omega
theorem tpz_17 (j : Nat) (h : j < 17) : j = 0 ∨ j = 1 ∨ j = 2 ∨ j = 3 ∨ j = 4 ∨ j = 5 ∨ j = 6 ∨ j = 7 ∨ j = 8 ∨ j = 9 ∨ j = 10 ∨ j = 11 ∨ j = 12 ∨ j = 13 ∨ j = 14 ∨ j = 15 ∨ j = 16 := by omega
set_option maxHeartbeats 8000000 in
set_option maxRecDepth 100000 in
theorem lz_Z {p : Program} {s : State} {m : MethodId} {meth : Method} {c : Code} {b N9 : Nat} {xs : Nat → Int32} (C0 : lw_At p s m meth c b N9 xs) : ∃ (adK adV : Nat → Nat) (zv : Option Nat), pw_Z adK adV zv (fun q : Nat => s.heap.size ≤ q) s s.heap := by
  obtain ⟨hx, hb, hr, hml, hown, hts, hX, hbl, hlocks, hgv⟩ := C0
  have hs := flat_of_before _ hgv
  have hA : ∀ a : Nat, a < s.heap.size → ¬ (fun q : Nat => s.heap.size ≤ q) a := fun a h => Nat.not_le.mpr h
  have h1 : ∀ i : Nat, i < 17 → (Cond.exactly ((fun i : Nat => Term.string RX2 (zs_ix.getD i (0, "")).1) i) "java/lang/String").before #[Value.ref b] s = true := by
    intro i hi
    rcases tpz_17 i hi with rfl | rfl | rfl | rfl | rfl | rfl | rfl | rfl | rfl | rfl | rfl | rfl | rfl | rfl | rfl | rfl | rfl
    · exact hs _ zq_9
    · exact hs _ zq_26
    · exact hs _ zq_34
    · exact hs _ zq_258
    · exact hs _ zq_19
    · exact hs _ zq_237
    · exact hs _ zq_67
    · exact hs _ zq_55
    · exact hs _ zq_44
    · exact hs _ zq_79
    · exact hs _ zq_94
    · exact hs _ zq_112
    · exact hs _ zq_129
    · exact hs _ zq_147
    · exact hs _ zq_167
    · exact hs _ zq_188
    · exact hs _ zq_210
  have h2 : ∀ i : Nat, i < 17 → (Cond.eq (.field ((fun i : Nat => Term.string RX2 (zs_ix.getD i (0, "")).1) i) "java/lang/String" "coder" "B") (.int 0)).before #[Value.ref b] s = true := by
    intro i hi
    rcases tpz_17 i hi with rfl | rfl | rfl | rfl | rfl | rfl | rfl | rfl | rfl | rfl | rfl | rfl | rfl | rfl | rfl | rfl | rfl
    · exact hs _ zq_10
    · exact hs _ zq_27
    · exact hs _ zq_35
    · exact hs _ zq_259
    · exact hs _ zq_20
    · exact hs _ zq_238
    · exact hs _ zq_68
    · exact hs _ zq_56
    · exact hs _ zq_45
    · exact hs _ zq_80
    · exact hs _ zq_95
    · exact hs _ zq_113
    · exact hs _ zq_130
    · exact hs _ zq_148
    · exact hs _ zq_168
    · exact hs _ zq_189
    · exact hs _ zq_211
  have h3 : ∀ i : Nat, i < 17 → (Cond.arrayOf (.field ((fun i : Nat => Term.string RX2 (zs_ix.getD i (0, "")).1) i) "java/lang/String" "value" "[B") .byte).before #[Value.ref b] s = true := by
    intro i hi
    rcases tpz_17 i hi with rfl | rfl | rfl | rfl | rfl | rfl | rfl | rfl | rfl | rfl | rfl | rfl | rfl | rfl | rfl | rfl | rfl
    · exact hs _ zq_11
    · exact hs _ zq_28
    · exact hs _ zq_36
    · exact hs _ zq_260
    · exact hs _ zq_21
    · exact hs _ zq_239
    · exact hs _ zq_69
    · exact hs _ zq_57
    · exact hs _ zq_46
    · exact hs _ zq_81
    · exact hs _ zq_96
    · exact hs _ zq_114
    · exact hs _ zq_131
    · exact hs _ zq_149
    · exact hs _ zq_169
    · exact hs _ zq_190
    · exact hs _ zq_212
  have h4 : ∀ i : Nat, i < 17 → (Cond.eq (.length (.field ((fun i : Nat => Term.string RX2 (zs_ix.getD i (0, "")).1) i) "java/lang/String" "value" "[B")) (.int (Int32.ofNat (zs_len.getD i 0)))).before #[Value.ref b] s = true := by
    intro i hi
    rcases tpz_17 i hi with rfl | rfl | rfl | rfl | rfl | rfl | rfl | rfl | rfl | rfl | rfl | rfl | rfl | rfl | rfl | rfl | rfl
    · exact hs _ zq_12
    · exact hs _ zq_29
    · exact hs _ zq_37
    · exact hs _ zq_261
    · exact hs _ zq_22
    · exact hs _ zq_240
    · exact hs _ zq_70
    · exact hs _ zq_58
    · exact hs _ zq_47
    · exact hs _ zq_82
    · exact hs _ zq_97
    · exact hs _ zq_115
    · exact hs _ zq_132
    · exact hs _ zq_150
    · exact hs _ zq_170
    · exact hs _ zq_191
    · exact hs _ zq_213
  have h5 : ∀ i : Nat, i < 17 → ∀ j : Nat, j < zs_len.getD i 0 → (Cond.eq (.elem (.field ((fun i : Nat => Term.string RX2 (zs_ix.getD i (0, "")).1) i) "java/lang/String" "value" "[B") (.int (Int32.ofNat j))) (.int ((zs_byt.getD i []).getD j 0))).before #[Value.ref b] s = true := by
    intro i hi j hj
    rcases tpz_17 i hi with rfl | rfl | rfl | rfl | rfl | rfl | rfl | rfl | rfl | rfl | rfl | rfl | rfl | rfl | rfl | rfl | rfl
    · rcases tpz_6 j hj with rfl | rfl | rfl | rfl | rfl | rfl
      · exact hs _ zq_13
      · exact hs _ zq_14
      · exact hs _ zq_15
      · exact hs _ zq_16
      · exact hs _ zq_17
      · exact hs _ zq_18
    · rcases tpz_2 j hj with rfl | rfl
      · exact hs _ zq_30
      · exact hs _ zq_31
    · rcases tpz_3 j hj with rfl | rfl | rfl
      · exact hs _ zq_38
      · exact hs _ zq_39
      · exact hs _ zq_40
    · rcases tpz_4 j hj with rfl | rfl | rfl | rfl
      · exact hs _ zq_262
      · exact hs _ zq_263
      · exact hs _ zq_264
      · exact hs _ zq_265
    · rcases tpz_2 j hj with rfl | rfl
      · exact hs _ zq_23
      · exact hs _ zq_24
    · rcases tpz_2 j hj with rfl | rfl
      · exact hs _ zq_241
      · exact hs _ zq_242
    · rcases tpz_2 j hj with rfl | rfl
      · exact hs _ zq_71
      · exact hs _ zq_72
    · rcases tpz_3 j hj with rfl | rfl | rfl
      · exact hs _ zq_59
      · exact hs _ zq_60
      · exact hs _ zq_61
    · rcases tpz_3 j hj with rfl | rfl | rfl
      · exact hs _ zq_48
      · exact hs _ zq_49
      · exact hs _ zq_50
    · rcases tpz_4 j hj with rfl | rfl | rfl | rfl
      · exact hs _ zq_83
      · exact hs _ zq_84
      · exact hs _ zq_85
      · exact hs _ zq_86
    · rcases tpz_6 j hj with rfl | rfl | rfl | rfl | rfl | rfl
      · exact hs _ zq_98
      · exact hs _ zq_99
      · exact hs _ zq_100
      · exact hs _ zq_101
      · exact hs _ zq_102
      · exact hs _ zq_103
    · rcases tpz_4 j hj with rfl | rfl | rfl | rfl
      · exact hs _ zq_116
      · exact hs _ zq_117
      · exact hs _ zq_118
      · exact hs _ zq_119
    · rcases tpz_4 j hj with rfl | rfl | rfl | rfl
      · exact hs _ zq_133
      · exact hs _ zq_134
      · exact hs _ zq_135
      · exact hs _ zq_136
    · rcases tpz_5 j hj with rfl | rfl | rfl | rfl | rfl
      · exact hs _ zq_151
      · exact hs _ zq_152
      · exact hs _ zq_153
      · exact hs _ zq_154
      · exact hs _ zq_155
    · rcases tpz_5 j hj with rfl | rfl | rfl | rfl | rfl
      · exact hs _ zq_171
      · exact hs _ zq_172
      · exact hs _ zq_173
      · exact hs _ zq_174
      · exact hs _ zq_175
    · rcases tpz_5 j hj with rfl | rfl | rfl | rfl | rfl
      · exact hs _ zq_192
      · exact hs _ zq_193
      · exact hs _ zq_194
      · exact hs _ zq_195
      · exact hs _ zq_196
    · rcases tpz_9 j hj with rfl | rfl | rfl | rfl | rfl | rfl | rfl | rfl | rfl
      · exact hs _ zq_214
      · exact hs _ zq_215
      · exact hs _ zq_216
      · exact hs _ zq_217
      · exact hs _ zq_218
      · exact hs _ zq_219
      · exact hs _ zq_220
      · exact hs _ zq_221
      · exact hs _ zq_222
  have h6 : ∀ i j : Nat, i < 17 → j < 17 → i ≠ j → (Cond.not (Cond.eq ((fun i : Nat => Term.string RX2 (zs_ix.getD i (0, "")).1) i) ((fun i : Nat => Term.string RX2 (zs_ix.getD i (0, "")).1) j))).before #[Value.ref b] s = true ∨ (Cond.not (Cond.eq ((fun i : Nat => Term.string RX2 (zs_ix.getD i (0, "")).1) j) ((fun i : Nat => Term.string RX2 (zs_ix.getD i (0, "")).1) i))).before #[Value.ref b] s = true := by
    intro i j hi hj hn
    rcases tpz_17 i hi with rfl | rfl | rfl | rfl | rfl | rfl | rfl | rfl | rfl | rfl | rfl | rfl | rfl | rfl | rfl | rfl | rfl
    · rcases tpz_17 j hj with rfl | rfl | rfl | rfl | rfl | rfl | rfl | rfl | rfl | rfl | rfl | rfl | rfl | rfl | rfl | rfl | rfl
      · exact absurd rfl hn
      · exact Or.inl (hs _ zq_32)
      · exact Or.inl (hs _ zq_41)
      · exact Or.inl (hs _ zq_266)
      · exact Or.inl (hs _ zq_25)
      · exact Or.inl (hs _ zq_243)
      · exact Or.inl (hs _ zq_73)
      · exact Or.inl (hs _ zq_62)
      · exact Or.inl (hs _ zq_51)
      · exact Or.inl (hs _ zq_87)
      · exact Or.inl (hs _ zq_104)
      · exact Or.inl (hs _ zq_120)
      · exact Or.inl (hs _ zq_137)
      · exact Or.inl (hs _ zq_156)
      · exact Or.inl (hs _ zq_176)
      · exact Or.inl (hs _ zq_197)
      · exact Or.inl (hs _ zq_223)
    · rcases tpz_17 j hj with rfl | rfl | rfl | rfl | rfl | rfl | rfl | rfl | rfl | rfl | rfl | rfl | rfl | rfl | rfl | rfl | rfl
      · exact Or.inr (hs _ zq_32)
      · exact absurd rfl hn
      · exact Or.inl (hs _ zq_43)
      · exact Or.inl (hs _ zq_268)
      · exact Or.inr (hs _ zq_33)
      · exact Or.inl (hs _ zq_245)
      · exact Or.inl (hs _ zq_75)
      · exact Or.inl (hs _ zq_64)
      · exact Or.inl (hs _ zq_53)
      · exact Or.inl (hs _ zq_89)
      · exact Or.inl (hs _ zq_106)
      · exact Or.inl (hs _ zq_122)
      · exact Or.inl (hs _ zq_139)
      · exact Or.inl (hs _ zq_158)
      · exact Or.inl (hs _ zq_178)
      · exact Or.inl (hs _ zq_199)
      · exact Or.inl (hs _ zq_225)
    · rcases tpz_17 j hj with rfl | rfl | rfl | rfl | rfl | rfl | rfl | rfl | rfl | rfl | rfl | rfl | rfl | rfl | rfl | rfl | rfl
      · exact Or.inr (hs _ zq_41)
      · exact Or.inr (hs _ zq_43)
      · exact absurd rfl hn
      · exact Or.inl (hs _ zq_269)
      · exact Or.inr (hs _ zq_42)
      · exact Or.inl (hs _ zq_246)
      · exact Or.inl (hs _ zq_76)
      · exact Or.inl (hs _ zq_65)
      · exact Or.inl (hs _ zq_54)
      · exact Or.inl (hs _ zq_90)
      · exact Or.inl (hs _ zq_107)
      · exact Or.inl (hs _ zq_123)
      · exact Or.inl (hs _ zq_140)
      · exact Or.inl (hs _ zq_159)
      · exact Or.inl (hs _ zq_179)
      · exact Or.inl (hs _ zq_200)
      · exact Or.inl (hs _ zq_226)
    · rcases tpz_17 j hj with rfl | rfl | rfl | rfl | rfl | rfl | rfl | rfl | rfl | rfl | rfl | rfl | rfl | rfl | rfl | rfl | rfl
      · exact Or.inr (hs _ zq_266)
      · exact Or.inr (hs _ zq_268)
      · exact Or.inr (hs _ zq_269)
      · exact absurd rfl hn
      · exact Or.inr (hs _ zq_267)
      · exact Or.inr (hs _ zq_281)
      · exact Or.inr (hs _ zq_272)
      · exact Or.inr (hs _ zq_271)
      · exact Or.inr (hs _ zq_270)
      · exact Or.inr (hs _ zq_273)
      · exact Or.inr (hs _ zq_274)
      · exact Or.inr (hs _ zq_275)
      · exact Or.inr (hs _ zq_276)
      · exact Or.inr (hs _ zq_277)
      · exact Or.inr (hs _ zq_278)
      · exact Or.inr (hs _ zq_279)
      · exact Or.inr (hs _ zq_280)
    · rcases tpz_17 j hj with rfl | rfl | rfl | rfl | rfl | rfl | rfl | rfl | rfl | rfl | rfl | rfl | rfl | rfl | rfl | rfl | rfl
      · exact Or.inr (hs _ zq_25)
      · exact Or.inl (hs _ zq_33)
      · exact Or.inl (hs _ zq_42)
      · exact Or.inl (hs _ zq_267)
      · exact absurd rfl hn
      · exact Or.inl (hs _ zq_244)
      · exact Or.inl (hs _ zq_74)
      · exact Or.inl (hs _ zq_63)
      · exact Or.inl (hs _ zq_52)
      · exact Or.inl (hs _ zq_88)
      · exact Or.inl (hs _ zq_105)
      · exact Or.inl (hs _ zq_121)
      · exact Or.inl (hs _ zq_138)
      · exact Or.inl (hs _ zq_157)
      · exact Or.inl (hs _ zq_177)
      · exact Or.inl (hs _ zq_198)
      · exact Or.inl (hs _ zq_224)
    · rcases tpz_17 j hj with rfl | rfl | rfl | rfl | rfl | rfl | rfl | rfl | rfl | rfl | rfl | rfl | rfl | rfl | rfl | rfl | rfl
      · exact Or.inr (hs _ zq_243)
      · exact Or.inr (hs _ zq_245)
      · exact Or.inr (hs _ zq_246)
      · exact Or.inl (hs _ zq_281)
      · exact Or.inr (hs _ zq_244)
      · exact absurd rfl hn
      · exact Or.inr (hs _ zq_249)
      · exact Or.inr (hs _ zq_248)
      · exact Or.inr (hs _ zq_247)
      · exact Or.inr (hs _ zq_250)
      · exact Or.inr (hs _ zq_251)
      · exact Or.inr (hs _ zq_252)
      · exact Or.inr (hs _ zq_253)
      · exact Or.inr (hs _ zq_254)
      · exact Or.inr (hs _ zq_255)
      · exact Or.inr (hs _ zq_256)
      · exact Or.inr (hs _ zq_257)
    · rcases tpz_17 j hj with rfl | rfl | rfl | rfl | rfl | rfl | rfl | rfl | rfl | rfl | rfl | rfl | rfl | rfl | rfl | rfl | rfl
      · exact Or.inr (hs _ zq_73)
      · exact Or.inr (hs _ zq_75)
      · exact Or.inr (hs _ zq_76)
      · exact Or.inl (hs _ zq_272)
      · exact Or.inr (hs _ zq_74)
      · exact Or.inl (hs _ zq_249)
      · exact absurd rfl hn
      · exact Or.inr (hs _ zq_78)
      · exact Or.inr (hs _ zq_77)
      · exact Or.inl (hs _ zq_93)
      · exact Or.inl (hs _ zq_110)
      · exact Or.inl (hs _ zq_126)
      · exact Or.inl (hs _ zq_143)
      · exact Or.inl (hs _ zq_162)
      · exact Or.inl (hs _ zq_182)
      · exact Or.inl (hs _ zq_203)
      · exact Or.inl (hs _ zq_229)
    · rcases tpz_17 j hj with rfl | rfl | rfl | rfl | rfl | rfl | rfl | rfl | rfl | rfl | rfl | rfl | rfl | rfl | rfl | rfl | rfl
      · exact Or.inr (hs _ zq_62)
      · exact Or.inr (hs _ zq_64)
      · exact Or.inr (hs _ zq_65)
      · exact Or.inl (hs _ zq_271)
      · exact Or.inr (hs _ zq_63)
      · exact Or.inl (hs _ zq_248)
      · exact Or.inl (hs _ zq_78)
      · exact absurd rfl hn
      · exact Or.inr (hs _ zq_66)
      · exact Or.inl (hs _ zq_92)
      · exact Or.inl (hs _ zq_109)
      · exact Or.inl (hs _ zq_125)
      · exact Or.inl (hs _ zq_142)
      · exact Or.inl (hs _ zq_161)
      · exact Or.inl (hs _ zq_181)
      · exact Or.inl (hs _ zq_202)
      · exact Or.inl (hs _ zq_228)
    · rcases tpz_17 j hj with rfl | rfl | rfl | rfl | rfl | rfl | rfl | rfl | rfl | rfl | rfl | rfl | rfl | rfl | rfl | rfl | rfl
      · exact Or.inr (hs _ zq_51)
      · exact Or.inr (hs _ zq_53)
      · exact Or.inr (hs _ zq_54)
      · exact Or.inl (hs _ zq_270)
      · exact Or.inr (hs _ zq_52)
      · exact Or.inl (hs _ zq_247)
      · exact Or.inl (hs _ zq_77)
      · exact Or.inl (hs _ zq_66)
      · exact absurd rfl hn
      · exact Or.inl (hs _ zq_91)
      · exact Or.inl (hs _ zq_108)
      · exact Or.inl (hs _ zq_124)
      · exact Or.inl (hs _ zq_141)
      · exact Or.inl (hs _ zq_160)
      · exact Or.inl (hs _ zq_180)
      · exact Or.inl (hs _ zq_201)
      · exact Or.inl (hs _ zq_227)
    · rcases tpz_17 j hj with rfl | rfl | rfl | rfl | rfl | rfl | rfl | rfl | rfl | rfl | rfl | rfl | rfl | rfl | rfl | rfl | rfl
      · exact Or.inr (hs _ zq_87)
      · exact Or.inr (hs _ zq_89)
      · exact Or.inr (hs _ zq_90)
      · exact Or.inl (hs _ zq_273)
      · exact Or.inr (hs _ zq_88)
      · exact Or.inl (hs _ zq_250)
      · exact Or.inr (hs _ zq_93)
      · exact Or.inr (hs _ zq_92)
      · exact Or.inr (hs _ zq_91)
      · exact absurd rfl hn
      · exact Or.inl (hs _ zq_111)
      · exact Or.inl (hs _ zq_127)
      · exact Or.inl (hs _ zq_144)
      · exact Or.inl (hs _ zq_163)
      · exact Or.inl (hs _ zq_183)
      · exact Or.inl (hs _ zq_204)
      · exact Or.inl (hs _ zq_230)
    · rcases tpz_17 j hj with rfl | rfl | rfl | rfl | rfl | rfl | rfl | rfl | rfl | rfl | rfl | rfl | rfl | rfl | rfl | rfl | rfl
      · exact Or.inr (hs _ zq_104)
      · exact Or.inr (hs _ zq_106)
      · exact Or.inr (hs _ zq_107)
      · exact Or.inl (hs _ zq_274)
      · exact Or.inr (hs _ zq_105)
      · exact Or.inl (hs _ zq_251)
      · exact Or.inr (hs _ zq_110)
      · exact Or.inr (hs _ zq_109)
      · exact Or.inr (hs _ zq_108)
      · exact Or.inr (hs _ zq_111)
      · exact absurd rfl hn
      · exact Or.inl (hs _ zq_128)
      · exact Or.inl (hs _ zq_145)
      · exact Or.inl (hs _ zq_164)
      · exact Or.inl (hs _ zq_184)
      · exact Or.inl (hs _ zq_205)
      · exact Or.inl (hs _ zq_231)
    · rcases tpz_17 j hj with rfl | rfl | rfl | rfl | rfl | rfl | rfl | rfl | rfl | rfl | rfl | rfl | rfl | rfl | rfl | rfl | rfl
      · exact Or.inr (hs _ zq_120)
      · exact Or.inr (hs _ zq_122)
      · exact Or.inr (hs _ zq_123)
      · exact Or.inl (hs _ zq_275)
      · exact Or.inr (hs _ zq_121)
      · exact Or.inl (hs _ zq_252)
      · exact Or.inr (hs _ zq_126)
      · exact Or.inr (hs _ zq_125)
      · exact Or.inr (hs _ zq_124)
      · exact Or.inr (hs _ zq_127)
      · exact Or.inr (hs _ zq_128)
      · exact absurd rfl hn
      · exact Or.inl (hs _ zq_146)
      · exact Or.inl (hs _ zq_165)
      · exact Or.inl (hs _ zq_185)
      · exact Or.inl (hs _ zq_206)
      · exact Or.inl (hs _ zq_232)
    · rcases tpz_17 j hj with rfl | rfl | rfl | rfl | rfl | rfl | rfl | rfl | rfl | rfl | rfl | rfl | rfl | rfl | rfl | rfl | rfl
      · exact Or.inr (hs _ zq_137)
      · exact Or.inr (hs _ zq_139)
      · exact Or.inr (hs _ zq_140)
      · exact Or.inl (hs _ zq_276)
      · exact Or.inr (hs _ zq_138)
      · exact Or.inl (hs _ zq_253)
      · exact Or.inr (hs _ zq_143)
      · exact Or.inr (hs _ zq_142)
      · exact Or.inr (hs _ zq_141)
      · exact Or.inr (hs _ zq_144)
      · exact Or.inr (hs _ zq_145)
      · exact Or.inr (hs _ zq_146)
      · exact absurd rfl hn
      · exact Or.inl (hs _ zq_166)
      · exact Or.inl (hs _ zq_186)
      · exact Or.inl (hs _ zq_207)
      · exact Or.inl (hs _ zq_233)
    · rcases tpz_17 j hj with rfl | rfl | rfl | rfl | rfl | rfl | rfl | rfl | rfl | rfl | rfl | rfl | rfl | rfl | rfl | rfl | rfl
      · exact Or.inr (hs _ zq_156)
      · exact Or.inr (hs _ zq_158)
      · exact Or.inr (hs _ zq_159)
      · exact Or.inl (hs _ zq_277)
      · exact Or.inr (hs _ zq_157)
      · exact Or.inl (hs _ zq_254)
      · exact Or.inr (hs _ zq_162)
      · exact Or.inr (hs _ zq_161)
      · exact Or.inr (hs _ zq_160)
      · exact Or.inr (hs _ zq_163)
      · exact Or.inr (hs _ zq_164)
      · exact Or.inr (hs _ zq_165)
      · exact Or.inr (hs _ zq_166)
      · exact absurd rfl hn
      · exact Or.inl (hs _ zq_187)
      · exact Or.inl (hs _ zq_208)
      · exact Or.inl (hs _ zq_234)
    · rcases tpz_17 j hj with rfl | rfl | rfl | rfl | rfl | rfl | rfl | rfl | rfl | rfl | rfl | rfl | rfl | rfl | rfl | rfl | rfl
      · exact Or.inr (hs _ zq_176)
      · exact Or.inr (hs _ zq_178)
      · exact Or.inr (hs _ zq_179)
      · exact Or.inl (hs _ zq_278)
      · exact Or.inr (hs _ zq_177)
      · exact Or.inl (hs _ zq_255)
      · exact Or.inr (hs _ zq_182)
      · exact Or.inr (hs _ zq_181)
      · exact Or.inr (hs _ zq_180)
      · exact Or.inr (hs _ zq_183)
      · exact Or.inr (hs _ zq_184)
      · exact Or.inr (hs _ zq_185)
      · exact Or.inr (hs _ zq_186)
      · exact Or.inr (hs _ zq_187)
      · exact absurd rfl hn
      · exact Or.inl (hs _ zq_209)
      · exact Or.inl (hs _ zq_235)
    · rcases tpz_17 j hj with rfl | rfl | rfl | rfl | rfl | rfl | rfl | rfl | rfl | rfl | rfl | rfl | rfl | rfl | rfl | rfl | rfl
      · exact Or.inr (hs _ zq_197)
      · exact Or.inr (hs _ zq_199)
      · exact Or.inr (hs _ zq_200)
      · exact Or.inl (hs _ zq_279)
      · exact Or.inr (hs _ zq_198)
      · exact Or.inl (hs _ zq_256)
      · exact Or.inr (hs _ zq_203)
      · exact Or.inr (hs _ zq_202)
      · exact Or.inr (hs _ zq_201)
      · exact Or.inr (hs _ zq_204)
      · exact Or.inr (hs _ zq_205)
      · exact Or.inr (hs _ zq_206)
      · exact Or.inr (hs _ zq_207)
      · exact Or.inr (hs _ zq_208)
      · exact Or.inr (hs _ zq_209)
      · exact absurd rfl hn
      · exact Or.inl (hs _ zq_236)
    · rcases tpz_17 j hj with rfl | rfl | rfl | rfl | rfl | rfl | rfl | rfl | rfl | rfl | rfl | rfl | rfl | rfl | rfl | rfl | rfl
      · exact Or.inr (hs _ zq_223)
      · exact Or.inr (hs _ zq_225)
      · exact Or.inr (hs _ zq_226)
      · exact Or.inl (hs _ zq_280)
      · exact Or.inr (hs _ zq_224)
      · exact Or.inl (hs _ zq_257)
      · exact Or.inr (hs _ zq_229)
      · exact Or.inr (hs _ zq_228)
      · exact Or.inr (hs _ zq_227)
      · exact Or.inr (hs _ zq_230)
      · exact Or.inr (hs _ zq_231)
      · exact Or.inr (hs _ zq_232)
      · exact Or.inr (hs _ zq_233)
      · exact Or.inr (hs _ zq_234)
      · exact Or.inr (hs _ zq_235)
      · exact Or.inr (hs _ zq_236)
      · exact absurd rfl hn
  obtain ⟨adK, adV, hV, hE⟩ := vk_Sof (args := #[Value.ref b]) (s := s) (N := 17) (tm := fun i : Nat => Term.string RX2 (zs_ix.getD i (0, "")).1) (len := zs_len) (byt := zs_byt) (A := (fun q : Nat => s.heap.size ≤ q)) (fun i hi => by have := zs_le i hi; omega) h1 h2 h3 h4 h5 h6 hA
  have hC : va_Z "java/lang/String" "COMPACT_STRINGS" "Z" (.int 1) (fun q : Nat => s.heap.size ≤ q) s s.heap := va_Zof (hts (.laysStatic "java/lang/String" "COMPACT_STRINGS" "Z") mw_1717) (hts (.initialized "java/lang/String") mw_1718) (va_eqi (hs _ zq_4)) hA
  have hF := va_Zqof (A := (fun q : Nat => s.heap.size ≤ q)) (hts (.laysStatic "jdk/internal/util/Preconditions" "SIOOBE_FORMATTER" "Ljava/util/function/BiFunction;") mw_1719) (hts (.initialized "jdk/internal/util/Preconditions") mw_1720) (hs _ zq_5) hA
  have h7 : ∀ i : Nat, i < 17 → vk_R RX2 (zs_ix.getD i (0, "")).1 (zs_ix.getD i (0, "")).2 (adK i) s := by
    intro i hi
    have q9 := hE i hi
    rcases tpz_17 i hi with rfl | rfl | rfl | rfl | rfl | rfl | rfl | rfl | rfl | rfl | rfl | rfl | rfl | rfl | rfl | rfl | rfl
    · exact vk_R.of (hts (.stringRef RX2 84 "window") mw_1721) q9
    · exact vk_R.of (hts (.stringRef RX2 93 "at") mw_1722) q9
    · exact vk_R.of (hts (.stringRef RX2 102 "pay") mw_1723) q9
    · exact vk_R.of (hts (.stringRef RX2 108 "fine") mw_1724) q9
    · exact vk_R.of (hts (.stringRef RX2 110 "to") mw_1725) q9
    · exact vk_R.of (hts (.stringRef RX2 115 "if") mw_1726) q9
    · exact vk_R.of (hts (.stringRef RX2 127 "or") mw_1727) q9
    · exact vk_R.of (hts (.stringRef RX2 139 "and") mw_1728) q9
    · exact vk_R.of (hts (.stringRef RX2 141 "not") mw_1729) q9
    · exact vk_R.of (hts (.stringRef RX2 167 "tons") mw_1730) q9
    · exact vk_R.of (hts (.stringRef RX2 172 "billed") mw_1731) q9
    · exact vk_R.of (hts (.stringRef RX2 174 "heat") mw_1732) q9
    · exact vk_R.of (hts (.stringRef RX2 176 "late") mw_1733) q9
    · exact vk_R.of (hts (.stringRef RX2 178 "early") mw_1734) q9
    · exact vk_R.of (hts (.stringRef RX2 180 "price") mw_1735) q9
    · exact vk_R.of (hts (.stringRef RX2 182 "hours") mw_1736) q9
    · exact vk_R.of (hts (.stringRef RX2 184 "elsewhere") mw_1737) q9
  rcases hF with hF | ⟨t, hF⟩
  · exact ⟨adK, adV, none, hV, hC, hF, h7⟩
  · exact ⟨adK, adV, some t, hV, hC, hF, h7⟩
theorem nz_in : ∀ w ∈ nz_L, w ∈ lw_tbl := (List.forall_mem_cons.mpr ⟨mw_1850, (List.forall_mem_cons.mpr ⟨mw_1849, (List.forall_mem_cons.mpr ⟨mw_1848, (List.forall_mem_cons.mpr ⟨mw_1847, (List.forall_mem_cons.mpr ⟨mw_1846, (List.forall_mem_cons.mpr ⟨mw_1845, (List.forall_mem_cons.mpr ⟨mw_1844, (List.forall_mem_cons.mpr ⟨mw_1843, (List.forall_mem_cons.mpr ⟨mw_1842, (List.forall_mem_cons.mpr ⟨mw_1841, (List.forall_mem_cons.mpr ⟨mw_1840, (List.forall_mem_cons.mpr ⟨mw_1839, (List.forall_mem_cons.mpr ⟨mw_1838, (List.forall_mem_cons.mpr ⟨mw_1837, (List.forall_mem_cons.mpr ⟨mw_1836, (List.forall_mem_cons.mpr ⟨mw_1835, (List.forall_mem_cons.mpr ⟨mw_1834, (List.forall_mem_cons.mpr ⟨mw_1833, (List.forall_mem_cons.mpr ⟨mw_1832, (List.forall_mem_cons.mpr ⟨mw_1831, (List.forall_mem_cons.mpr ⟨mw_1830, (List.forall_mem_cons.mpr ⟨mw_1829, (List.forall_mem_cons.mpr ⟨mw_1828, (List.forall_mem_cons.mpr ⟨mw_1827, (List.forall_mem_cons.mpr ⟨mw_1826, (List.forall_mem_cons.mpr ⟨mw_1825, (List.forall_mem_cons.mpr ⟨mw_1824, (List.forall_mem_cons.mpr ⟨mw_1823, (List.forall_mem_cons.mpr ⟨mw_1822, (List.forall_mem_cons.mpr ⟨mw_1821, (List.forall_mem_cons.mpr ⟨mw_1820, (List.forall_mem_cons.mpr ⟨mw_1819, (List.forall_mem_cons.mpr ⟨mw_1818, (List.forall_mem_cons.mpr ⟨mw_1817, (List.forall_mem_cons.mpr ⟨mw_1816, (List.forall_mem_cons.mpr ⟨mw_1815, (List.forall_mem_cons.mpr ⟨mw_1814, (List.forall_mem_cons.mpr ⟨mw_1813, (List.forall_mem_cons.mpr ⟨mw_1812, (List.forall_mem_cons.mpr ⟨mw_1811, (List.forall_mem_cons.mpr ⟨mw_1810, (List.forall_mem_cons.mpr ⟨mw_1809, (List.forall_mem_cons.mpr ⟨mw_1808, (List.forall_mem_cons.mpr ⟨mw_1807, (List.forall_mem_cons.mpr ⟨mw_1806, (List.forall_mem_cons.mpr ⟨mw_1805, (List.forall_mem_cons.mpr ⟨mw_1804, (List.forall_mem_cons.mpr ⟨mw_1803, (List.forall_mem_cons.mpr ⟨mw_1802, (List.forall_mem_cons.mpr ⟨mw_1801, (List.forall_mem_cons.mpr ⟨mw_1800, (List.forall_mem_cons.mpr ⟨mw_1799, (List.forall_mem_cons.mpr ⟨mw_1798, (List.forall_mem_cons.mpr ⟨mw_1797, (List.forall_mem_cons.mpr ⟨mw_1796, (List.forall_mem_cons.mpr ⟨mw_1795, (List.forall_mem_cons.mpr ⟨mw_1794, (List.forall_mem_cons.mpr ⟨mw_1793, (List.forall_mem_cons.mpr ⟨mw_1792, (List.forall_mem_cons.mpr ⟨mw_1791, (List.forall_mem_cons.mpr ⟨mw_1790, (List.forall_mem_cons.mpr ⟨mw_1789, (List.forall_mem_cons.mpr ⟨mw_1788, (List.forall_mem_cons.mpr ⟨mw_1787, (List.forall_mem_cons.mpr ⟨mw_1786, (List.forall_mem_cons.mpr ⟨mw_1785, (List.forall_mem_cons.mpr ⟨mw_1784, (List.forall_mem_cons.mpr ⟨mw_1783, (List.forall_mem_cons.mpr ⟨mw_1782, (List.forall_mem_cons.mpr ⟨mw_1781, (List.forall_mem_cons.mpr ⟨mw_1780, (List.forall_mem_cons.mpr ⟨mw_1779, (List.forall_mem_cons.mpr ⟨mw_1778, (List.forall_mem_cons.mpr ⟨mw_1777, (List.forall_mem_cons.mpr ⟨mw_1776, (List.forall_mem_cons.mpr ⟨mw_1775, (List.forall_mem_cons.mpr ⟨mw_1774, (List.forall_mem_cons.mpr ⟨mw_1773, (List.forall_mem_cons.mpr ⟨mw_1772, (List.forall_mem_cons.mpr ⟨mw_1771, (List.forall_mem_cons.mpr ⟨mw_1770, (List.forall_mem_cons.mpr ⟨mw_1769, (List.forall_mem_cons.mpr ⟨mw_1768, (List.forall_mem_cons.mpr ⟨mw_1767, (List.forall_mem_cons.mpr ⟨mw_1766, (List.forall_mem_cons.mpr ⟨mw_1765, (List.forall_mem_cons.mpr ⟨mw_1764, (List.forall_mem_cons.mpr ⟨mw_1763, (List.forall_mem_cons.mpr ⟨mw_1762, (List.forall_mem_cons.mpr ⟨mw_1761, (List.forall_mem_cons.mpr ⟨mw_1760, (List.forall_mem_cons.mpr ⟨mw_1759, (List.forall_mem_cons.mpr ⟨mw_1758, (List.forall_mem_cons.mpr ⟨mw_1757, (List.forall_mem_cons.mpr ⟨mw_1756, (List.forall_mem_cons.mpr ⟨mw_1755, (List.forall_mem_cons.mpr ⟨mw_1754, (List.forall_mem_cons.mpr ⟨mw_1753, (List.forall_mem_cons.mpr ⟨mw_1752, (List.forall_mem_cons.mpr ⟨mw_1751, (List.forall_mem_cons.mpr ⟨mw_1750, (List.forall_mem_cons.mpr ⟨mw_1749, (List.forall_mem_cons.mpr ⟨mw_1748, (List.forall_mem_cons.mpr ⟨mw_1747, (List.forall_mem_cons.mpr ⟨mw_1746, (List.forall_mem_cons.mpr ⟨mw_1745, (List.forall_mem_cons.mpr ⟨mw_1744, (List.forall_mem_cons.mpr ⟨mw_1743, (List.forall_mem_cons.mpr ⟨mw_1742, (List.forall_mem_cons.mpr ⟨mw_1741, (List.forall_mem_cons.mpr ⟨mw_1740, (List.forall_mem_cons.mpr ⟨mw_1739, (List.forall_mem_cons.mpr ⟨mw_1738, (fun _ h => absurd h List.not_mem_nil)⟩)⟩)⟩)⟩)⟩)⟩)⟩)⟩)⟩)⟩)⟩)⟩)⟩)⟩)⟩)⟩)⟩)⟩)⟩)⟩)⟩)⟩)⟩)⟩)⟩)⟩)⟩)⟩)⟩)⟩)⟩)⟩)⟩)⟩)⟩)⟩)⟩)⟩)⟩)⟩)⟩)⟩)⟩)⟩)⟩)⟩)⟩)⟩)⟩)⟩)⟩)⟩)⟩)⟩)⟩)⟩)⟩)⟩)⟩)⟩)⟩)⟩)⟩)⟩)⟩)⟩)⟩)⟩)⟩)⟩)⟩)⟩)⟩)⟩)⟩)⟩)⟩)⟩)⟩)⟩)⟩)⟩)⟩)⟩)⟩)⟩)⟩)⟩)⟩)⟩)⟩)⟩)⟩)⟩)⟩)⟩)⟩)⟩)⟩)⟩)⟩)⟩)⟩)⟩)⟩)⟩)⟩)⟩)⟩)⟩)⟩)⟩)⟩)
set_option maxHeartbeats 4000000 in
set_option maxRecDepth 100000 in
theorem nz_start {p : Program} {s : State} {m : MethodId} {meth : Method} {c : Code} {b N9 : Nat} {xs : Nat → Int32} (C0 : lw_At p s m meth c b N9 xs) : nz_ok s := by
  obtain ⟨hx, hb, hr, hml, hown, hts, hX, hbl, hlocks, hgv⟩ := C0
  have hs := flat_of_before _ hgv
  refine ⟨fun w hw => va_Nw.of (nz_tab (List.all_eq_true.mp nz_all w hw)) (hts w (nz_in w hw)), va_AO.of (hts (.arrayOver (.object RX10)) mw_1716), va_AO.of (hts (.arrayOver (.object RX8)) mw_1713), va_AO.of (hts (.arrayOver (.object RX5)) mw_1714), va_AO.of (hts (.arrayOver (.object RX0)) mw_1715), ?_⟩
  have w84 : ∃ a, vk_R RX2 84 "window" a s := by
    obtain ⟨a, c1, cA, kA, q1, -⟩ := Cond.exactly_spec (args := #[Value.ref b]) (first := s) (o := none) (s := s) (idx := []) (t := .string RX2 84) (cls := "java/lang/String") (hs _ zq_9)
    exact ⟨a, vk_R.of (hts (.stringRef RX2 84 "window") mw_1721) q1⟩
  have w93 : ∃ a, vk_R RX2 93 "at" a s := by
    obtain ⟨a, c1, cA, kA, q1, -⟩ := Cond.exactly_spec (args := #[Value.ref b]) (first := s) (o := none) (s := s) (idx := []) (t := .string RX2 93) (cls := "java/lang/String") (hs _ zq_26)
    exact ⟨a, vk_R.of (hts (.stringRef RX2 93 "at") mw_1722) q1⟩
  have w102 : ∃ a, vk_R RX2 102 "pay" a s := by
    obtain ⟨a, c1, cA, kA, q1, -⟩ := Cond.exactly_spec (args := #[Value.ref b]) (first := s) (o := none) (s := s) (idx := []) (t := .string RX2 102) (cls := "java/lang/String") (hs _ zq_34)
    exact ⟨a, vk_R.of (hts (.stringRef RX2 102 "pay") mw_1723) q1⟩
  have w108 : ∃ a, vk_R RX2 108 "fine" a s := by
    obtain ⟨a, c1, cA, kA, q1, -⟩ := Cond.exactly_spec (args := #[Value.ref b]) (first := s) (o := none) (s := s) (idx := []) (t := .string RX2 108) (cls := "java/lang/String") (hs _ zq_258)
    exact ⟨a, vk_R.of (hts (.stringRef RX2 108 "fine") mw_1724) q1⟩
  intro q hq
  rcases (show q = (84, "window") ∨ q = (93, "at") ∨ q = (102, "pay") ∨ q = (108, "fine") by simpa [nz_T] using hq) with rfl | rfl | rfl | rfl
  · exact w84
  · exact w93
  · exact w102
  · exact w108
