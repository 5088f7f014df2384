set_option maxHeartbeats 4000000 in
set_option maxRecDepth 100000 in
theorem c_X12_in (l : Launch) (dC : Nat → ClassId) (dI : Nat → Nat → Nat) (sz : Nat) (v : Int64) (lo : Int64) (hi : Int64) (Z_v : Int) (Z_lo : Int) (Z_hi : Int) (hZ_v : v.toInt = Z_v) (hZ_lo : lo.toInt = Z_lo) (hZ_hi : hi.toInt = Z_hi) : Met l yX12_in wsX12_in ({ frames := 2, cells := 0, slots := 0, locals := 400 }) (va_Pc [.long v, .long lo, .long hi] (pz_B dC dI [] [] sz)) (vp_Si (fun r => (r = 1 ∧ (Z_lo ≤ Z_v ∧ Z_v ≤ Z_hi)) ∨ (r = 0 ∧ ¬ (Z_lo ≤ Z_v ∧ Z_v ≤ Z_hi)))) 0 0 (fun _ => False) := by
  refine Met.ofW (cc := cX12_in) (maxL := 6) (ret := some .boolean) (by decide) rfl ?_
  intro p e s m args below meth c s₁ B hml hv
  obtain ⟨rfl, hsz, hP, hK, hD0, hN⟩ := hv
  have hx := B.exec
  have hb := B.bytes
  have hr := B.returns
  have hts := atoms_spec (ws := wsX12_in) B.pre
  have hown : s.vm.findClass RX12 = some m.cls := findClass_of_methodNamed B.named
  have hlocks := B.notSynchronized
  subst hsz
  have hD := hD0
  have hS : va_S (fun _ => True) s.heap s.heap [] := va_S.rf
  have hl := lv_entry ([.long v, .long lo, .long hi]) (n := 6) (Nat.le_of_ble_eq_true rfl)
  rw [lg_entry_eq]
  generalize (lg_sl ([.long v, .long lo, .long hi]) ++ List.replicate (6 - (lg_sl ([.long v, .long lo, .long hi])).length) Slot.unset).toArray = ls at hl ⊢
  have hl : lv_has ls 6 [(0, .long v), (2, .long lo), (4, .long hi)] := hl
  refine lv_lload_n hx hb dX12_in_0 rfl (lv_at hl 0 rfl) ?_
  refine lv_lload_n hx hb dX12_in_1 rfl (lv_at hl 1 rfl) ?_
  refine W.lcmp hx hb dX12_in_2 ?_
  refine lv_if_lt (tgt := 17) hx hb dX12_in_3 (by decide) (fun c1 => ?_) (fun c1 => ?_)
  · have ic1 : Z_v < Z_lo := zl_lt hZ_v hZ_lo c1
    refine lv_iconst (v := 0) hx hb dX12_in_17 (by decide) ?_
    exact W.zret (v := 0) hx hb hr rfl (fun t ht hW => ⟨0, rfl, (by first | (left; exact ⟨rfl, by omega⟩) | (right; exact ⟨rfl, by omega⟩) | (exfalso; omega)), ht⟩) (fun _ h => by cases h) dX12_in_18
  · have ic1 : Z_v ≥ Z_lo := zl_ltf hZ_v hZ_lo c1
    refine lv_lload_n hx hb dX12_in_6 rfl (lv_at hl 0 rfl) ?_
    refine lv_lload hx hb dX12_in_7 (lv_at hl 2 rfl) ?_
    refine W.lcmp hx hb dX12_in_9 ?_
    refine lv_if_gt (tgt := 17) hx hb dX12_in_10 (by decide) (fun c2 => ?_) (fun c2 => ?_)
    · have ic2 : Z_v > Z_hi := zl_gt hZ_v hZ_hi c2
      refine lv_iconst (v := 0) hx hb dX12_in_17 (by decide) ?_
      exact W.zret (v := 0) hx hb hr rfl (fun t ht hW => ⟨0, rfl, (by first | (left; exact ⟨rfl, by omega⟩) | (right; exact ⟨rfl, by omega⟩) | (exfalso; omega)), ht⟩) (fun _ h => by cases h) dX12_in_18
    · have ic2 : Z_v ≤ Z_hi := zl_gtf hZ_v hZ_hi c2
      refine lv_iconst (v := 1) hx hb dX12_in_13 (by decide) ?_
      refine lv_goto (tgt := 18) hx hb dX12_in_14 (by decide) ?_
      exact W.zret (v := 1) hx hb hr rfl (fun t ht hW => ⟨1, rfl, (by first | (left; exact ⟨rfl, by omega⟩) | (right; exact ⟨rfl, by omega⟩) | (exfalso; omega)), ht⟩) (fun _ h => by cases h) dX12_in_18
set_option maxHeartbeats 4000000 in
set_option maxRecDepth 100000 in
theorem c_X12_told (l : Launch) (dC : Nat → ClassId) (dI : Nat → Nat → Nat) (sz : Nat) (h0 : Nat) (v : Int32) (m0 : Int32) (m1 : Int32) (m2 : Nat) (m3 : Nat) (m4 : Nat) (m5 : Nat) (m6 : Nat) (m7 : Int32) (m8 : Nat) (m9 : Int32) (m10 : Int32) (m11 : Int32) (m12 : Int32) (m13 : Int64) (m14 : Int32) (m15 : Int32) (m16 : Int32) (m17 : Int32) (m18 : Int32) (m19 : Int32) (m20 : Int32) (m21 : Nat) (m22 : Int32) (m23 : Nat) (m24 : Nat) (m25 : Int32) (m26 : Nat) (m27 : Nat) (m28 : Int32) (m29 : Int32) (m30 : Nat) (m31 : Nat) (m32 : Int32) (m33 : Int64) (m34 : Int64) (m35 : Int64) (m36 : Int32) (m37 : Int32) (m38 : Int32) (m39 : Nat) (m40 : Nat) (m41 : Nat) (m42 : Nat) (m43 : Nat) (m44 : Nat) (m45 : Nat) (m46 : Nat) (m47 : Int32) (m48 : Int32) (m49 : Nat) (m50 : Nat) (m51 : Nat) (m52 : Nat)  : Met l yX12_told wsX12_told ({ frames := 2, cells := 0, slots := 0, locals := 400 }) (va_Pc [.ref h0, .int v] (pz_B dC dI [] [(h0, .inr (12, [.int m0, .int m1, .ref m2, .ref m3, .ref m4, .ref m5, .ref m6, .int m7, .ref m8, .int m9, .int m10, .int m11, .int m12, .long m13, .int m14, .int m15, .int m16, .int m17, .int m18, .int m19, .int m20, .ref m21, .int m22, .ref m23, .ref m24, .int m25, .ref m26, .ref m27, .int m28, .int m29, .ref m30, .ref m31, .int m32, .long m33, .long m34, .long m35, .int m36, .int m37, .int m38, .ref m39, .ref m40, .ref m41, .ref m42, .ref m43, .ref m44, .ref m45, .ref m46, .int m47, .int m48, .ref m49, .ref m50, .ref m51, .ref m52]))] sz)) (va_Qi (fun (r : Int32) (_ : Unit) => r = v) (fun (_ : Unit) (_ : State) => True) (va_A [(h0, .inr (12, [.int m0, .int m1, .ref m2, .ref m3, .ref m4, .ref m5, .ref m6, .int m7, .ref m8, .int m9, .int m10, .int m11, .int m12, .long m13, .int m14, .int m15, .int m16, .int m17, .int m18, .int m19, .int m20, .ref m21, .int m22, .ref m23, .ref m24, .int m25, .ref m26, .ref m27, .int m28, .int m29, .ref m30, .ref m31, .int m32, .long m33, .long m34, .long m35, .int m36, .int m37, .int m38, .ref m39, .ref m40, .ref m41, .ref m42, .ref m43, .ref m44, .ref m45, .ref m46, .int m47, .int m48, .ref m49, .ref m50, .ref m51, .ref m52]))] sz)) 0 0 (va_A [(h0, .inr (12, [.int m0, .int m1, .ref m2, .ref m3, .ref m4, .ref m5, .ref m6, .int m7, .ref m8, .int m9, .int m10, .int m11, .int m12, .long m13, .int m14, .int m15, .int m16, .int m17, .int m18, .int m19, .int m20, .ref m21, .int m22, .ref m23, .ref m24, .int m25, .ref m26, .ref m27, .int m28, .int m29, .ref m30, .ref m31, .int m32, .long m33, .long m34, .long m35, .int m36, .int m37, .int m38, .ref m39, .ref m40, .ref m41, .ref m42, .ref m43, .ref m44, .ref m45, .ref m46, .int m47, .int m48, .ref m49, .ref m50, .ref m51, .ref m52]))] sz) := by
  refine Met.ofW (cc := cX12_told) (maxL := 2) (ret := some .int) (by decide) rfl ?_
  intro p e s m args below meth c s₁ B hml hv
  obtain ⟨rfl, hsz, hP, hK, hD0, hN⟩ := hv
  have hx := B.exec
  have hb := B.bytes
  have hr := B.returns
  have hts := atoms_spec (ws := wsX12_told) B.pre
  have hown : s.vm.findClass RX12 = some m.cls := findClass_of_methodNamed B.named
  have hlocks := B.notSynchronized
  subst hsz
  have hD := hD0.self (sz := s.heap.size)
  generalize hAe : va_A [(h0, .inr (12, [.int m0, .int m1, .ref m2, .ref m3, .ref m4, .ref m5, .ref m6, .int m7, .ref m8, .int m9, .int m10, .int m11, .int m12, .long m13, .int m14, .int m15, .int m16, .int m17, .int m18, .int m19, .int m20, .ref m21, .int m22, .ref m23, .ref m24, .int m25, .ref m26, .ref m27, .int m28, .int m29, .ref m30, .ref m31, .int m32, .long m33, .long m34, .long m35, .int m36, .int m37, .int m38, .ref m39, .ref m40, .ref m41, .ref m42, .ref m43, .ref m44, .ref m45, .ref m46, .int m47, .int m48, .ref m49, .ref m50, .ref m51, .ref m52]))] s.heap.size = A at hD ⊢
  have hA : ∀ q : Nat, s.heap.size ≤ q → A q := fun q h => by rw [← hAe]; exact Or.inr h
  have hS : va_S A s.heap s.heap [] := va_S.rf
  have hl := lv_entry ([.ref h0, .int v]) (n := 2) (Nat.le_of_ble_eq_true rfl)
  rw [lg_entry_eq]
  generalize (lg_sl ([.ref h0, .int v]) ++ List.replicate (2 - (lg_sl ([.ref h0, .int v])).length) Slot.unset).toArray = ls at hl ⊢
  have hl : lv_has ls 2 [(0, .ref h0), (1, .int v)] := hl
  have hfX12 : ∀ w ∈ wsX120, w ∈ wsX12_told := fun w h => List.mem_cons_of_mem _ (List.mem_append_right _ h)
  refine lv_aload_n hx hb dX12_told_0 rfl (lv_at hl 0 rfl) ?_
  refine lv_iload_n hx hb dX12_told_1 rfl (lv_at hl 1 rfl) ?_
  refine lv_if_ge (tgt := 9) hx hb dX12_told_2 (by decide) (fun c1 => ?_) (fun c1 => ?_)
  · have ic1 : v.toInt ≥ 0 := zi_ge rfl rfl c1
    refine lv_iconst (v := 0) hx hb dX12_told_9 (by decide) ?_
    refine va_put (D := (dC, dI)) (ci := 12) (v := .int 0) (ty := .int) (C := RX12) (T := TX12) (N := 53) hx hb hts hfX12 tyX12 tyX12_ok nmX12 hown hK hP hD hS 0 rfl rfl 1 (by decide) (hts (.fieldLink RX12 94 "ColdShipsModel" "status" "I") (by decide +kernel)) (fun _ h9 => h9) rfl (by decide +kernel) rfl rfl (Nat.le_of_ble_eq_true rfl) dX12_told_10 (fun H locs hP hD hS => ?_)
    have hP : va_P (dC, dI) vwCl [(h0, .inr (12, [.int m0, .int 0, .ref m2, .ref m3, .ref m4, .ref m5, .ref m6, .int m7, .ref m8, .int m9, .int m10, .int m11, .int m12, .long m13, .int m14, .int m15, .int m16, .int m17, .int m18, .int m19, .int m20, .ref m21, .int m22, .ref m23, .ref m24, .int m25, .ref m26, .ref m27, .int m28, .int m29, .ref m30, .ref m31, .int m32, .long m33, .long m34, .long m35, .int m36, .int m37, .int m38, .ref m39, .ref m40, .ref m41, .ref m42, .ref m43, .ref m44, .ref m45, .ref m46, .int m47, .int m48, .ref m49, .ref m50, .ref m51, .ref m52]))] H := hP
    have hD : va_D A [(h0, .inr (12, [.int m0, .int 0, .ref m2, .ref m3, .ref m4, .ref m5, .ref m6, .int m7, .ref m8, .int m9, .int m10, .int m11, .int m12, .long m13, .int m14, .int m15, .int m16, .int m17, .int m18, .int m19, .int m20, .ref m21, .int m22, .ref m23, .ref m24, .int m25, .ref m26, .ref m27, .int m28, .int m29, .ref m30, .ref m31, .int m32, .long m33, .long m34, .long m35, .int m36, .int m37, .int m38, .ref m39, .ref m40, .ref m41, .ref m42, .ref m43, .ref m44, .ref m45, .ref m46, .int m47, .int m48, .ref m49, .ref m50, .ref m51, .ref m52]))] := hD
    refine lv_iload_n hx hb dX12_told_13 rfl (lv_at hl 1 rfl) ?_
    exact W.iret (v := v) hx hb hr (fun t ht hW => ⟨⟨v, (), rfl, rfl, trivial⟩, hS.F ht⟩) hS.2.2 dX12_told_14
  · have ic1 : v.toInt < 0 := zi_gef rfl rfl c1
    refine lv_iload_n hx hb dX12_told_5 rfl (lv_at hl 1 rfl) ?_
    refine lv_goto (tgt := 10) hx hb dX12_told_6 (by decide) ?_
    refine va_put (D := (dC, dI)) (ci := 12) (v := .int v) (ty := .int) (C := RX12) (T := TX12) (N := 53) hx hb hts hfX12 tyX12 tyX12_ok nmX12 hown hK hP hD hS 0 rfl rfl 1 (by decide) (hts (.fieldLink RX12 94 "ColdShipsModel" "status" "I") (by decide +kernel)) (fun _ h9 => h9) rfl (by decide +kernel) rfl rfl (Nat.le_of_ble_eq_true rfl) dX12_told_10 (fun H locs hP hD hS => ?_)
    have hP : va_P (dC, dI) vwCl [(h0, .inr (12, [.int m0, .int v, .ref m2, .ref m3, .ref m4, .ref m5, .ref m6, .int m7, .ref m8, .int m9, .int m10, .int m11, .int m12, .long m13, .int m14, .int m15, .int m16, .int m17, .int m18, .int m19, .int m20, .ref m21, .int m22, .ref m23, .ref m24, .int m25, .ref m26, .ref m27, .int m28, .int m29, .ref m30, .ref m31, .int m32, .long m33, .long m34, .long m35, .int m36, .int m37, .int m38, .ref m39, .ref m40, .ref m41, .ref m42, .ref m43, .ref m44, .ref m45, .ref m46, .int m47, .int m48, .ref m49, .ref m50, .ref m51, .ref m52]))] H := hP
    have hD : va_D A [(h0, .inr (12, [.int m0, .int v, .ref m2, .ref m3, .ref m4, .ref m5, .ref m6, .int m7, .ref m8, .int m9, .int m10, .int m11, .int m12, .long m13, .int m14, .int m15, .int m16, .int m17, .int m18, .int m19, .int m20, .ref m21, .int m22, .ref m23, .ref m24, .int m25, .ref m26, .ref m27, .int m28, .int m29, .ref m30, .ref m31, .int m32, .long m33, .long m34, .long m35, .int m36, .int m37, .int m38, .ref m39, .ref m40, .ref m41, .ref m42, .ref m43, .ref m44, .ref m45, .ref m46, .int m47, .int m48, .ref m49, .ref m50, .ref m51, .ref m52]))] := hD
    refine lv_iload_n hx hb dX12_told_13 rfl (lv_at hl 1 rfl) ?_
    exact W.iret (v := v) hx hb hr (fun t ht hW => ⟨⟨v, (), rfl, rfl, trivial⟩, hS.F ht⟩) hS.2.2 dX12_told_14
set_option maxHeartbeats 4000000 in
set_option maxRecDepth 100000 in
theorem c_X12_isHour (l : Launch) (dC : Nat → ClassId) (dI : Nat → Nat → Nat) (sz : Nat) (v : Int32) (Z_v : Int) (hZ_v : v.toInt = Z_v) : Met l yX12_isHour wsX12_isHour ({ frames := 3, cells := 0, slots := 0, locals := 800 }) (va_Pc [.int v] (pz_B dC dI [] [] sz)) (vp_Si (fun r => (r = 1 ∧ (0 ≤ Z_v ∧ Z_v ≤ 2399)) ∨ (r = 0 ∧ ¬ (0 ≤ Z_v ∧ Z_v ≤ 2399)))) 0 0 (fun _ => False) := by
  refine Met.ofW (cc := cX12_isHour) (maxL := 1) (ret := some .boolean) (by decide) rfl ?_
  intro p e s m args below meth c s₁ B hml hv
  obtain ⟨rfl, hsz, hP, hK, hD0, hN⟩ := hv
  have hx := B.exec
  have hb := B.bytes
  have hr := B.returns
  have hts := atoms_spec (ws := wsX12_isHour) B.pre
  have hown : s.vm.findClass RX12 = some m.cls := findClass_of_methodNamed B.named
  have hlocks := B.notSynchronized
  subst hsz
  have hD := hD0
  have hS : va_S (fun _ => True) s.heap s.heap [] := va_S.rf
  have hl := lv_entry ([.int v]) (n := 1) (Nat.le_of_ble_eq_true rfl)
  rw [lg_entry_eq]
  generalize (lg_sl ([.int v]) ++ List.replicate (1 - (lg_sl ([.int v])).length) Slot.unset).toArray = ls at hl ⊢
  have hl : lv_has ls 1 [(0, .int v)] := hl
  refine lv_iload_n hx hb dX12_isHour_0 rfl (lv_at hl 0 rfl) ?_
  refine lv_i2l hx hb dX12_isHour_1 rfl ?_
  refine lv_lconst (v := 0) hx hb dX12_isHour_2 (by decide) ?_
  refine lv_ldc2 (own := RX12) (v := 2399) hx hb hown (hts (.constantLong RX12 97 (2399)) (by decide +kernel)) dX12_isHour_3 ?_
  have hPc := hP.sub (ws' := []) [] rfl
  have hDc := hD.sub (ws' := []) [] (by decide +kernel) rfl
  have hKc := hK.sub (tys' := []) [] rfl
  refine pz_calli (va_runS (As := [.long v.toInt64, .long 0, .long 2399]) (rest := []) ⟨hx, hb, hml, hown, hts⟩ (c_X12_in l dC dI _ v.toInt64 0 2399 (Z_v) (0) (2399) ((Int32.toInt_toInt64 v).trans hZ_v) rfl rfl) (va_cwS 3 hts gX12_isHour_X12_in rfl rfl rfl (by decide +kernel) ⟨Nat.le_of_ble_eq_true rfl, Nat.le_of_ble_eq_true rfl⟩) ⟨pz_blind, pz_pre hPc hKc hDc hN⟩ rfl rfl hl.1 rfl (lv_room (Nat.le_of_ble_eq_true rfl)) dX12_isHour_6 ⟨Nat.le_of_ble_eq_true rfl, Nat.le_of_ble_eq_true rfl⟩) (fun r1 hw => ?_)
  rcases hw with ⟨rfl, h2⟩ | ⟨rfl, h2⟩
  · exact W.zret (v := 1) hx hb hr rfl (fun t ht hW => ⟨1, rfl, (by first | (left; exact ⟨rfl, by omega⟩) | (right; exact ⟨rfl, by omega⟩) | (exfalso; omega)), ht⟩) (fun _ h => by cases h) dX12_isHour_9
  · exact W.zret (v := 0) hx hb hr rfl (fun t ht hW => ⟨0, rfl, (by first | (left; exact ⟨rfl, by omega⟩) | (right; exact ⟨rfl, by omega⟩) | (exfalso; omega)), ht⟩) (fun _ h => by cases h) dX12_isHour_9
set_option maxHeartbeats 4000000 in
set_option maxRecDepth 100000 in
theorem c_X12_isDay (l : Launch) (dC : Nat → ClassId) (dI : Nat → Nat → Nat) (sz : Nat) (v : Int32) (Z_v : Int) (hZ_v : v.toInt = Z_v) : Met l yX12_isDay wsX12_isDay ({ frames := 3, cells := 0, slots := 0, locals := 800 }) (va_Pc [.int v] (pz_B dC dI [] [] sz)) (vp_Si (fun r => (r = 1 ∧ (0 ≤ Z_v ∧ Z_v ≤ 99)) ∨ (r = 0 ∧ ¬ (0 ≤ Z_v ∧ Z_v ≤ 99)))) 0 0 (fun _ => False) := by
  refine Met.ofW (cc := cX12_isDay) (maxL := 1) (ret := some .boolean) (by decide) rfl ?_
  intro p e s m args below meth c s₁ B hml hv
  obtain ⟨rfl, hsz, hP, hK, hD0, hN⟩ := hv
  have hx := B.exec
  have hb := B.bytes
  have hr := B.returns
  have hts := atoms_spec (ws := wsX12_isDay) B.pre
  have hown : s.vm.findClass RX12 = some m.cls := findClass_of_methodNamed B.named
  have hlocks := B.notSynchronized
  subst hsz
  have hD := hD0
  have hS : va_S (fun _ => True) s.heap s.heap [] := va_S.rf
  have hl := lv_entry ([.int v]) (n := 1) (Nat.le_of_ble_eq_true rfl)
  rw [lg_entry_eq]
  generalize (lg_sl ([.int v]) ++ List.replicate (1 - (lg_sl ([.int v])).length) Slot.unset).toArray = ls at hl ⊢
  have hl : lv_has ls 1 [(0, .int v)] := hl
  refine lv_iload_n hx hb dX12_isDay_0 rfl (lv_at hl 0 rfl) ?_
  refine lv_i2l hx hb dX12_isDay_1 rfl ?_
  refine lv_lconst (v := 0) hx hb dX12_isDay_2 (by decide) ?_
  refine lv_ldc2 (own := RX12) (v := 99) hx hb hown (hts (.constantLong RX12 103 (99)) (by decide +kernel)) dX12_isDay_3 ?_
  have hPc := hP.sub (ws' := []) [] rfl
  have hDc := hD.sub (ws' := []) [] (by decide +kernel) rfl
  have hKc := hK.sub (tys' := []) [] rfl
  refine pz_calli (va_runS (As := [.long v.toInt64, .long 0, .long 99]) (rest := []) ⟨hx, hb, hml, hown, hts⟩ (c_X12_in l dC dI _ v.toInt64 0 99 (Z_v) (0) (99) ((Int32.toInt_toInt64 v).trans hZ_v) rfl rfl) (va_cwS 3 hts gX12_isDay_X12_in rfl rfl rfl (by decide +kernel) ⟨Nat.le_of_ble_eq_true rfl, Nat.le_of_ble_eq_true rfl⟩) ⟨pz_blind, pz_pre hPc hKc hDc hN⟩ rfl rfl hl.1 rfl (lv_room (Nat.le_of_ble_eq_true rfl)) dX12_isDay_6 ⟨Nat.le_of_ble_eq_true rfl, Nat.le_of_ble_eq_true rfl⟩) (fun r1 hw => ?_)
  rcases hw with ⟨rfl, h2⟩ | ⟨rfl, h2⟩
  · exact W.zret (v := 1) hx hb hr rfl (fun t ht hW => ⟨1, rfl, (by first | (left; exact ⟨rfl, by omega⟩) | (right; exact ⟨rfl, by omega⟩) | (exfalso; omega)), ht⟩) (fun _ h => by cases h) dX12_isDay_9
  · exact W.zret (v := 0) hx hb hr rfl (fun t ht hW => ⟨0, rfl, (by first | (left; exact ⟨rfl, by omega⟩) | (right; exact ⟨rfl, by omega⟩) | (exfalso; omega)), ht⟩) (fun _ h => by cases h) dX12_isDay_9
set_option maxHeartbeats 4000000 in
set_option maxRecDepth 100000 in
theorem c_X12_isTerminal (l : Launch) (dC : Nat → ClassId) (dI : Nat → Nat → Nat) (sz : Nat) (h0 : Nat) (v : Int32) (m0 : Int32) (m1 : Int32) (m2 : Nat) (m3 : Nat) (m4 : Nat) (m5 : Nat) (m6 : Nat) (m7 : Int32) (m8 : Nat) (m9 : Int32) (m10 : Int32) (m11 : Int32) (m12 : Int32) (m13 : Int64) (m14 : Int32) (m15 : Int32) (m16 : Int32) (m17 : Int32) (m18 : Int32) (m19 : Int32) (m20 : Int32) (m21 : Nat) (m22 : Int32) (m23 : Nat) (m24 : Nat) (m25 : Int32) (m26 : Nat) (m27 : Nat) (m28 : Int32) (m29 : Int32) (m30 : Nat) (m31 : Nat) (m32 : Int32) (m33 : Int64) (m34 : Int64) (m35 : Int64) (m36 : Int32) (m37 : Int32) (m38 : Int32) (m39 : Nat) (m40 : Nat) (m41 : Nat) (m42 : Nat) (m43 : Nat) (m44 : Nat) (m45 : Nat) (m46 : Nat) (m47 : Int32) (m48 : Int32) (m49 : Nat) (m50 : Nat) (m51 : Nat) (m52 : Nat) (kR : ClassId)  : Met l yX12_isTerminal wsX12_isTerminal ({ frames := 3, cells := 0, slots := 0, locals := 800 }) (va_Pc [.ref h0, .int v] (pz_B dC dI [(kR, .int)] [(h0, .inr (12, [.int m0, .int m1, .ref m2, .ref m3, .ref m4, .ref m5, .ref m6, .int m7, .ref m8, .int m9, .int m10, .int m11, .int m12, .long m13, .int m14, .int m15, .int m16, .int m17, .int m18, .int m19, .int m20, .ref m21, .int m22, .ref m23, .ref m24, .int m25, .ref m26, .ref m27, .int m28, .int m29, .ref m30, .ref m31, .int m32, .long m33, .long m34, .long m35, .int m36, .int m37, .int m38, .ref m39, .ref m40, .ref m41, .ref m42, .ref m43, .ref m44, .ref m45, .ref m46, .int m47, .int m48, .ref m49, .ref m50, .ref m51, .ref m52])), (m2, .inl (kR, 12967, .inl rw0))] sz)) (vp_Si (fun r => r = 0)) 0 0 (fun _ => False) := by
  refine Met.ofW (cc := cX12_isTerminal) (maxL := 2) (ret := some .boolean) (by decide) rfl ?_
  intro p e s m args below meth c s₁ B hml hv
  obtain ⟨rfl, hsz, hP, hK, hD0, hN⟩ := hv
  have hx := B.exec
  have hb := B.bytes
  have hr := B.returns
  have hts := atoms_spec (ws := wsX12_isTerminal) B.pre
  have hown : s.vm.findClass RX12 = some m.cls := findClass_of_methodNamed B.named
  have hlocks := B.notSynchronized
  subst hsz
  have hD := hD0
  have hS : va_S (fun _ => True) s.heap s.heap [] := va_S.rf
  have hl := lv_entry ([.ref h0, .int v]) (n := 2) (Nat.le_of_ble_eq_true rfl)
  rw [lg_entry_eq]
  generalize (lg_sl ([.ref h0, .int v]) ++ List.replicate (2 - (lg_sl ([.ref h0, .int v])).length) Slot.unset).toArray = ls at hl ⊢
  have hl : lv_has ls 2 [(0, .ref h0), (1, .int v)] := hl
  have hfX12 : ∀ w ∈ wsX120, w ∈ wsX12_isTerminal := fun w h => List.mem_cons_of_mem _ (List.mem_append_right _ h)
  refine lv_iload_n hx hb dX12_isTerminal_0 rfl (lv_at hl 1 rfl) ?_
  refine lv_i2l hx hb dX12_isTerminal_1 rfl ?_
  refine lv_lconst (v := 0) hx hb dX12_isTerminal_2 (by decide) ?_
  refine lv_aload_n hx hb dX12_isTerminal_3 rfl (lv_at hl 0 rfl) ?_
  refine va_get (D := (dC, dI)) (ci := 12) (v := .ref m2) (C := RX12) (T := TX12) (N := 53) hx hb hts hfX12 hown hK hP 0 rfl rfl 2 (by decide) (hts (.fieldLink RX12 7 "ColdShipsModel" "row" "[I") (by decide +kernel)) (fun _ h9 => h9) rfl dX12_isTerminal_4 ?_
  refine lv_iconst (v := 0) hx hb dX12_isTerminal_7 (by decide) ?_
  refine va_iald hx hb hK hP 1 0 rfl rfl (vp_in_iff.mpr ⟨by decide, by decide⟩) dX12_isTerminal_8 ?_
  refine lv_topi (fun z1 ez1 => ?_)
  obtain rfl : z1 = 0 := ez1.trans (by first | rfl | decide)
  refine lv_i2l (v := 0) hx hb dX12_isTerminal_9 (by decide) ?_
  refine lv_lconst (v := 1) hx hb dX12_isTerminal_10 (by decide) ?_
  refine lv_lsub hx hb dX12_isTerminal_11 ?_
  refine lv_topl (fun z2 ez2 => ?_)
  obtain rfl : z2 = (-1) := ez2.trans (by first | rfl | decide)
  have hPc := hP.sub (ws' := []) [] rfl
  have hDc := hD.sub (ws' := []) [] (by decide +kernel) rfl
  have hKc := hK.sub (tys' := []) [] rfl
  refine pz_calli (va_runS (As := [.long v.toInt64, .long 0, .long (-1)]) (rest := []) ⟨hx, hb, hml, hown, hts⟩ (c_X12_in l dC dI _ v.toInt64 0 (-1) (v.toInt) (0) ((-1)) (Int32.toInt_toInt64 v) rfl rfl) (va_cwS 3 hts gX12_isTerminal_X12_in rfl rfl rfl (by decide +kernel) ⟨Nat.le_of_ble_eq_true rfl, Nat.le_of_ble_eq_true rfl⟩) ⟨pz_blind, pz_pre hPc hKc hDc hN⟩ rfl rfl hl.1 rfl (lv_room (Nat.le_of_ble_eq_true rfl)) dX12_isTerminal_12 ⟨Nat.le_of_ble_eq_true rfl, Nat.le_of_ble_eq_true rfl⟩) (fun r3 hw => ?_)
  rcases hw with ⟨rfl, h4⟩ | ⟨rfl, h4⟩
  · exfalso; omega
  · exact W.zret (v := 0) hx hb hr rfl (fun t ht hW => ⟨0, rfl, rfl, ht⟩) (fun _ h => by cases h) dX12_isTerminal_15
set_option maxHeartbeats 4000000 in
set_option maxRecDepth 100000 in
theorem c_X12_isShip (l : Launch) (dC : Nat → ClassId) (dI : Nat → Nat → Nat) (sz : Nat) (h0 : Nat) (v : Int32) (m0 : Int32) (m1 : Int32) (m2 : Nat) (m3 : Nat) (m4 : Nat) (m5 : Nat) (m6 : Nat) (m7 : Int32) (m8 : Nat) (m9 : Int32) (m10 : Int32) (m11 : Int32) (m12 : Int32) (m13 : Int64) (m14 : Int32) (m15 : Int32) (m16 : Int32) (m17 : Int32) (m18 : Int32) (m19 : Int32) (m20 : Int32) (m21 : Nat) (m22 : Int32) (m23 : Nat) (m24 : Nat) (m25 : Int32) (m26 : Nat) (m27 : Nat) (m28 : Int32) (m29 : Int32) (m30 : Nat) (m31 : Nat) (m32 : Int32) (m33 : Int64) (m34 : Int64) (m35 : Int64) (m36 : Int32) (m37 : Int32) (m38 : Int32) (m39 : Nat) (m40 : Nat) (m41 : Nat) (m42 : Nat) (m43 : Nat) (m44 : Nat) (m45 : Nat) (m46 : Nat) (m47 : Int32) (m48 : Int32) (m49 : Nat) (m50 : Nat) (m51 : Nat) (m52 : Nat) (kR : ClassId)  : Met l yX12_isShip wsX12_isShip ({ frames := 3, cells := 0, slots := 0, locals := 800 }) (va_Pc [.ref h0, .int v] (pz_B dC dI [(kR, .int)] [(h0, .inr (12, [.int m0, .int m1, .ref m2, .ref m3, .ref m4, .ref m5, .ref m6, .int m7, .ref m8, .int m9, .int m10, .int m11, .int m12, .long m13, .int m14, .int m15, .int m16, .int m17, .int m18, .int m19, .int m20, .ref m21, .int m22, .ref m23, .ref m24, .int m25, .ref m26, .ref m27, .int m28, .int m29, .ref m30, .ref m31, .int m32, .long m33, .long m34, .long m35, .int m36, .int m37, .int m38, .ref m39, .ref m40, .ref m41, .ref m42, .ref m43, .ref m44, .ref m45, .ref m46, .int m47, .int m48, .ref m49, .ref m50, .ref m51, .ref m52])), (m2, .inl (kR, 12967, .inl rw0))] sz)) (vp_Si (fun r => r = 0)) 0 0 (fun _ => False) := by
  refine Met.ofW (cc := cX12_isShip) (maxL := 2) (ret := some .boolean) (by decide) rfl ?_
  intro p e s m args below meth c s₁ B hml hv
  obtain ⟨rfl, hsz, hP, hK, hD0, hN⟩ := hv
  have hx := B.exec
  have hb := B.bytes
  have hr := B.returns
  have hts := atoms_spec (ws := wsX12_isShip) B.pre
  have hown : s.vm.findClass RX12 = some m.cls := findClass_of_methodNamed B.named
  have hlocks := B.notSynchronized
  subst hsz
  have hD := hD0
  have hS : va_S (fun _ => True) s.heap s.heap [] := va_S.rf
  have hl := lv_entry ([.ref h0, .int v]) (n := 2) (Nat.le_of_ble_eq_true rfl)
  rw [lg_entry_eq]
  generalize (lg_sl ([.ref h0, .int v]) ++ List.replicate (2 - (lg_sl ([.ref h0, .int v])).length) Slot.unset).toArray = ls at hl ⊢
  have hl : lv_has ls 2 [(0, .ref h0), (1, .int v)] := hl
  have hfX12 : ∀ w ∈ wsX120, w ∈ wsX12_isShip := fun w h => List.mem_cons_of_mem _ (List.mem_append_right _ h)
  refine lv_iload_n hx hb dX12_isShip_0 rfl (lv_at hl 1 rfl) ?_
  refine lv_i2l hx hb dX12_isShip_1 rfl ?_
  refine lv_lconst (v := 0) hx hb dX12_isShip_2 (by decide) ?_
  refine lv_aload_n hx hb dX12_isShip_3 rfl (lv_at hl 0 rfl) ?_
  refine va_get (D := (dC, dI)) (ci := 12) (v := .ref m2) (C := RX12) (T := TX12) (N := 53) hx hb hts hfX12 hown hK hP 0 rfl rfl 2 (by decide) (hts (.fieldLink RX12 7 "ColdShipsModel" "row" "[I") (by decide +kernel)) (fun _ h9 => h9) rfl dX12_isShip_4 ?_
  refine lv_iconst (v := 1) hx hb dX12_isShip_7 (by decide) ?_
  refine va_iald hx hb hK hP 1 0 rfl rfl (vp_in_iff.mpr ⟨by decide, by decide⟩) dX12_isShip_8 ?_
  refine lv_topi (fun z1 ez1 => ?_)
  obtain rfl : z1 = 0 := ez1.trans (by first | rfl | decide)
  refine lv_i2l (v := 0) hx hb dX12_isShip_9 (by decide) ?_
  refine lv_lconst (v := 1) hx hb dX12_isShip_10 (by decide) ?_
  refine lv_lsub hx hb dX12_isShip_11 ?_
  refine lv_topl (fun z2 ez2 => ?_)
  obtain rfl : z2 = (-1) := ez2.trans (by first | rfl | decide)
  have hPc := hP.sub (ws' := []) [] rfl
  have hDc := hD.sub (ws' := []) [] (by decide +kernel) rfl
  have hKc := hK.sub (tys' := []) [] rfl
  refine pz_calli (va_runS (As := [.long v.toInt64, .long 0, .long (-1)]) (rest := []) ⟨hx, hb, hml, hown, hts⟩ (c_X12_in l dC dI _ v.toInt64 0 (-1) (v.toInt) (0) ((-1)) (Int32.toInt_toInt64 v) rfl rfl) (va_cwS 3 hts gX12_isShip_X12_in rfl rfl rfl (by decide +kernel) ⟨Nat.le_of_ble_eq_true rfl, Nat.le_of_ble_eq_true rfl⟩) ⟨pz_blind, pz_pre hPc hKc hDc hN⟩ rfl rfl hl.1 rfl (lv_room (Nat.le_of_ble_eq_true rfl)) dX12_isShip_12 ⟨Nat.le_of_ble_eq_true rfl, Nat.le_of_ble_eq_true rfl⟩) (fun r3 hw => ?_)
  rcases hw with ⟨rfl, h4⟩ | ⟨rfl, h4⟩
  · exfalso; omega
  · exact W.zret (v := 0) hx hb hr rfl (fun t ht hW => ⟨0, rfl, rfl, ht⟩) (fun _ h => by cases h) dX12_isShip_15
set_option maxHeartbeats 4000000 in
set_option maxRecDepth 100000 in
theorem c_X12_isLanding (l : Launch) (dC : Nat → ClassId) (dI : Nat → Nat → Nat) (sz : Nat) (h0 : Nat) (v : Int32) (m0 : Int32) (m1 : Int32) (m2 : Nat) (m3 : Nat) (m4 : Nat) (m5 : Nat) (m6 : Nat) (m7 : Int32) (m8 : Nat) (m9 : Int32) (m10 : Int32) (m11 : Int32) (m12 : Int32) (m13 : Int64) (m14 : Int32) (m15 : Int32) (m16 : Int32) (m17 : Int32) (m18 : Int32) (m19 : Int32) (m20 : Int32) (m21 : Nat) (m22 : Int32) (m23 : Nat) (m24 : Nat) (m25 : Int32) (m26 : Nat) (m27 : Nat) (m28 : Int32) (m29 : Int32) (m30 : Nat) (m31 : Nat) (m32 : Int32) (m33 : Int64) (m34 : Int64) (m35 : Int64) (m36 : Int32) (m37 : Int32) (m38 : Int32) (m39 : Nat) (m40 : Nat) (m41 : Nat) (m42 : Nat) (m43 : Nat) (m44 : Nat) (m45 : Nat) (m46 : Nat) (m47 : Int32) (m48 : Int32) (m49 : Nat) (m50 : Nat) (m51 : Nat) (m52 : Nat) (kR : ClassId)  : Met l yX12_isLanding wsX12_isLanding ({ frames := 3, cells := 0, slots := 0, locals := 800 }) (va_Pc [.ref h0, .int v] (pz_B dC dI [(kR, .int)] [(h0, .inr (12, [.int m0, .int m1, .ref m2, .ref m3, .ref m4, .ref m5, .ref m6, .int m7, .ref m8, .int m9, .int m10, .int m11, .int m12, .long m13, .int m14, .int m15, .int m16, .int m17, .int m18, .int m19, .int m20, .ref m21, .int m22, .ref m23, .ref m24, .int m25, .ref m26, .ref m27, .int m28, .int m29, .ref m30, .ref m31, .int m32, .long m33, .long m34, .long m35, .int m36, .int m37, .int m38, .ref m39, .ref m40, .ref m41, .ref m42, .ref m43, .ref m44, .ref m45, .ref m46, .int m47, .int m48, .ref m49, .ref m50, .ref m51, .ref m52])), (m2, .inl (kR, 12967, .inl rw0))] sz)) (vp_Si (fun r => r = 0)) 0 0 (fun _ => False) := by
  refine Met.ofW (cc := cX12_isLanding) (maxL := 2) (ret := some .boolean) (by decide) rfl ?_
  intro p e s m args below meth c s₁ B hml hv
  obtain ⟨rfl, hsz, hP, hK, hD0, hN⟩ := hv
  have hx := B.exec
  have hb := B.bytes
  have hr := B.returns
  have hts := atoms_spec (ws := wsX12_isLanding) B.pre
  have hown : s.vm.findClass RX12 = some m.cls := findClass_of_methodNamed B.named
  have hlocks := B.notSynchronized
  subst hsz
  have hD := hD0
  have hS : va_S (fun _ => True) s.heap s.heap [] := va_S.rf
  have hl := lv_entry ([.ref h0, .int v]) (n := 2) (Nat.le_of_ble_eq_true rfl)
  rw [lg_entry_eq]
  generalize (lg_sl ([.ref h0, .int v]) ++ List.replicate (2 - (lg_sl ([.ref h0, .int v])).length) Slot.unset).toArray = ls at hl ⊢
  have hl : lv_has ls 2 [(0, .ref h0), (1, .int v)] := hl
  have hfX12 : ∀ w ∈ wsX120, w ∈ wsX12_isLanding := fun w h => List.mem_cons_of_mem _ (List.mem_append_right _ h)
  refine lv_iload_n hx hb dX12_isLanding_0 rfl (lv_at hl 1 rfl) ?_
  refine lv_i2l hx hb dX12_isLanding_1 rfl ?_
  refine lv_lconst (v := 0) hx hb dX12_isLanding_2 (by decide) ?_
  refine lv_aload_n hx hb dX12_isLanding_3 rfl (lv_at hl 0 rfl) ?_
  refine va_get (D := (dC, dI)) (ci := 12) (v := .ref m2) (C := RX12) (T := TX12) (N := 53) hx hb hts hfX12 hown hK hP 0 rfl rfl 2 (by decide) (hts (.fieldLink RX12 7 "ColdShipsModel" "row" "[I") (by decide +kernel)) (fun _ h9 => h9) rfl dX12_isLanding_4 ?_
  refine lv_iconst (v := 5) hx hb dX12_isLanding_7 (by decide) ?_
  refine va_iald hx hb hK hP 1 0 rfl rfl (vp_in_iff.mpr ⟨by decide, by decide⟩) dX12_isLanding_8 ?_
  refine lv_topi (fun z1 ez1 => ?_)
  obtain rfl : z1 = 0 := ez1.trans (by first | rfl | decide)
  refine lv_i2l (v := 0) hx hb dX12_isLanding_9 (by decide) ?_
  refine lv_lconst (v := 1) hx hb dX12_isLanding_10 (by decide) ?_
  refine lv_lsub hx hb dX12_isLanding_11 ?_
  refine lv_topl (fun z2 ez2 => ?_)
  obtain rfl : z2 = (-1) := ez2.trans (by first | rfl | decide)
  have hPc := hP.sub (ws' := []) [] rfl
  have hDc := hD.sub (ws' := []) [] (by decide +kernel) rfl
  have hKc := hK.sub (tys' := []) [] rfl
  refine pz_calli (va_runS (As := [.long v.toInt64, .long 0, .long (-1)]) (rest := []) ⟨hx, hb, hml, hown, hts⟩ (c_X12_in l dC dI _ v.toInt64 0 (-1) (v.toInt) (0) ((-1)) (Int32.toInt_toInt64 v) rfl rfl) (va_cwS 3 hts gX12_isLanding_X12_in rfl rfl rfl (by decide +kernel) ⟨Nat.le_of_ble_eq_true rfl, Nat.le_of_ble_eq_true rfl⟩) ⟨pz_blind, pz_pre hPc hKc hDc hN⟩ rfl rfl hl.1 rfl (lv_room (Nat.le_of_ble_eq_true rfl)) dX12_isLanding_12 ⟨Nat.le_of_ble_eq_true rfl, Nat.le_of_ble_eq_true rfl⟩) (fun r3 hw => ?_)
  rcases hw with ⟨rfl, h4⟩ | ⟨rfl, h4⟩
  · exfalso; omega
  · exact W.zret (v := 0) hx hb hr rfl (fun t ht hW => ⟨0, rfl, rfl, ht⟩) (fun _ h => by cases h) dX12_isLanding_15
set_option maxHeartbeats 4000000 in
set_option maxRecDepth 100000 in
theorem c_X12_isContract (l : Launch) (dC : Nat → ClassId) (dI : Nat → Nat → Nat) (sz : Nat) (h0 : Nat) (v : Int32) (m0 : Int32) (m1 : Int32) (m2 : Nat) (m3 : Nat) (m4 : Nat) (m5 : Nat) (m6 : Nat) (m7 : Int32) (m8 : Nat) (m9 : Int32) (m10 : Int32) (m11 : Int32) (m12 : Int32) (m13 : Int64) (m14 : Int32) (m15 : Int32) (m16 : Int32) (m17 : Int32) (m18 : Int32) (m19 : Int32) (m20 : Int32) (m21 : Nat) (m22 : Int32) (m23 : Nat) (m24 : Nat) (m25 : Int32) (m26 : Nat) (m27 : Nat) (m28 : Int32) (m29 : Int32) (m30 : Nat) (m31 : Nat) (m32 : Int32) (m33 : Int64) (m34 : Int64) (m35 : Int64) (m36 : Int32) (m37 : Int32) (m38 : Int32) (m39 : Nat) (m40 : Nat) (m41 : Nat) (m42 : Nat) (m43 : Nat) (m44 : Nat) (m45 : Nat) (m46 : Nat) (m47 : Int32) (m48 : Int32) (m49 : Nat) (m50 : Nat) (m51 : Nat) (m52 : Nat) (kR : ClassId)  : Met l yX12_isContract wsX12_isContract ({ frames := 3, cells := 0, slots := 0, locals := 800 }) (va_Pc [.ref h0, .int v] (pz_B dC dI [(kR, .int)] [(h0, .inr (12, [.int m0, .int m1, .ref m2, .ref m3, .ref m4, .ref m5, .ref m6, .int m7, .ref m8, .int m9, .int m10, .int m11, .int m12, .long m13, .int m14, .int m15, .int m16, .int m17, .int m18, .int m19, .int m20, .ref m21, .int m22, .ref m23, .ref m24, .int m25, .ref m26, .ref m27, .int m28, .int m29, .ref m30, .ref m31, .int m32, .long m33, .long m34, .long m35, .int m36, .int m37, .int m38, .ref m39, .ref m40, .ref m41, .ref m42, .ref m43, .ref m44, .ref m45, .ref m46, .int m47, .int m48, .ref m49, .ref m50, .ref m51, .ref m52])), (m2, .inl (kR, 12967, .inl rw0))] sz)) (vp_Si (fun r => r = 0)) 0 0 (fun _ => False) := by
  refine Met.ofW (cc := cX12_isContract) (maxL := 2) (ret := some .boolean) (by decide) rfl ?_
  intro p e s m args below meth c s₁ B hml hv
  obtain ⟨rfl, hsz, hP, hK, hD0, hN⟩ := hv
  have hx := B.exec
  have hb := B.bytes
  have hr := B.returns
  have hts := atoms_spec (ws := wsX12_isContract) B.pre
  have hown : s.vm.findClass RX12 = some m.cls := findClass_of_methodNamed B.named
  have hlocks := B.notSynchronized
  subst hsz
  have hD := hD0
  have hS : va_S (fun _ => True) s.heap s.heap [] := va_S.rf
  have hl := lv_entry ([.ref h0, .int v]) (n := 2) (Nat.le_of_ble_eq_true rfl)
  rw [lg_entry_eq]
  generalize (lg_sl ([.ref h0, .int v]) ++ List.replicate (2 - (lg_sl ([.ref h0, .int v])).length) Slot.unset).toArray = ls at hl ⊢
  have hl : lv_has ls 2 [(0, .ref h0), (1, .int v)] := hl
  have hfX12 : ∀ w ∈ wsX120, w ∈ wsX12_isContract := fun w h => List.mem_cons_of_mem _ (List.mem_append_right _ h)
  refine lv_iload_n hx hb dX12_isContract_0 rfl (lv_at hl 1 rfl) ?_
  refine lv_i2l hx hb dX12_isContract_1 rfl ?_
  refine lv_lconst (v := 0) hx hb dX12_isContract_2 (by decide) ?_
  refine lv_aload_n hx hb dX12_isContract_3 rfl (lv_at hl 0 rfl) ?_
  refine va_get (D := (dC, dI)) (ci := 12) (v := .ref m2) (C := RX12) (T := TX12) (N := 53) hx hb hts hfX12 hown hK hP 0 rfl rfl 2 (by decide) (hts (.fieldLink RX12 7 "ColdShipsModel" "row" "[I") (by decide +kernel)) (fun _ h9 => h9) rfl dX12_isContract_4 ?_
  refine lv_bipush (v := 8) hx hb dX12_isContract_7 (by decide) ?_
  refine va_iald hx hb hK hP 1 0 rfl rfl (vp_in_iff.mpr ⟨by decide, by decide⟩) dX12_isContract_9 ?_
  refine lv_topi (fun z1 ez1 => ?_)
  obtain rfl : z1 = 0 := ez1.trans (by first | rfl | decide)
  refine lv_i2l (v := 0) hx hb dX12_isContract_10 (by decide) ?_
  refine lv_lconst (v := 1) hx hb dX12_isContract_11 (by decide) ?_
  refine lv_lsub hx hb dX12_isContract_12 ?_
  refine lv_topl (fun z2 ez2 => ?_)
  obtain rfl : z2 = (-1) := ez2.trans (by first | rfl | decide)
  have hPc := hP.sub (ws' := []) [] rfl
  have hDc := hD.sub (ws' := []) [] (by decide +kernel) rfl
  have hKc := hK.sub (tys' := []) [] rfl
  refine pz_calli (va_runS (As := [.long v.toInt64, .long 0, .long (-1)]) (rest := []) ⟨hx, hb, hml, hown, hts⟩ (c_X12_in l dC dI _ v.toInt64 0 (-1) (v.toInt) (0) ((-1)) (Int32.toInt_toInt64 v) rfl rfl) (va_cwS 3 hts gX12_isContract_X12_in rfl rfl rfl (by decide +kernel) ⟨Nat.le_of_ble_eq_true rfl, Nat.le_of_ble_eq_true rfl⟩) ⟨pz_blind, pz_pre hPc hKc hDc hN⟩ rfl rfl hl.1 rfl (lv_room (Nat.le_of_ble_eq_true rfl)) dX12_isContract_13 ⟨Nat.le_of_ble_eq_true rfl, Nat.le_of_ble_eq_true rfl⟩) (fun r3 hw => ?_)
  rcases hw with ⟨rfl, h4⟩ | ⟨rfl, h4⟩
  · exfalso; omega
  · exact W.zret (v := 0) hx hb hr rfl (fun t ht hW => ⟨0, rfl, rfl, ht⟩) (fun _ h => by cases h) dX12_isContract_16
set_option maxHeartbeats 4000000 in
set_option maxRecDepth 100000 in
theorem c_X12_terminalAt (l : Launch) (dC : Nat → ClassId) (dI : Nat → Nat → Nat) (sz : Nat)  : Met l yX12_terminalAt wsX12_terminalAt ({ frames := 2, cells := 0, slots := 0, locals := 400 }) (va_Pc [.int 0] (pz_B dC dI [] [] sz)) (vp_Si (fun r => r = 20)) 0 0 (fun _ => False) := by
  refine Met.ofW (cc := cX12_terminalAt) (maxL := 1) (ret := some .int) (by decide) rfl ?_
  intro p e s m args below meth c s₁ B hml hv
  obtain ⟨rfl, hsz, hP, hK, hD0, hN⟩ := hv
  have hx := B.exec
  have hb := B.bytes
  have hr := B.returns
  have hts := atoms_spec (ws := wsX12_terminalAt) B.pre
  have hown : s.vm.findClass RX12 = some m.cls := findClass_of_methodNamed B.named
  have hlocks := B.notSynchronized
  subst hsz
  have hD := hD0
  have hS : va_S (fun _ => True) s.heap s.heap [] := va_S.rf
  have hl := lv_entry ([.int 0]) (n := 1) (Nat.le_of_ble_eq_true rfl)
  rw [lg_entry_eq]
  generalize (lg_sl ([.int 0]) ++ List.replicate (1 - (lg_sl ([.int 0])).length) Slot.unset).toArray = ls at hl ⊢
  have hl : lv_has ls 1 [(0, .int 0)] := hl
  refine lv_bipush (v := 20) hx hb dX12_terminalAt_0 (by decide) ?_
  refine lv_iconst (v := 5) hx hb dX12_terminalAt_2 (by decide) ?_
  refine lv_iload_n hx hb dX12_terminalAt_3 rfl (lv_at hl 0 rfl) ?_
  refine lv_imul hx hb dX12_terminalAt_4 ?_
  refine lv_topi (fun z1 ez1 => ?_)
  obtain rfl : z1 = 0 := ez1.trans (by first | rfl | decide)
  refine lv_iadd hx hb dX12_terminalAt_5 ?_
  refine lv_topi (fun z2 ez2 => ?_)
  obtain rfl : z2 = 20 := ez2.trans (by first | rfl | decide)
  exact W.iret (v := 20) hx hb hr (fun t ht hW => ⟨20, rfl, rfl, ht⟩) (fun _ h => by cases h) dX12_terminalAt_6
set_option maxHeartbeats 4000000 in
set_option maxRecDepth 100000 in
theorem c_X12_addFour (l : Launch) (dC : Nat → ClassId) (dI : Nat → Nat → Nat) (sz : Nat) (h0 : Nat) (xa : Int32) (xb : Int32) (xc : Int32) (xd : Int32) (m0 : Int32) (m1 : Int32) (m2 : Nat) (m3 : Nat) (m4 : Nat) (m5 : Nat) (m6 : Nat) (m7 : Int32) (m8 : Nat) (m9 : Int32) (m10 : Int32) (m11 : Int32) (m12 : Int32) (m13 : Int64) (m14 : Int32) (m15 : Int32) (m16 : Int32) (m17 : Int32) (m18 : Int32) (m19 : Int32) (m20 : Int32) (m21 : Nat) (m22 : Int32) (m23 : Nat) (m24 : Nat) (m25 : Int32) (m26 : Nat) (m27 : Nat) (m28 : Int32) (m29 : Int32) (m30 : Nat) (m31 : Nat) (m32 : Int32) (m33 : Int64) (m34 : Int64) (m35 : Int64) (m36 : Int32) (m37 : Int32) (m38 : Int32) (m39 : Nat) (m40 : Nat) (m41 : Nat) (m42 : Nat) (m43 : Nat) (m44 : Nat) (m45 : Nat) (m46 : Nat) (m47 : Int32) (m48 : Int32) (m49 : Nat) (m50 : Nat) (m51 : Nat) (m52 : Nat) (kR : ClassId) (fR : Nat → Int32)  : Met l yX12_addFour wsX12_addFour ({ frames := 2, cells := 0, slots := 0, locals := 400 }) (va_Pc [.ref h0, .int 20, .int xa, .int xb, .int xc, .int xd] (pz_B dC dI [(kR, .int)] [(h0, .inr (12, [.int m0, .int m1, .ref m2, .ref m3, .ref m4, .ref m5, .ref m6, .int m7, .ref m8, .int m9, .int m10, .int m11, .int m12, .long m13, .int m14, .int m15, .int m16, .int m17, .int m18, .int m19, .int m20, .ref m21, .int m22, .ref m23, .ref m24, .int m25, .ref m26, .ref m27, .int m28, .int m29, .ref m30, .ref m31, .int m32, .long m33, .long m34, .long m35, .int m36, .int m37, .int m38, .ref m39, .ref m40, .ref m41, .ref m42, .ref m43, .ref m44, .ref m45, .ref m46, .int m47, .int m48, .ref m49, .ref m50, .ref m51, .ref m52])), (m2, .inl (kR, 12967, .inl fR))] sz)) (va_Qv (fun (_ : Unit) => True) (fun (_ : Unit) (t : State) => pz_E dC dI [(kR, .int)] (va_A [(h0, .inr (12, [.int m0, .int m1, .ref m2, .ref m3, .ref m4, .ref m5, .ref m6, .int m7, .ref m8, .int m9, .int m10, .int m11, .int m12, .long m13, .int m14, .int m15, .int m16, .int m17, .int m18, .int m19, .int m20, .ref m21, .int m22, .ref m23, .ref m24, .int m25, .ref m26, .ref m27, .int m28, .int m29, .ref m30, .ref m31, .int m32, .long m33, .long m34, .long m35, .int m36, .int m37, .int m38, .ref m39, .ref m40, .ref m41, .ref m42, .ref m43, .ref m44, .ref m45, .ref m46, .int m47, .int m48, .ref m49, .ref m50, .ref m51, .ref m52])), (m2, .inl (kR, 12967, .inl fR))] sz) [(h0, .inr (12, [.int m0, .int m1, .ref m2, .ref m3, .ref m4, .ref m5, .ref m6, .int m7, .ref m8, .int m9, .int m10, .int m11, .int m12, .long m13, .int m14, .int m15, .int m16, .int m17, .int m18, .int m19, .int m20, .ref m21, .int m22, .ref m23, .ref m24, .int m25, .ref m26, .ref m27, .int m28, .int m29, .ref m30, .ref m31, .int m32, .long m33, .long m34, .long m35, .int m36, .int m37, .int m38, .ref m39, .ref m40, .ref m41, .ref m42, .ref m43, .ref m44, .ref m45, .ref m46, .int m47, .int m48, .ref m49, .ref m50, .ref m51, .ref m52])), (m2, .inl (kR, 12967, .inl (upd (upd (upd (upd fR 20 xa) 21 xb) 22 xc) 23 xd)))] t) (va_A [(h0, .inr (12, [.int m0, .int m1, .ref m2, .ref m3, .ref m4, .ref m5, .ref m6, .int m7, .ref m8, .int m9, .int m10, .int m11, .int m12, .long m13, .int m14, .int m15, .int m16, .int m17, .int m18, .int m19, .int m20, .ref m21, .int m22, .ref m23, .ref m24, .int m25, .ref m26, .ref m27, .int m28, .int m29, .ref m30, .ref m31, .int m32, .long m33, .long m34, .long m35, .int m36, .int m37, .int m38, .ref m39, .ref m40, .ref m41, .ref m42, .ref m43, .ref m44, .ref m45, .ref m46, .int m47, .int m48, .ref m49, .ref m50, .ref m51, .ref m52])), (m2, .inl (kR, 12967, .inl fR))] sz)) 0 0 (va_A [(h0, .inr (12, [.int m0, .int m1, .ref m2, .ref m3, .ref m4, .ref m5, .ref m6, .int m7, .ref m8, .int m9, .int m10, .int m11, .int m12, .long m13, .int m14, .int m15, .int m16, .int m17, .int m18, .int m19, .int m20, .ref m21, .int m22, .ref m23, .ref m24, .int m25, .ref m26, .ref m27, .int m28, .int m29, .ref m30, .ref m31, .int m32, .long m33, .long m34, .long m35, .int m36, .int m37, .int m38, .ref m39, .ref m40, .ref m41, .ref m42, .ref m43, .ref m44, .ref m45, .ref m46, .int m47, .int m48, .ref m49, .ref m50, .ref m51, .ref m52])), (m2, .inl (kR, 12967, .inl fR))] sz) := by
  refine Met.ofW (cc := cX12_addFour) (maxL := 6) (ret := none) (by decide) rfl ?_
  intro p e s m args below meth c s₁ B hml hv
  obtain ⟨rfl, hsz, hP, hK, hD0, hN⟩ := hv
  have hx := B.exec
  have hb := B.bytes
  have hr := B.returns
  have hts := atoms_spec (ws := wsX12_addFour) B.pre
  have hown : s.vm.findClass RX12 = some m.cls := findClass_of_methodNamed B.named
  have hlocks := B.notSynchronized
  subst hsz
  have hD := hD0.self (sz := s.heap.size)
  generalize hAe : va_A [(h0, .inr (12, [.int m0, .int m1, .ref m2, .ref m3, .ref m4, .ref m5, .ref m6, .int m7, .ref m8, .int m9, .int m10, .int m11, .int m12, .long m13, .int m14, .int m15, .int m16, .int m17, .int m18, .int m19, .int m20, .ref m21, .int m22, .ref m23, .ref m24, .int m25, .ref m26, .ref m27, .int m28, .int m29, .ref m30, .ref m31, .int m32, .long m33, .long m34, .long m35, .int m36, .int m37, .int m38, .ref m39, .ref m40, .ref m41, .ref m42, .ref m43, .ref m44, .ref m45, .ref m46, .int m47, .int m48, .ref m49, .ref m50, .ref m51, .ref m52])), (m2, .inl (kR, 12967, .inl fR))] s.heap.size = A at hD ⊢
  have hA : ∀ q : Nat, s.heap.size ≤ q → A q := fun q h => by rw [← hAe]; exact Or.inr h
  have hS : va_S A s.heap s.heap [] := va_S.rf
  have hl := lv_entry ([.ref h0, .int 20, .int xa, .int xb, .int xc, .int xd]) (n := 6) (Nat.le_of_ble_eq_true rfl)
  rw [lg_entry_eq]
  generalize (lg_sl ([.ref h0, .int 20, .int xa, .int xb, .int xc, .int xd]) ++ List.replicate (6 - (lg_sl ([.ref h0, .int 20, .int xa, .int xb, .int xc, .int xd])).length) Slot.unset).toArray = ls at hl ⊢
  have hl : lv_has ls 6 [(0, .ref h0), (1, .int 20), (2, .int xa), (3, .int xb), (4, .int xc), (5, .int xd)] := hl
  have hfX12 : ∀ w ∈ wsX120, w ∈ wsX12_addFour := fun w h => List.mem_cons_of_mem _ (List.mem_append_right _ h)
  refine lv_aload_n hx hb dX12_addFour_0 rfl (lv_at hl 0 rfl) ?_
  refine va_get (D := (dC, dI)) (ci := 12) (v := .ref m2) (C := RX12) (T := TX12) (N := 53) hx hb hts hfX12 hown hK hP 0 rfl rfl 2 (by decide) (hts (.fieldLink RX12 7 "ColdShipsModel" "row" "[I") (by decide +kernel)) (fun _ h9 => h9) rfl dX12_addFour_1 ?_
  refine lv_iload_n hx hb dX12_addFour_4 rfl (lv_at hl 1 rfl) ?_
  refine lv_iload_n hx hb dX12_addFour_5 rfl (lv_at hl 2 rfl) ?_
  refine va_iast hx hb hK hP hD hS 1 0 rfl rfl (vp_in_iff.mpr ⟨by decide, by decide⟩) dX12_addFour_6 (fun H locs hP hD hS => ?_)
  have hP : va_P (dC, dI) vwCl [(h0, .inr (12, [.int m0, .int m1, .ref m2, .ref m3, .ref m4, .ref m5, .ref m6, .int m7, .ref m8, .int m9, .int m10, .int m11, .int m12, .long m13, .int m14, .int m15, .int m16, .int m17, .int m18, .int m19, .int m20, .ref m21, .int m22, .ref m23, .ref m24, .int m25, .ref m26, .ref m27, .int m28, .int m29, .ref m30, .ref m31, .int m32, .long m33, .long m34, .long m35, .int m36, .int m37, .int m38, .ref m39, .ref m40, .ref m41, .ref m42, .ref m43, .ref m44, .ref m45, .ref m46, .int m47, .int m48, .ref m49, .ref m50, .ref m51, .ref m52])), (m2, .inl (kR, 12967, .inl (upd fR 20 xa)))] H := hP
  have hD : va_D A [(h0, .inr (12, [.int m0, .int m1, .ref m2, .ref m3, .ref m4, .ref m5, .ref m6, .int m7, .ref m8, .int m9, .int m10, .int m11, .int m12, .long m13, .int m14, .int m15, .int m16, .int m17, .int m18, .int m19, .int m20, .ref m21, .int m22, .ref m23, .ref m24, .int m25, .ref m26, .ref m27, .int m28, .int m29, .ref m30, .ref m31, .int m32, .long m33, .long m34, .long m35, .int m36, .int m37, .int m38, .ref m39, .ref m40, .ref m41, .ref m42, .ref m43, .ref m44, .ref m45, .ref m46, .int m47, .int m48, .ref m49, .ref m50, .ref m51, .ref m52])), (m2, .inl (kR, 12967, .inl (upd fR 20 xa)))] := hD
  refine lv_aload_n hx hb dX12_addFour_7 rfl (lv_at hl 0 rfl) ?_
  refine va_get (D := (dC, dI)) (ci := 12) (v := .ref m2) (C := RX12) (T := TX12) (N := 53) hx hb hts hfX12 hown hK hP 0 rfl rfl 2 (by decide) (hts (.fieldLink RX12 7 "ColdShipsModel" "row" "[I") (by decide +kernel)) (fun _ h9 => h9) rfl dX12_addFour_8 ?_
  refine lv_iload_n hx hb dX12_addFour_11 rfl (lv_at hl 1 rfl) ?_
  refine lv_iconst (v := 1) hx hb dX12_addFour_12 (by decide) ?_
  refine lv_iadd hx hb dX12_addFour_13 ?_
  refine lv_topi (fun z1 ez1 => ?_)
  obtain rfl : z1 = 21 := ez1.trans (by first | rfl | decide)
  refine lv_iload_n hx hb dX12_addFour_14 rfl (lv_at hl 3 rfl) ?_
  refine va_iast hx hb hK hP hD hS 1 0 rfl rfl (vp_in_iff.mpr ⟨by decide, by decide⟩) dX12_addFour_15 (fun H locs hP hD hS => ?_)
  have hP : va_P (dC, dI) vwCl [(h0, .inr (12, [.int m0, .int m1, .ref m2, .ref m3, .ref m4, .ref m5, .ref m6, .int m7, .ref m8, .int m9, .int m10, .int m11, .int m12, .long m13, .int m14, .int m15, .int m16, .int m17, .int m18, .int m19, .int m20, .ref m21, .int m22, .ref m23, .ref m24, .int m25, .ref m26, .ref m27, .int m28, .int m29, .ref m30, .ref m31, .int m32, .long m33, .long m34, .long m35, .int m36, .int m37, .int m38, .ref m39, .ref m40, .ref m41, .ref m42, .ref m43, .ref m44, .ref m45, .ref m46, .int m47, .int m48, .ref m49, .ref m50, .ref m51, .ref m52])), (m2, .inl (kR, 12967, .inl (upd (upd fR 20 xa) 21 xb)))] H := hP
  have hD : va_D A [(h0, .inr (12, [.int m0, .int m1, .ref m2, .ref m3, .ref m4, .ref m5, .ref m6, .int m7, .ref m8, .int m9, .int m10, .int m11, .int m12, .long m13, .int m14, .int m15, .int m16, .int m17, .int m18, .int m19, .int m20, .ref m21, .int m22, .ref m23, .ref m24, .int m25, .ref m26, .ref m27, .int m28, .int m29, .ref m30, .ref m31, .int m32, .long m33, .long m34, .long m35, .int m36, .int m37, .int m38, .ref m39, .ref m40, .ref m41, .ref m42, .ref m43, .ref m44, .ref m45, .ref m46, .int m47, .int m48, .ref m49, .ref m50, .ref m51, .ref m52])), (m2, .inl (kR, 12967, .inl (upd (upd fR 20 xa) 21 xb)))] := hD
  refine lv_aload_n hx hb dX12_addFour_16 rfl (lv_at hl 0 rfl) ?_
  refine va_get (D := (dC, dI)) (ci := 12) (v := .ref m2) (C := RX12) (T := TX12) (N := 53) hx hb hts hfX12 hown hK hP 0 rfl rfl 2 (by decide) (hts (.fieldLink RX12 7 "ColdShipsModel" "row" "[I") (by decide +kernel)) (fun _ h9 => h9) rfl dX12_addFour_17 ?_
  refine lv_iload_n hx hb dX12_addFour_20 rfl (lv_at hl 1 rfl) ?_
  refine lv_iconst (v := 2) hx hb dX12_addFour_21 (by decide) ?_
  refine lv_iadd hx hb dX12_addFour_22 ?_
  refine lv_topi (fun z2 ez2 => ?_)
  obtain rfl : z2 = 22 := ez2.trans (by first | rfl | decide)
  refine lv_iload hx hb dX12_addFour_23 (lv_at hl 4 rfl) ?_
  refine va_iast hx hb hK hP hD hS 1 0 rfl rfl (vp_in_iff.mpr ⟨by decide, by decide⟩) dX12_addFour_25 (fun H locs hP hD hS => ?_)
  have hP : va_P (dC, dI) vwCl [(h0, .inr (12, [.int m0, .int m1, .ref m2, .ref m3, .ref m4, .ref m5, .ref m6, .int m7, .ref m8, .int m9, .int m10, .int m11, .int m12, .long m13, .int m14, .int m15, .int m16, .int m17, .int m18, .int m19, .int m20, .ref m21, .int m22, .ref m23, .ref m24, .int m25, .ref m26, .ref m27, .int m28, .int m29, .ref m30, .ref m31, .int m32, .long m33, .long m34, .long m35, .int m36, .int m37, .int m38, .ref m39, .ref m40, .ref m41, .ref m42, .ref m43, .ref m44, .ref m45, .ref m46, .int m47, .int m48, .ref m49, .ref m50, .ref m51, .ref m52])), (m2, .inl (kR, 12967, .inl (upd (upd (upd fR 20 xa) 21 xb) 22 xc)))] H := hP
  have hD : va_D A [(h0, .inr (12, [.int m0, .int m1, .ref m2, .ref m3, .ref m4, .ref m5, .ref m6, .int m7, .ref m8, .int m9, .int m10, .int m11, .int m12, .long m13, .int m14, .int m15, .int m16, .int m17, .int m18, .int m19, .int m20, .ref m21, .int m22, .ref m23, .ref m24, .int m25, .ref m26, .ref m27, .int m28, .int m29, .ref m30, .ref m31, .int m32, .long m33, .long m34, .long m35, .int m36, .int m37, .int m38, .ref m39, .ref m40, .ref m41, .ref m42, .ref m43, .ref m44, .ref m45, .ref m46, .int m47, .int m48, .ref m49, .ref m50, .ref m51, .ref m52])), (m2, .inl (kR, 12967, .inl (upd (upd (upd fR 20 xa) 21 xb) 22 xc)))] := hD
  refine lv_aload_n hx hb dX12_addFour_26 rfl (lv_at hl 0 rfl) ?_
  refine va_get (D := (dC, dI)) (ci := 12) (v := .ref m2) (C := RX12) (T := TX12) (N := 53) hx hb hts hfX12 hown hK hP 0 rfl rfl 2 (by decide) (hts (.fieldLink RX12 7 "ColdShipsModel" "row" "[I") (by decide +kernel)) (fun _ h9 => h9) rfl dX12_addFour_27 ?_
  refine lv_iload_n hx hb dX12_addFour_30 rfl (lv_at hl 1 rfl) ?_
  refine lv_iconst (v := 3) hx hb dX12_addFour_31 (by decide) ?_
  refine lv_iadd hx hb dX12_addFour_32 ?_
  refine lv_topi (fun z3 ez3 => ?_)
  obtain rfl : z3 = 23 := ez3.trans (by first | rfl | decide)
  refine lv_iload hx hb dX12_addFour_33 (lv_at hl 5 rfl) ?_
  refine va_iast hx hb hK hP hD hS 1 0 rfl rfl (vp_in_iff.mpr ⟨by decide, by decide⟩) dX12_addFour_35 (fun H locs hP hD hS => ?_)
  have hP : va_P (dC, dI) vwCl [(h0, .inr (12, [.int m0, .int m1, .ref m2, .ref m3, .ref m4, .ref m5, .ref m6, .int m7, .ref m8, .int m9, .int m10, .int m11, .int m12, .long m13, .int m14, .int m15, .int m16, .int m17, .int m18, .int m19, .int m20, .ref m21, .int m22, .ref m23, .ref m24, .int m25, .ref m26, .ref m27, .int m28, .int m29, .ref m30, .ref m31, .int m32, .long m33, .long m34, .long m35, .int m36, .int m37, .int m38, .ref m39, .ref m40, .ref m41, .ref m42, .ref m43, .ref m44, .ref m45, .ref m46, .int m47, .int m48, .ref m49, .ref m50, .ref m51, .ref m52])), (m2, .inl (kR, 12967, .inl (upd (upd (upd (upd fR 20 xa) 21 xb) 22 xc) 23 xd)))] H := hP
  have hD : va_D A [(h0, .inr (12, [.int m0, .int m1, .ref m2, .ref m3, .ref m4, .ref m5, .ref m6, .int m7, .ref m8, .int m9, .int m10, .int m11, .int m12, .long m13, .int m14, .int m15, .int m16, .int m17, .int m18, .int m19, .int m20, .ref m21, .int m22, .ref m23, .ref m24, .int m25, .ref m26, .ref m27, .int m28, .int m29, .ref m30, .ref m31, .int m32, .long m33, .long m34, .long m35, .int m36, .int m37, .int m38, .ref m39, .ref m40, .ref m41, .ref m42, .ref m43, .ref m44, .ref m45, .ref m46, .int m47, .int m48, .ref m49, .ref m50, .ref m51, .ref m52])), (m2, .inl (kR, 12967, .inl (upd (upd (upd (upd fR 20 xa) 21 xb) 22 xc) 23 xd)))] := hD
  have hP9 := hP.sub (ws' := [(h0, .inr (12, [.int m0, .int m1, .ref m2, .ref m3, .ref m4, .ref m5, .ref m6, .int m7, .ref m8, .int m9, .int m10, .int m11, .int m12, .long m13, .int m14, .int m15, .int m16, .int m17, .int m18, .int m19, .int m20, .ref m21, .int m22, .ref m23, .ref m24, .int m25, .ref m26, .ref m27, .int m28, .int m29, .ref m30, .ref m31, .int m32, .long m33, .long m34, .long m35, .int m36, .int m37, .int m38, .ref m39, .ref m40, .ref m41, .ref m42, .ref m43, .ref m44, .ref m45, .ref m46, .int m47, .int m48, .ref m49, .ref m50, .ref m51, .ref m52])), (m2, .inl (kR, 12967, .inl (upd (upd (upd (upd fR 20 xa) 21 xb) 22 xc) 23 xd)))]) [0, 1] rfl
  have hD9 := hD.sub (ws' := [(h0, .inr (12, [.int m0, .int m1, .ref m2, .ref m3, .ref m4, .ref m5, .ref m6, .int m7, .ref m8, .int m9, .int m10, .int m11, .int m12, .long m13, .int m14, .int m15, .int m16, .int m17, .int m18, .int m19, .int m20, .ref m21, .int m22, .ref m23, .ref m24, .int m25, .ref m26, .ref m27, .int m28, .int m29, .ref m30, .ref m31, .int m32, .long m33, .long m34, .long m35, .int m36, .int m37, .int m38, .ref m39, .ref m40, .ref m41, .ref m42, .ref m43, .ref m44, .ref m45, .ref m46, .int m47, .int m48, .ref m49, .ref m50, .ref m51, .ref m52])), (m2, .inl (kR, 12967, .inl (upd (upd (upd (upd fR 20 xa) 21 xb) 22 xc) 23 xd)))]) [0, 1] (by decide +kernel) rfl
  have hK9 := hK.sub (tys' := [(kR, .int)]) [0] rfl
  exact W.vret hx hb hr (fun t ht hW => ⟨⟨(), rfl, trivial, ⟨by rw [ht]; exact hP9, va_K.moved hW.alike hK9, hD9⟩⟩, hS.F ht⟩) hS.2.2 dX12_addFour_36
