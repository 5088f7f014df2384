set_option maxHeartbeats 4000000 in
set_option maxRecDepth 100000 in
theorem t_X12_size (l : Launch) (dC : Nat → ClassId) (dI : Nat → Nat → Nat) (sz : Nat) (v : Int64) (Z_v : Int) (hZ_v : v.toInt = Z_v) : Met l yX12_size wsX12_size ({ frames := 2, cells := 0, slots := 0, locals := 400 }) (va_Pc [.long v] (pz_B dC dI [] [] sz)) (vp_Sl (fun r => True ∧ (Z_v ≠ 0 → r.toInt ≠ 0))) 0 0 (fun _ => False) := by
  refine Met.ofW (cc := cX12_size) (maxL := 2) (ret := some .long) (by decide) rfl ?_
  intro p e s m args below meth c s₁ B hml hv
  obtain ⟨rfl, hsz, hP, hK, hD0, hN⟩ := hv
  have hx := B.exec
  have hb := B.bytes
  have hr := B.returns
  have hts := atoms_spec (ws := wsX12_size) B.pre
  have hown : s.vm.findClass RX12 = some m.cls := findClass_of_methodNamed B.named
  have hlocks := B.notSynchronized
  subst hsz
  have hD := hD0
  have hS : va_S (fun _ => True) s.heap s.heap [] := va_S.rf
  have hl := lv_entry ([.long v]) (n := 2) (Nat.le_of_ble_eq_true rfl)
  rw [lg_entry_eq]
  generalize (lg_sl ([.long v]) ++ List.replicate (2 - (lg_sl ([.long v])).length) Slot.unset).toArray = ls at hl ⊢
  have hl : lv_has ls 2 [(0, .long v)] := hl
  refine lv_lload_n hx hb dX12_size_0 rfl (lv_at hl 0 rfl) ?_
  refine lv_lconst (v := 0) hx hb dX12_size_1 (by decide) ?_
  refine W.lcmp hx hb dX12_size_2 ?_
  refine lv_if_ge (tgt := 11) hx hb dX12_size_3 (by decide) (fun c1 => ?_) (fun c1 => ?_)
  · have ic1 : Z_v ≥ 0 := zl_ge hZ_v rfl c1
    refine lv_lload_n hx hb dX12_size_11 rfl (lv_at hl 0 rfl) ?_
    exact W.lret (v := v) hx hb hr (fun t ht hW => ⟨v, rfl, ⟨trivial, (fun q9 => by have := hZ_v; omega)⟩, ht⟩) (fun _ h => by cases h) dX12_size_12
  · have ic1 : Z_v < 0 := zl_gef hZ_v rfl c1
    refine lv_lload_n hx hb dX12_size_6 rfl (lv_at hl 0 rfl) ?_
    refine lv_lneg hx hb dX12_size_7 ?_
    refine lv_topl (fun z2 ez2 => ?_)
    refine lv_goto (tgt := 12) hx hb dX12_size_8 (by decide) ?_
    exact W.lret (v := z2) hx hb hr (fun t ht hW => ⟨z2, rfl, ⟨trivial, (fun q9 => zl_negnz ez2 (by have := hZ_v; omega))⟩, ht⟩) (fun _ h => by cases h) dX12_size_12
set_option maxHeartbeats 4000000 in
set_option maxRecDepth 100000 in
theorem t_X12_reckon (l : Launch) (dC : Nat → ClassId) (dI : Nat → Nat → Nat) (sz : Nat) (κ : Nat → ClassId) (τ ν : Nat → Nat) (ρ : Nat → Nat → Nat) (L : List Nat) (f : Nat → va_E) (hG : tp_G τ ν ρ L) (hT : tp_T (mo_O κ) κ τ ν ρ f) (h0 : Nat) (v : Int32) (u : Int64) (a : Int64) (ht_h0 : τ h0 = 13) : Met l yX12_reckon wsX12_reckon ({ frames := 3, cells := 0, slots := 0, locals := 800 }) (va_Pc [.ref h0, .int v, .long u, .long a] (pz_B dC dI (tp_K κ) (va_pl L f) sz)) (va_Ql (fun (r : Int64) (f1 : Nat → va_E) => tp_T (mo_O κ) κ τ ν ρ f1 ∧ tp_F τ [13] f f1 ∧ True ∧ True) (fun (f1 : Nat → va_E) (t : State) => pz_E dC dI (tp_K κ) (va_A (va_pl L f) sz) (va_pl L f1) t) (va_A (va_pl L f) sz)) 0 0 (va_A (va_pl L f) sz) := by
  refine Met.ofW (cc := cX12_reckon) (maxL := 6) (ret := some .long) (by decide) rfl ?_
  intro p e s m args below meth c s₁ B hml hv
  obtain ⟨rfl, hsz, hP, hK, hD0, hN⟩ := hv
  have hx := B.exec
  have hb := B.bytes
  have hr := B.returns
  have hts := atoms_spec (ws := wsX12_reckon) B.pre
  have hown : s.vm.findClass RX12 = some m.cls := findClass_of_methodNamed B.named
  have hlocks := B.notSynchronized
  subst hsz
  have hD := hD0.self (sz := s.heap.size)
  generalize hAe : va_A (va_pl L f) s.heap.size = A at hD ⊢
  have hA : ∀ q : Nat, s.heap.size ≤ q → A q := fun q h => by rw [← hAe]; exact Or.inr h
  have hS : va_S A s.heap s.heap [] := va_S.rf
  have hR : tp_F τ [13] f f := tp_F.rf
  have hl := lv_entry ([.ref h0, .int v, .long u, .long a]) (n := 6) (Nat.le_of_ble_eq_true rfl)
  rw [lg_entry_eq]
  generalize (lg_sl ([.ref h0, .int v, .long u, .long a]) ++ List.replicate (6 - (lg_sl ([.ref h0, .int v, .long u, .long a])).length) Slot.unset).toArray = ls at hl ⊢
  have hl : lv_has ls 6 [(0, .ref h0), (1, .int v), (2, .long u), (4, .long a)] := hl
  have hfX12 : ∀ w ∈ wsX120, w ∈ wsX12_reckon := fun w h => List.mem_cons_of_mem _ (List.mem_append_right _ h)
  refine lv_iload_n hx hb dX12_reckon_0 rfl (lv_at hl 1 rfl) ?_
  rcases zi_sw v 10 15 with h1 | h1
  · refine lv_tableOut (tgt := 156) hx hb dX12_reckon_1 h1 (by decide) ?_
    refine lv_lload_n hx hb dX12_reckon_156 rfl (lv_at hl 2 rfl) ?_
    refine lv_lload hx hb dX12_reckon_157 (lv_at hl 3 rfl) ?_
    refine W.lcmp hx hb dX12_reckon_159 ?_
    refine lv_if_ne (tgt := 167) hx hb dX12_reckon_160 (by decide) (fun c2 => ?_) (fun c2 => ?_)
    · have ic2 : u.toInt ≠ a.toInt := zl_ne rfl rfl c2
      refine lv_lconst (v := 0) hx hb dX12_reckon_167 (by decide) ?_
      exact W.lret (v := 0) hx hb hr (fun t ht hW => ⟨⟨0, f, rfl, ⟨hT, hR, trivial, trivial⟩, by rw [ht]; exact hP, va_K.moved hW.alike hK, hD⟩, hS.F ht⟩) hS.2.2 dX12_reckon_168
    · have ic2 : u.toInt = a.toInt := zl_nef rfl rfl c2
      refine lv_lconst (v := 1) hx hb dX12_reckon_163 (by decide) ?_
      refine lv_goto (tgt := 168) hx hb dX12_reckon_164 (by decide) ?_
      exact W.lret (v := 1) hx hb hr (fun t ht hW => ⟨⟨1, f, rfl, ⟨hT, hR, trivial, trivial⟩, by rw [ht]; exact hP, va_K.moved hW.alike hK, hD⟩, hS.F ht⟩) hS.2.2 dX12_reckon_168
  · rcases (show v.toInt = 10 ∨ v.toInt = 11 ∨ v.toInt = 12 ∨ v.toInt = 13 ∨ v.toInt = 14 ∨ v.toInt = 15 by omega) with h1k | h1k | h1k | h1k | h1k | h1k
    · refine lv_tableIn (tgt := 40) hx hb dX12_reckon_1 (by omega) (by omega) (by rw [h1k]; rfl) (by decide) ?_
      refine lv_lload_n hx hb dX12_reckon_40 rfl (lv_at hl 2 rfl) ?_
      refine lv_lload hx hb dX12_reckon_41 (lv_at hl 3 rfl) ?_
      refine lv_ladd hx hb dX12_reckon_43 ?_
      refine lv_topl (fun z3 ez3 => ?_)
      exact W.lret (v := z3) hx hb hr (fun t ht hW => ⟨⟨z3, f, rfl, ⟨hT, hR, trivial, trivial⟩, by rw [ht]; exact hP, va_K.moved hW.alike hK, hD⟩, hS.F ht⟩) hS.2.2 dX12_reckon_44
    · refine lv_tableIn (tgt := 45) hx hb dX12_reckon_1 (by omega) (by omega) (by rw [h1k]; rfl) (by decide) ?_
      refine lv_lload_n hx hb dX12_reckon_45 rfl (lv_at hl 2 rfl) ?_
      refine lv_lload hx hb dX12_reckon_46 (lv_at hl 3 rfl) ?_
      refine lv_lsub hx hb dX12_reckon_48 ?_
      refine lv_topl (fun z4 ez4 => ?_)
      exact W.lret (v := z4) hx hb hr (fun t ht hW => ⟨⟨z4, f, rfl, ⟨hT, hR, trivial, trivial⟩, by rw [ht]; exact hP, va_K.moved hW.alike hK, hD⟩, hS.F ht⟩) hS.2.2 dX12_reckon_49
    · refine lv_tableIn (tgt := 50) hx hb dX12_reckon_1 (by omega) (by omega) (by rw [h1k]; rfl) (by decide) ?_
      refine lv_aload_n hx hb dX12_reckon_50 rfl (lv_at hl 0 rfl) ?_
      refine lv_lload_n hx hb dX12_reckon_51 rfl (lv_at hl 2 rfl) ?_
      refine lv_lconst (v := 0) hx hb dX12_reckon_52 (by decide) ?_
      refine W.lcmp hx hb dX12_reckon_53 ?_
      refine lv_if_eq (tgt := 78) hx hb dX12_reckon_54 (by decide) (fun c5 => ?_) (fun c5 => ?_)
      · have ic5 : u.toInt = 0 := zl_eq rfl rfl c5
        refine lv_iconst (v := 0) hx hb dX12_reckon_78 (by decide) ?_
        obtain ⟨y6, y7, y8, y9, y10, y11, y12, y13, y14, y15, y16, y17, y18, y19, y20, y21, y22, y23, y24, y25, y26, y27, y28, y29, y30⟩ := tpg_13 hG ht_h0
        obtain ⟨o31_x0, o31_x1, o31_x7, o31_x9, o31_x10, o31_x11, o31_x12, o31_x13, o31_x14, o31_x15, o31_x16, o31_x17, o31_x18, o31_x19, o31_x20, o31_x22, o31_x25, o31_x28, o31_x29, o31_x32, o31_x33, o31_x34, o31_x35, o31_x36, o31_x37, o31_x38, o31_x47, o31_x48, hf_o31, ro31_0, ro31_1, ro31_2, ro31_3, ro31_4, ro31_5, ro31_6, ro31_7, ro31_8, ro31_9, ro31_10, ro31_11, ro31_12, ro31_13⟩ := tpo_13 hT ht_h0
        obtain ⟨q32, eq32⟩ := tp_pos (tp_in hG ht_h0 (by decide)) hf_o31
        refine va_put (D := (dC, dI)) (ci := 12) (v := .int 0) (ty := .boolean) (C := RX12) (T := TX12) (N := 53) hx hb hts hfX12 tyX12 tyX12_ok nmX12 hown hK hP hD hS q32 eq32 rfl 32 (by decide) (hts (.fieldLink RX12 440 "ColdShipsModel" "broken" "Z") (by decide +kernel)) (fun _ h9 => h9) rfl (by decide +kernel) rfl rfl (Nat.le_of_ble_eq_true rfl) dX12_reckon_79 (tp_k (.inr (12, [.int o31_x0, .int o31_x1, .ref (ρ h0 2), .ref (ρ h0 3), .ref (ρ h0 4), .ref (ρ h0 5), .ref (ρ h0 6), .int o31_x7, .ref (ρ h0 8), .int o31_x9, .int o31_x10, .int o31_x11, .int o31_x12, .long o31_x13, .int o31_x14, .int o31_x15, .int o31_x16, .int o31_x17, .int o31_x18, .int o31_x19, .int o31_x20, .ref (ρ h0 21), .int o31_x22, .ref (ρ h0 23), .ref (ρ h0 24), .int o31_x25, .ref (ρ h0 26), .ref (ρ h0 27), .int o31_x28, .int o31_x29, .ref (ρ h0 30), .ref (ρ h0 31), .int 0, .long o31_x33, .long o31_x34, .long o31_x35, .int o31_x36, .int o31_x37, .int o31_x38, .ref (ρ h0 39), .ref (ρ h0 40), .ref (ρ h0 41), .ref (ρ h0 42), .ref (ρ h0 43), .ref (ρ h0 44), .ref (ρ h0 45), .ref (ρ h0 46), .int o31_x47, .int o31_x48, .ref (ρ h0 49), .ref (ρ h0 50), .ref (ρ h0 51), .ref (ρ h0 52)])) hD (tp_in hG ht_h0 (by decide)) eq32 (fun f33 H locs hP hD hS g35 k34 => ?_))
        have hT := hT.up ht_h0 g35 k34 ⟨_, _, _, _, _, _, _, _, _, _, _, _, _, _, _, _, _, _, _, _, _, _, _, _, _, _, _, _, rfl, ro31_0, ro31_1, ro31_2, ro31_3, ro31_4, ro31_5, ro31_6, ro31_7, ro31_8, ro31_9, (by decide), ro31_11, ro31_12, ro31_13⟩
        have hR := hR.up ht_h0 (by decide) k34
        refine lv_aload_n hx hb dX12_reckon_82 rfl (lv_at hl 0 rfl) ?_
        obtain ⟨q36, eq36⟩ := tp_pos (tp_in hG ht_h0 (by decide)) g35
        refine va_get (D := (dC, dI)) (ci := 12) (v := .int 0) (C := RX12) (T := TX12) (N := 53) hx hb hts hfX12 hown hK hP q36 eq36 rfl 32 (by decide) (hts (.fieldLink RX12 440 "ColdShipsModel" "broken" "Z") (by decide +kernel)) (fun _ h9 => h9) rfl dX12_reckon_83 ?_
        refine lv_if_eq (tgt := 93) hx hb dX12_reckon_86 (by decide) (fun _ => ?_) (fun c9 => absurd c9 (by decide))
        refine lv_lload_n hx hb dX12_reckon_93 rfl (lv_at hl 2 rfl) ?_
        refine lv_lload hx hb dX12_reckon_94 (lv_at hl 3 rfl) ?_
        refine lv_lmul hx hb dX12_reckon_96 ?_
        refine lv_topl (fun z37 ez37 => ?_)
        exact W.lret (v := z37) hx hb hr (fun t ht hW => ⟨⟨z37, f33, rfl, ⟨hT, hR, trivial, trivial⟩, by rw [ht]; exact hP, va_K.moved hW.alike hK, hD⟩, hS.F ht⟩) hS.2.2 dX12_reckon_97
      · have ic5 : u.toInt ≠ 0 := zl_eqf rfl rfl c5
        refine lv_lload hx hb dX12_reckon_57 (lv_at hl 3 rfl) ?_
        refine pz_calll (va_runS (As := [.long a]) (rest := [.ref h0]) ⟨hx, hb, hml, hown, hts⟩ (t_X12_size l dC dI _ a (a.toInt) rfl) (va_cwS 1 hts gX12_reckon_X12_size rfl rfl rfl (by decide +kernel) ⟨Nat.le_of_ble_eq_true rfl, Nat.le_of_ble_eq_true rfl⟩) ⟨pz_blind, pz_pre pz_P0 (hK.sub (tys' := []) [] rfl) (pz_D0 (A := fun _ => True)) hN⟩ rfl rfl hl.1 rfl (lv_room (Nat.le_of_ble_eq_true rfl)) dX12_reckon_59 ⟨Nat.le_of_ble_eq_true rfl, Nat.le_of_ble_eq_true rfl⟩) (fun r38 hw39 => ?_)
        obtain ⟨hw39r, hw39p⟩ := hw39
        refine lv_ldc2 (own := RX12) (v := 1000000000000) hx hb hown (hts (.constantLong RX12 438 (1000000000000)) (by decide +kernel)) dX12_reckon_62 ?_
        refine lv_lload_n hx hb dX12_reckon_65 rfl (lv_at hl 2 rfl) ?_
        refine pz_calll (va_runS (As := [.long u]) (rest := [.long 1000000000000, .long r38, .ref h0]) ⟨hx, hb, hml, hown, hts⟩ (t_X12_size l dC dI _ u (u.toInt) rfl) (va_cwS 1 hts gX12_reckon_X12_size rfl rfl rfl (by decide +kernel) ⟨Nat.le_of_ble_eq_true rfl, Nat.le_of_ble_eq_true rfl⟩) ⟨pz_blind, pz_pre pz_P0 (hK.sub (tys' := []) [] rfl) (pz_D0 (A := fun _ => True)) hN⟩ rfl rfl hl.1 rfl (lv_room (Nat.le_of_ble_eq_true rfl)) dX12_reckon_66 ⟨Nat.le_of_ble_eq_true rfl, Nat.le_of_ble_eq_true rfl⟩) (fun r40 hw41 => ?_)
        obtain ⟨hw41r, hw41p⟩ := hw41
        refine lv_ldiv hx hb dX12_reckon_69 (zl_nz (by omega) rfl) ?_
        refine lv_topl (fun z42 ez42 => ?_)
        refine W.lcmp hx hb dX12_reckon_70 ?_
        refine lv_if_le (tgt := 78) hx hb dX12_reckon_71 (by decide) (fun c43 => ?_) (fun c43 => ?_)
        · have ic43 : r38.toInt ≤ z42.toInt := zl_le rfl rfl c43
          refine lv_iconst (v := 0) hx hb dX12_reckon_78 (by decide) ?_
          obtain ⟨y44, y45, y46, y47, y48, y49, y50, y51, y52, y53, y54, y55, y56, y57, y58, y59, y60, y61, y62, y63, y64, y65, y66, y67, y68⟩ := tpg_13 hG ht_h0
          obtain ⟨o69_x0, o69_x1, o69_x7, o69_x9, o69_x10, o69_x11, o69_x12, o69_x13, o69_x14, o69_x15, o69_x16, o69_x17, o69_x18, o69_x19, o69_x20, o69_x22, o69_x25, o69_x28, o69_x29, o69_x32, o69_x33, o69_x34, o69_x35, o69_x36, o69_x37, o69_x38, o69_x47, o69_x48, hf_o69, ro69_0, ro69_1, ro69_2, ro69_3, ro69_4, ro69_5, ro69_6, ro69_7, ro69_8, ro69_9, ro69_10, ro69_11, ro69_12, ro69_13⟩ := tpo_13 hT ht_h0
          obtain ⟨q70, eq70⟩ := tp_pos (tp_in hG ht_h0 (by decide)) hf_o69
          refine va_put (D := (dC, dI)) (ci := 12) (v := .int 0) (ty := .boolean) (C := RX12) (T := TX12) (N := 53) hx hb hts hfX12 tyX12 tyX12_ok nmX12 hown hK hP hD hS q70 eq70 rfl 32 (by decide) (hts (.fieldLink RX12 440 "ColdShipsModel" "broken" "Z") (by decide +kernel)) (fun _ h9 => h9) rfl (by decide +kernel) rfl rfl (Nat.le_of_ble_eq_true rfl) dX12_reckon_79 (tp_k (.inr (12, [.int o69_x0, .int o69_x1, .ref (ρ h0 2), .ref (ρ h0 3), .ref (ρ h0 4), .ref (ρ h0 5), .ref (ρ h0 6), .int o69_x7, .ref (ρ h0 8), .int o69_x9, .int o69_x10, .int o69_x11, .int o69_x12, .long o69_x13, .int o69_x14, .int o69_x15, .int o69_x16, .int o69_x17, .int o69_x18, .int o69_x19, .int o69_x20, .ref (ρ h0 21), .int o69_x22, .ref (ρ h0 23), .ref (ρ h0 24), .int o69_x25, .ref (ρ h0 26), .ref (ρ h0 27), .int o69_x28, .int o69_x29, .ref (ρ h0 30), .ref (ρ h0 31), .int 0, .long o69_x33, .long o69_x34, .long o69_x35, .int o69_x36, .int o69_x37, .int o69_x38, .ref (ρ h0 39), .ref (ρ h0 40), .ref (ρ h0 41), .ref (ρ h0 42), .ref (ρ h0 43), .ref (ρ h0 44), .ref (ρ h0 45), .ref (ρ h0 46), .int o69_x47, .int o69_x48, .ref (ρ h0 49), .ref (ρ h0 50), .ref (ρ h0 51), .ref (ρ h0 52)])) hD (tp_in hG ht_h0 (by decide)) eq70 (fun f71 H locs hP hD hS g73 k72 => ?_))
          have hT := hT.up ht_h0 g73 k72 ⟨_, _, _, _, _, _, _, _, _, _, _, _, _, _, _, _, _, _, _, _, _, _, _, _, _, _, _, _, rfl, ro69_0, ro69_1, ro69_2, ro69_3, ro69_4, ro69_5, ro69_6, ro69_7, ro69_8, ro69_9, (by decide), ro69_11, ro69_12, ro69_13⟩
          have hR := hR.up ht_h0 (by decide) k72
          refine lv_aload_n hx hb dX12_reckon_82 rfl (lv_at hl 0 rfl) ?_
          obtain ⟨q74, eq74⟩ := tp_pos (tp_in hG ht_h0 (by decide)) g73
          refine va_get (D := (dC, dI)) (ci := 12) (v := .int 0) (C := RX12) (T := TX12) (N := 53) hx hb hts hfX12 hown hK hP q74 eq74 rfl 32 (by decide) (hts (.fieldLink RX12 440 "ColdShipsModel" "broken" "Z") (by decide +kernel)) (fun _ h9 => h9) rfl dX12_reckon_83 ?_
          refine lv_if_eq (tgt := 93) hx hb dX12_reckon_86 (by decide) (fun _ => ?_) (fun c9 => absurd c9 (by decide))
          refine lv_lload_n hx hb dX12_reckon_93 rfl (lv_at hl 2 rfl) ?_
          refine lv_lload hx hb dX12_reckon_94 (lv_at hl 3 rfl) ?_
          refine lv_lmul hx hb dX12_reckon_96 ?_
          refine lv_topl (fun z75 ez75 => ?_)
          exact W.lret (v := z75) hx hb hr (fun t ht hW => ⟨⟨z75, f71, rfl, ⟨hT, hR, trivial, trivial⟩, by rw [ht]; exact hP, va_K.moved hW.alike hK, hD⟩, hS.F ht⟩) hS.2.2 dX12_reckon_97
        · have ic43 : r38.toInt > z42.toInt := zl_lef rfl rfl c43
          refine lv_iconst (v := 1) hx hb dX12_reckon_74 (by decide) ?_
          refine lv_goto (tgt := 79) hx hb dX12_reckon_75 (by decide) ?_
          obtain ⟨y76, y77, y78, y79, y80, y81, y82, y83, y84, y85, y86, y87, y88, y89, y90, y91, y92, y93, y94, y95, y96, y97, y98, y99, y100⟩ := tpg_13 hG ht_h0
          obtain ⟨o101_x0, o101_x1, o101_x7, o101_x9, o101_x10, o101_x11, o101_x12, o101_x13, o101_x14, o101_x15, o101_x16, o101_x17, o101_x18, o101_x19, o101_x20, o101_x22, o101_x25, o101_x28, o101_x29, o101_x32, o101_x33, o101_x34, o101_x35, o101_x36, o101_x37, o101_x38, o101_x47, o101_x48, hf_o101, ro101_0, ro101_1, ro101_2, ro101_3, ro101_4, ro101_5, ro101_6, ro101_7, ro101_8, ro101_9, ro101_10, ro101_11, ro101_12, ro101_13⟩ := tpo_13 hT ht_h0
          obtain ⟨q102, eq102⟩ := tp_pos (tp_in hG ht_h0 (by decide)) hf_o101
          refine va_put (D := (dC, dI)) (ci := 12) (v := .int 1) (ty := .boolean) (C := RX12) (T := TX12) (N := 53) hx hb hts hfX12 tyX12 tyX12_ok nmX12 hown hK hP hD hS q102 eq102 rfl 32 (by decide) (hts (.fieldLink RX12 440 "ColdShipsModel" "broken" "Z") (by decide +kernel)) (fun _ h9 => h9) rfl (by decide +kernel) rfl rfl (Nat.le_of_ble_eq_true rfl) dX12_reckon_79 (tp_k (.inr (12, [.int o101_x0, .int o101_x1, .ref (ρ h0 2), .ref (ρ h0 3), .ref (ρ h0 4), .ref (ρ h0 5), .ref (ρ h0 6), .int o101_x7, .ref (ρ h0 8), .int o101_x9, .int o101_x10, .int o101_x11, .int o101_x12, .long o101_x13, .int o101_x14, .int o101_x15, .int o101_x16, .int o101_x17, .int o101_x18, .int o101_x19, .int o101_x20, .ref (ρ h0 21), .int o101_x22, .ref (ρ h0 23), .ref (ρ h0 24), .int o101_x25, .ref (ρ h0 26), .ref (ρ h0 27), .int o101_x28, .int o101_x29, .ref (ρ h0 30), .ref (ρ h0 31), .int 1, .long o101_x33, .long o101_x34, .long o101_x35, .int o101_x36, .int o101_x37, .int o101_x38, .ref (ρ h0 39), .ref (ρ h0 40), .ref (ρ h0 41), .ref (ρ h0 42), .ref (ρ h0 43), .ref (ρ h0 44), .ref (ρ h0 45), .ref (ρ h0 46), .int o101_x47, .int o101_x48, .ref (ρ h0 49), .ref (ρ h0 50), .ref (ρ h0 51), .ref (ρ h0 52)])) hD (tp_in hG ht_h0 (by decide)) eq102 (fun f103 H locs hP hD hS g105 k104 => ?_))
          have hT := hT.up ht_h0 g105 k104 ⟨_, _, _, _, _, _, _, _, _, _, _, _, _, _, _, _, _, _, _, _, _, _, _, _, _, _, _, _, rfl, ro101_0, ro101_1, ro101_2, ro101_3, ro101_4, ro101_5, ro101_6, ro101_7, ro101_8, ro101_9, (by decide), ro101_11, ro101_12, ro101_13⟩
          have hR := hR.up ht_h0 (by decide) k104
          refine lv_aload_n hx hb dX12_reckon_82 rfl (lv_at hl 0 rfl) ?_
          obtain ⟨q106, eq106⟩ := tp_pos (tp_in hG ht_h0 (by decide)) g105
          refine va_get (D := (dC, dI)) (ci := 12) (v := .int 1) (C := RX12) (T := TX12) (N := 53) hx hb hts hfX12 hown hK hP q106 eq106 rfl 32 (by decide) (hts (.fieldLink RX12 440 "ColdShipsModel" "broken" "Z") (by decide +kernel)) (fun _ h9 => h9) rfl dX12_reckon_83 ?_
          refine lv_if_eq (tgt := 93) hx hb dX12_reckon_86 (by decide) (fun c9 => absurd c9 (by decide)) (fun _ => ?_)
          refine lv_lconst (v := 0) hx hb dX12_reckon_89 (by decide) ?_
          refine lv_goto (tgt := 97) hx hb dX12_reckon_90 (by decide) ?_
          exact W.lret (v := 0) hx hb hr (fun t ht hW => ⟨⟨0, f103, rfl, ⟨hT, hR, trivial, trivial⟩, by rw [ht]; exact hP, va_K.moved hW.alike hK, hD⟩, hS.F ht⟩) hS.2.2 dX12_reckon_97
    · refine lv_tableIn (tgt := 98) hx hb dX12_reckon_1 (by omega) (by omega) (by rw [h1k]; rfl) (by decide) ?_
      refine lv_aload_n hx hb dX12_reckon_98 rfl (lv_at hl 0 rfl) ?_
      refine lv_lload hx hb dX12_reckon_99 (lv_at hl 3 rfl) ?_
      refine lv_lconst (v := 0) hx hb dX12_reckon_101 (by decide) ?_
      refine W.lcmp hx hb dX12_reckon_102 ?_
      refine lv_if_ne (tgt := 110) hx hb dX12_reckon_103 (by decide) (fun c107 => ?_) (fun c107 => ?_)
      · have ic107 : a.toInt ≠ 0 := zl_ne rfl rfl c107
        refine lv_iconst (v := 0) hx hb dX12_reckon_110 (by decide) ?_
        obtain ⟨y108, y109, y110, y111, y112, y113, y114, y115, y116, y117, y118, y119, y120, y121, y122, y123, y124, y125, y126, y127, y128, y129, y130, y131, y132⟩ := tpg_13 hG ht_h0
        obtain ⟨o133_x0, o133_x1, o133_x7, o133_x9, o133_x10, o133_x11, o133_x12, o133_x13, o133_x14, o133_x15, o133_x16, o133_x17, o133_x18, o133_x19, o133_x20, o133_x22, o133_x25, o133_x28, o133_x29, o133_x32, o133_x33, o133_x34, o133_x35, o133_x36, o133_x37, o133_x38, o133_x47, o133_x48, hf_o133, ro133_0, ro133_1, ro133_2, ro133_3, ro133_4, ro133_5, ro133_6, ro133_7, ro133_8, ro133_9, ro133_10, ro133_11, ro133_12, ro133_13⟩ := tpo_13 hT ht_h0
        obtain ⟨q134, eq134⟩ := tp_pos (tp_in hG ht_h0 (by decide)) hf_o133
        refine va_put (D := (dC, dI)) (ci := 12) (v := .int 0) (ty := .boolean) (C := RX12) (T := TX12) (N := 53) hx hb hts hfX12 tyX12 tyX12_ok nmX12 hown hK hP hD hS q134 eq134 rfl 32 (by decide) (hts (.fieldLink RX12 440 "ColdShipsModel" "broken" "Z") (by decide +kernel)) (fun _ h9 => h9) rfl (by decide +kernel) rfl rfl (Nat.le_of_ble_eq_true rfl) dX12_reckon_111 (tp_k (.inr (12, [.int o133_x0, .int o133_x1, .ref (ρ h0 2), .ref (ρ h0 3), .ref (ρ h0 4), .ref (ρ h0 5), .ref (ρ h0 6), .int o133_x7, .ref (ρ h0 8), .int o133_x9, .int o133_x10, .int o133_x11, .int o133_x12, .long o133_x13, .int o133_x14, .int o133_x15, .int o133_x16, .int o133_x17, .int o133_x18, .int o133_x19, .int o133_x20, .ref (ρ h0 21), .int o133_x22, .ref (ρ h0 23), .ref (ρ h0 24), .int o133_x25, .ref (ρ h0 26), .ref (ρ h0 27), .int o133_x28, .int o133_x29, .ref (ρ h0 30), .ref (ρ h0 31), .int 0, .long o133_x33, .long o133_x34, .long o133_x35, .int o133_x36, .int o133_x37, .int o133_x38, .ref (ρ h0 39), .ref (ρ h0 40), .ref (ρ h0 41), .ref (ρ h0 42), .ref (ρ h0 43), .ref (ρ h0 44), .ref (ρ h0 45), .ref (ρ h0 46), .int o133_x47, .int o133_x48, .ref (ρ h0 49), .ref (ρ h0 50), .ref (ρ h0 51), .ref (ρ h0 52)])) hD (tp_in hG ht_h0 (by decide)) eq134 (fun f135 H locs hP hD hS g137 k136 => ?_))
        have hT := hT.up ht_h0 g137 k136 ⟨_, _, _, _, _, _, _, _, _, _, _, _, _, _, _, _, _, _, _, _, _, _, _, _, _, _, _, _, rfl, ro133_0, ro133_1, ro133_2, ro133_3, ro133_4, ro133_5, ro133_6, ro133_7, ro133_8, ro133_9, (by decide), ro133_11, ro133_12, ro133_13⟩
        have hR := hR.up ht_h0 (by decide) k136
        refine lv_aload_n hx hb dX12_reckon_114 rfl (lv_at hl 0 rfl) ?_
        obtain ⟨q138, eq138⟩ := tp_pos (tp_in hG ht_h0 (by decide)) g137
        refine va_get (D := (dC, dI)) (ci := 12) (v := .int 0) (C := RX12) (T := TX12) (N := 53) hx hb hts hfX12 hown hK hP q138 eq138 rfl 32 (by decide) (hts (.fieldLink RX12 440 "ColdShipsModel" "broken" "Z") (by decide +kernel)) (fun _ h9 => h9) rfl dX12_reckon_115 ?_
        refine lv_if_eq (tgt := 125) hx hb dX12_reckon_118 (by decide) (fun _ => ?_) (fun c9 => absurd c9 (by decide))
        refine lv_lload_n hx hb dX12_reckon_125 rfl (lv_at hl 2 rfl) ?_
        refine lv_lload hx hb dX12_reckon_126 (lv_at hl 3 rfl) ?_
        refine lv_ldiv hx hb dX12_reckon_128 (zl_nz (by omega) rfl) ?_
        refine lv_topl (fun z139 ez139 => ?_)
        exact W.lret (v := z139) hx hb hr (fun t ht hW => ⟨⟨z139, f135, rfl, ⟨hT, hR, trivial, trivial⟩, by rw [ht]; exact hP, va_K.moved hW.alike hK, hD⟩, hS.F ht⟩) hS.2.2 dX12_reckon_129
      · have ic107 : a.toInt = 0 := zl_nef rfl rfl c107
        refine lv_iconst (v := 1) hx hb dX12_reckon_106 (by decide) ?_
        refine lv_goto (tgt := 111) hx hb dX12_reckon_107 (by decide) ?_
        obtain ⟨y140, y141, y142, y143, y144, y145, y146, y147, y148, y149, y150, y151, y152, y153, y154, y155, y156, y157, y158, y159, y160, y161, y162, y163, y164⟩ := tpg_13 hG ht_h0
        obtain ⟨o165_x0, o165_x1, o165_x7, o165_x9, o165_x10, o165_x11, o165_x12, o165_x13, o165_x14, o165_x15, o165_x16, o165_x17, o165_x18, o165_x19, o165_x20, o165_x22, o165_x25, o165_x28, o165_x29, o165_x32, o165_x33, o165_x34, o165_x35, o165_x36, o165_x37, o165_x38, o165_x47, o165_x48, hf_o165, ro165_0, ro165_1, ro165_2, ro165_3, ro165_4, ro165_5, ro165_6, ro165_7, ro165_8, ro165_9, ro165_10, ro165_11, ro165_12, ro165_13⟩ := tpo_13 hT ht_h0
        obtain ⟨q166, eq166⟩ := tp_pos (tp_in hG ht_h0 (by decide)) hf_o165
        refine va_put (D := (dC, dI)) (ci := 12) (v := .int 1) (ty := .boolean) (C := RX12) (T := TX12) (N := 53) hx hb hts hfX12 tyX12 tyX12_ok nmX12 hown hK hP hD hS q166 eq166 rfl 32 (by decide) (hts (.fieldLink RX12 440 "ColdShipsModel" "broken" "Z") (by decide +kernel)) (fun _ h9 => h9) rfl (by decide +kernel) rfl rfl (Nat.le_of_ble_eq_true rfl) dX12_reckon_111 (tp_k (.inr (12, [.int o165_x0, .int o165_x1, .ref (ρ h0 2), .ref (ρ h0 3), .ref (ρ h0 4), .ref (ρ h0 5), .ref (ρ h0 6), .int o165_x7, .ref (ρ h0 8), .int o165_x9, .int o165_x10, .int o165_x11, .int o165_x12, .long o165_x13, .int o165_x14, .int o165_x15, .int o165_x16, .int o165_x17, .int o165_x18, .int o165_x19, .int o165_x20, .ref (ρ h0 21), .int o165_x22, .ref (ρ h0 23), .ref (ρ h0 24), .int o165_x25, .ref (ρ h0 26), .ref (ρ h0 27), .int o165_x28, .int o165_x29, .ref (ρ h0 30), .ref (ρ h0 31), .int 1, .long o165_x33, .long o165_x34, .long o165_x35, .int o165_x36, .int o165_x37, .int o165_x38, .ref (ρ h0 39), .ref (ρ h0 40), .ref (ρ h0 41), .ref (ρ h0 42), .ref (ρ h0 43), .ref (ρ h0 44), .ref (ρ h0 45), .ref (ρ h0 46), .int o165_x47, .int o165_x48, .ref (ρ h0 49), .ref (ρ h0 50), .ref (ρ h0 51), .ref (ρ h0 52)])) hD (tp_in hG ht_h0 (by decide)) eq166 (fun f167 H locs hP hD hS g169 k168 => ?_))
        have hT := hT.up ht_h0 g169 k168 ⟨_, _, _, _, _, _, _, _, _, _, _, _, _, _, _, _, _, _, _, _, _, _, _, _, _, _, _, _, rfl, ro165_0, ro165_1, ro165_2, ro165_3, ro165_4, ro165_5, ro165_6, ro165_7, ro165_8, ro165_9, (by decide), ro165_11, ro165_12, ro165_13⟩
        have hR := hR.up ht_h0 (by decide) k168
        refine lv_aload_n hx hb dX12_reckon_114 rfl (lv_at hl 0 rfl) ?_
        obtain ⟨q170, eq170⟩ := tp_pos (tp_in hG ht_h0 (by decide)) g169
        refine va_get (D := (dC, dI)) (ci := 12) (v := .int 1) (C := RX12) (T := TX12) (N := 53) hx hb hts hfX12 hown hK hP q170 eq170 rfl 32 (by decide) (hts (.fieldLink RX12 440 "ColdShipsModel" "broken" "Z") (by decide +kernel)) (fun _ h9 => h9) rfl dX12_reckon_115 ?_
        refine lv_if_eq (tgt := 125) hx hb dX12_reckon_118 (by decide) (fun c9 => absurd c9 (by decide)) (fun _ => ?_)
        refine lv_lconst (v := 0) hx hb dX12_reckon_121 (by decide) ?_
        refine lv_goto (tgt := 129) hx hb dX12_reckon_122 (by decide) ?_
        exact W.lret (v := 0) hx hb hr (fun t ht hW => ⟨⟨0, f167, rfl, ⟨hT, hR, trivial, trivial⟩, by rw [ht]; exact hP, va_K.moved hW.alike hK, hD⟩, hS.F ht⟩) hS.2.2 dX12_reckon_129
    · refine lv_tableIn (tgt := 130) hx hb dX12_reckon_1 (by omega) (by omega) (by rw [h1k]; rfl) (by decide) ?_
      refine lv_lload_n hx hb dX12_reckon_130 rfl (lv_at hl 2 rfl) ?_
      refine lv_lload hx hb dX12_reckon_131 (lv_at hl 3 rfl) ?_
      refine W.lcmp hx hb dX12_reckon_133 ?_
      refine lv_if_ge (tgt := 141) hx hb dX12_reckon_134 (by decide) (fun c171 => ?_) (fun c171 => ?_)
      · have ic171 : u.toInt ≥ a.toInt := zl_ge rfl rfl c171
        refine lv_lconst (v := 0) hx hb dX12_reckon_141 (by decide) ?_
        exact W.lret (v := 0) hx hb hr (fun t ht hW => ⟨⟨0, f, rfl, ⟨hT, hR, trivial, trivial⟩, by rw [ht]; exact hP, va_K.moved hW.alike hK, hD⟩, hS.F ht⟩) hS.2.2 dX12_reckon_142
      · have ic171 : u.toInt < a.toInt := zl_gef rfl rfl c171
        refine lv_lconst (v := 1) hx hb dX12_reckon_137 (by decide) ?_
        refine lv_goto (tgt := 142) hx hb dX12_reckon_138 (by decide) ?_
        exact W.lret (v := 1) hx hb hr (fun t ht hW => ⟨⟨1, f, rfl, ⟨hT, hR, trivial, trivial⟩, by rw [ht]; exact hP, va_K.moved hW.alike hK, hD⟩, hS.F ht⟩) hS.2.2 dX12_reckon_142
    · refine lv_tableIn (tgt := 143) hx hb dX12_reckon_1 (by omega) (by omega) (by rw [h1k]; rfl) (by decide) ?_
      refine lv_lload_n hx hb dX12_reckon_143 rfl (lv_at hl 2 rfl) ?_
      refine lv_lload hx hb dX12_reckon_144 (lv_at hl 3 rfl) ?_
      refine W.lcmp hx hb dX12_reckon_146 ?_
      refine lv_if_le (tgt := 154) hx hb dX12_reckon_147 (by decide) (fun c172 => ?_) (fun c172 => ?_)
      · have ic172 : u.toInt ≤ a.toInt := zl_le rfl rfl c172
        refine lv_lconst (v := 0) hx hb dX12_reckon_154 (by decide) ?_
        exact W.lret (v := 0) hx hb hr (fun t ht hW => ⟨⟨0, f, rfl, ⟨hT, hR, trivial, trivial⟩, by rw [ht]; exact hP, va_K.moved hW.alike hK, hD⟩, hS.F ht⟩) hS.2.2 dX12_reckon_155
      · have ic172 : u.toInt > a.toInt := zl_lef rfl rfl c172
        refine lv_lconst (v := 1) hx hb dX12_reckon_150 (by decide) ?_
        refine lv_goto (tgt := 155) hx hb dX12_reckon_151 (by decide) ?_
        exact W.lret (v := 1) hx hb hr (fun t ht hW => ⟨⟨1, f, rfl, ⟨hT, hR, trivial, trivial⟩, by rw [ht]; exact hP, va_K.moved hW.alike hK, hD⟩, hS.F ht⟩) hS.2.2 dX12_reckon_155
set_option maxHeartbeats 4000000 in
set_option maxRecDepth 100000 in
theorem t_X12_run (l : Launch) (dC : Nat → ClassId) (dI : Nat → Nat → Nat) (sz : Nat) (κ : Nat → ClassId) (τ ν : Nat → Nat) (ρ : Nat → Nat → Nat) (L : List Nat) (f : Nat → va_E) (hG : tp_G τ ν ρ L) (hT : tp_T (mo_O κ) κ τ ν ρ f) (h0 : Nat) (uc : Int32) (v : Int32) (u : Int32) (x : Int) (b : Int) (qc : Int) (ht_h0 : τ h0 = 13) (hL_uc : uc.toInt = 2251 + 864 * qc) (hq_uc : 0 ≤ qc ∧ qc ≤ 11) (hJ : mo_RI x b (mo_R (mo_i (f (ρ h0 2))))) (hb9 : 0 ≤ v.toInt ∧ v.toInt ≤ u.toInt ∧ u.toInt ≤ 400) (hw : mo_WF (fun j => (mo_R (mo_i (f (ρ h0 2)))) (2251 + 864 * qc + j)) v.toInt u.toInt) : Met l yX12_run wsX12_run ({ frames := 4, cells := 0, slots := 0, locals := 1200 }) (va_Pc [.ref h0, .int uc, .int v, .int u] (pz_B dC dI (tp_K κ) (va_pl L f) sz)) (va_Qv (fun (f1 : Nat → va_E) => tp_T (mo_O κ) κ τ ν ρ f1 ∧ tp_F τ [13, 61] f f1 ∧ True) (fun (f1 : Nat → va_E) (t : State) => pz_E dC dI (tp_K κ) (va_A (va_pl L f) sz) (va_pl L f1) t) (va_A (va_pl L f) sz)) 0 0 (va_A (va_pl L f) sz) := by
  refine Met.ofW (cc := cX12_run) (maxL := 8) (ret := none) (by decide) rfl ?_
  intro p e s m args below meth c s₁ B hml hv
  obtain ⟨rfl, hsz, hP, hK, hD0, hN⟩ := hv
  have hx := B.exec
  have hb := B.bytes
  have hr := B.returns
  have hts := atoms_spec (ws := wsX12_run) B.pre
  have hown : s.vm.findClass RX12 = some m.cls := findClass_of_methodNamed B.named
  have hlocks := B.notSynchronized
  subst hsz
  have hD := hD0.self (sz := s.heap.size)
  generalize hAe : va_A (va_pl L f) s.heap.size = A at hD ⊢
  have hA : ∀ q : Nat, s.heap.size ≤ q → A q := fun q h => by rw [← hAe]; exact Or.inr h
  have hS : va_S A s.heap s.heap [] := va_S.rf
  have hR : tp_F τ [13, 61] f f := tp_F.rf
  have hl := lv_entry ([.ref h0, .int uc, .int v, .int u]) (n := 8) (Nat.le_of_ble_eq_true rfl)
  rw [lg_entry_eq]
  generalize (lg_sl ([.ref h0, .int uc, .int v, .int u]) ++ List.replicate (8 - (lg_sl ([.ref h0, .int uc, .int v, .int u])).length) Slot.unset).toArray = ls at hl ⊢
  have hl : lv_has ls 8 [(0, .ref h0), (1, .int uc), (2, .int v), (3, .int u)] := hl
  have hfX12 : ∀ w ∈ wsX120, w ∈ wsX12_run := fun w h => List.mem_cons_of_mem _ (List.mem_append_right _ h)
  obtain ⟨y1, y2, y3, y4, y5, y6, y7, y8, y9, y10, y11, y12, y13, y14, y15, y16, y17, y18, y19, y20, y21, y22, y23, y24, y25⟩ := tpg_13 hG ht_h0
  obtain ⟨g27, hf_o26⟩ := tpo_32 hT y1
  have hI : mo_RI x b (mo_R g27) := by have q9 := hJ; rw [hf_o26, mo_i1] at q9; exact q9
  rw [hf_o26, mo_i1] at hw
  obtain ⟨dd, hd0, hd⟩ := hw.row
  refine lv_aload_n hx hb dX12_run_0 rfl (lv_at hl 0 rfl) ?_
  refine lv_iconst (v := 0) hx hb dX12_run_1 (by decide) ?_
  obtain ⟨o28_x0, o28_x1, o28_x7, o28_x9, o28_x10, o28_x11, o28_x12, o28_x13, o28_x14, o28_x15, o28_x16, o28_x17, o28_x18, o28_x19, o28_x20, o28_x22, o28_x25, o28_x28, o28_x29, o28_x32, o28_x33, o28_x34, o28_x35, o28_x36, o28_x37, o28_x38, o28_x47, o28_x48, hf_o28, ro28_0, ro28_1, ro28_2, ro28_3, ro28_4, ro28_5, ro28_6, ro28_7, ro28_8, ro28_9, ro28_10, ro28_11, ro28_12, ro28_13⟩ := tpo_13 hT ht_h0
  obtain ⟨q29, eq29⟩ := tp_pos (tp_in hG ht_h0 (by decide)) hf_o28
  refine va_put (D := (dC, dI)) (ci := 12) (v := .int 0) (ty := .boolean) (C := RX12) (T := TX12) (N := 53) hx hb hts hfX12 tyX12 tyX12_ok nmX12 hown hK hP hD hS q29 eq29 rfl 32 (by decide) (hts (.fieldLink RX12 440 "ColdShipsModel" "broken" "Z") (by decide +kernel)) (fun _ h9 => h9) rfl (by decide +kernel) rfl rfl (Nat.le_of_ble_eq_true rfl) dX12_run_2 (tp_k (.inr (12, [.int o28_x0, .int o28_x1, .ref (ρ h0 2), .ref (ρ h0 3), .ref (ρ h0 4), .ref (ρ h0 5), .ref (ρ h0 6), .int o28_x7, .ref (ρ h0 8), .int o28_x9, .int o28_x10, .int o28_x11, .int o28_x12, .long o28_x13, .int o28_x14, .int o28_x15, .int o28_x16, .int o28_x17, .int o28_x18, .int o28_x19, .int o28_x20, .ref (ρ h0 21), .int o28_x22, .ref (ρ h0 23), .ref (ρ h0 24), .int o28_x25, .ref (ρ h0 26), .ref (ρ h0 27), .int o28_x28, .int o28_x29, .ref (ρ h0 30), .ref (ρ h0 31), .int 0, .long o28_x33, .long o28_x34, .long o28_x35, .int o28_x36, .int o28_x37, .int o28_x38, .ref (ρ h0 39), .ref (ρ h0 40), .ref (ρ h0 41), .ref (ρ h0 42), .ref (ρ h0 43), .ref (ρ h0 44), .ref (ρ h0 45), .ref (ρ h0 46), .int o28_x47, .int o28_x48, .ref (ρ h0 49), .ref (ρ h0 50), .ref (ρ h0 51), .ref (ρ h0 52)])) hD (tp_in hG ht_h0 (by decide)) eq29 (fun f30 H locs hP hD hS g32 k31 => ?_))
  have hT := hT.up ht_h0 g32 k31 ⟨_, _, _, _, _, _, _, _, _, _, _, _, _, _, _, _, _, _, _, _, _, _, _, _, _, _, _, _, rfl, ro28_0, ro28_1, ro28_2, ro28_3, ro28_4, ro28_5, ro28_6, ro28_7, ro28_8, ro28_9, (by decide), ro28_11, ro28_12, ro28_13⟩
  have hR := hR.up ht_h0 (by decide) k31
  refine lv_iconst (v := 0) hx hb dX12_run_5 (by decide) ?_
  refine lv_istore (lv' := [(4, .int 0), (0, .ref h0), (1, .int uc), (2, .int v), (3, .int u)]) hx hb dX12_run_6 hl (by decide) rfl (fun ls hl => ?_)
  refine lv_iload_n hx hb dX12_run_8 rfl (lv_at hl 3 rfl) ?_
  refine lv_istore (lv' := [(5, .int v), (4, .int 0), (0, .ref h0), (1, .int uc), (2, .int v), (3, .int u)]) hx hb dX12_run_9 hl (by decide) rfl (fun ls hl => ?_)
  have hf_33 : f30 (ρ h0 2) = .inl (κ 0, 12967, .inl g27) := (k31 _ (tp_ne y1 ht_h0 (by decide))).trans hf_o26
  refine pz_loop (fun n0 H locs ls => ∃ f40 : Nat → va_E, ∃ w34 : Int32, ∃ w35 : Int32, n0 = (400 - (w34.toInt)).toNat ∧ tp_T (mo_O κ) κ τ ν ρ f40 ∧ tp_F τ [13, 61] f f40 ∧ f40 (ρ h0 2) = .inl (κ 0, 12967, .inl g27) ∧ (0 ≤ w34.toInt ∧ w34.toInt ≤ 400) ∧ (0 ≤ w35.toInt ∧ w35.toInt ≤ 400) ∧ (v.toInt ≤ (w34.toInt)) ∧ ((w34.toInt) ≤ u.toInt) ∧ ((w35.toInt) = dd (w34.toInt)) ∧ va_P (dC, dI) vwCl (va_pl L f40) H ∧ va_D A (va_pl L f40) ∧ va_S A s.heap H locs ∧ lv_has ls 8 [(5, .int w34), (4, .int w35), (0, .ref h0), (1, .int uc), (2, .int v), (3, .int u)]) ?_ _ _ _ _ ⟨f30, v, 0, rfl, hT, hR, hf_33, (by have : (0 : Int32).toInt = 0 := rfl; omega), (by have : (0 : Int32).toInt = 0 := rfl; omega), (by have : (0 : Int32).toInt = 0 := rfl; omega), (by have : (0 : Int32).toInt = 0 := rfl; omega), (by first | (have : (0 : Int32).toInt = 0 := rfl; have q9 := hd0; omega)), hP, hD, hS, lv_sub hl [0, 1, 2, 3, 4, 5] rfl⟩
  intro n0 H locs ls hI ih42
  obtain ⟨f40, w34, w35, hn43, hT, hR, hk39k, rw34, rw35, k36, k37, k38, hP, hD, hS, hl⟩ := hI
  refine lv_iload hx hb dX12_run_11 (lv_at hl 0 rfl) ?_
  refine lv_iload_n hx hb dX12_run_13 rfl (lv_at hl 5 rfl) ?_
  refine tp_join 248 (fun H locs ls stk => stk = [] ∧ va_P (dC, dI) vwCl (va_pl L f40) H ∧ va_D A (va_pl L f40) ∧ va_S A s.heap H locs ∧ lv_has ls 8 [(5, .int w34), (4, .int w35), (0, .ref h0), (1, .int uc), (2, .int v), (3, .int u)]) ?_ (fun hj44 => ?_)
  · intro H locs ls stk hI
    obtain ⟨rfl, hP, hD, hS, hl⟩ := hI
    refine lv_aload_n hx hb dX12_run_248 rfl (lv_at hl 2 rfl) ?_
    refine lv_iload hx hb dX12_run_249 (lv_at hl 1 rfl) ?_
    refine lv_if_le (tgt := 263) hx hb dX12_run_251 (by decide) (fun c45 => ?_) (fun c45 => ?_)
    · have ic45 : w35.toInt ≤ 0 := zi_le rfl rfl c45
      refine lv_lconst (v := 0) hx hb dX12_run_263 (by decide) ?_
      obtain ⟨o46_x0, o46_x1, o46_x7, o46_x9, o46_x10, o46_x11, o46_x12, o46_x13, o46_x14, o46_x15, o46_x16, o46_x17, o46_x18, o46_x19, o46_x20, o46_x22, o46_x25, o46_x28, o46_x29, o46_x32, o46_x33, o46_x34, o46_x35, o46_x36, o46_x37, o46_x38, o46_x47, o46_x48, hf_o46, ro46_0, ro46_1, ro46_2, ro46_3, ro46_4, ro46_5, ro46_6, ro46_7, ro46_8, ro46_9, ro46_10, ro46_11, ro46_12, ro46_13⟩ := tpo_13 hT ht_h0
      obtain ⟨q47, eq47⟩ := tp_pos (tp_in hG ht_h0 (by decide)) hf_o46
      refine va_put (D := (dC, dI)) (ci := 12) (v := .long 0) (ty := .long) (C := RX12) (T := TX12) (N := 53) hx hb hts hfX12 tyX12 tyX12_ok nmX12 hown hK hP hD hS q47 eq47 rfl 33 (by decide) (hts (.fieldLink RX12 449 "ColdShipsModel" "value" "J") (by decide +kernel)) (fun _ h9 => h9) rfl (by decide +kernel) rfl rfl (Nat.le_of_ble_eq_true rfl) dX12_run_264 (tp_k (.inr (12, [.int o46_x0, .int o46_x1, .ref (ρ h0 2), .ref (ρ h0 3), .ref (ρ h0 4), .ref (ρ h0 5), .ref (ρ h0 6), .int o46_x7, .ref (ρ h0 8), .int o46_x9, .int o46_x10, .int o46_x11, .int o46_x12, .long o46_x13, .int o46_x14, .int o46_x15, .int o46_x16, .int o46_x17, .int o46_x18, .int o46_x19, .int o46_x20, .ref (ρ h0 21), .int o46_x22, .ref (ρ h0 23), .ref (ρ h0 24), .int o46_x25, .ref (ρ h0 26), .ref (ρ h0 27), .int o46_x28, .int o46_x29, .ref (ρ h0 30), .ref (ρ h0 31), .int o46_x32, .long 0, .long o46_x34, .long o46_x35, .int o46_x36, .int o46_x37, .int o46_x38, .ref (ρ h0 39), .ref (ρ h0 40), .ref (ρ h0 41), .ref (ρ h0 42), .ref (ρ h0 43), .ref (ρ h0 44), .ref (ρ h0 45), .ref (ρ h0 46), .int o46_x47, .int o46_x48, .ref (ρ h0 49), .ref (ρ h0 50), .ref (ρ h0 51), .ref (ρ h0 52)])) hD (tp_in hG ht_h0 (by decide)) eq47 (fun f48 H locs hP hD hS g50 k49 => ?_))
      have hT := hT.up ht_h0 g50 k49 ⟨_, _, _, _, _, _, _, _, _, _, _, _, _, _, _, _, _, _, _, _, _, _, _, _, _, _, _, _, rfl, ro46_0, ro46_1, ro46_2, ro46_3, ro46_4, ro46_5, ro46_6, ro46_7, ro46_8, ro46_9, ro46_10, ro46_11, ro46_12, ro46_13⟩
      have hR := hR.up ht_h0 (by decide) k49
      exact W.vret hx hb hr (fun t ht hW => ⟨⟨f48, rfl, ⟨hT, hR, trivial⟩, by rw [ht]; exact hP, va_K.moved hW.alike hK, hD⟩, hS.F ht⟩) hS.2.2 dX12_run_267
    · have ic45 : w35.toInt > 0 := zi_lef rfl rfl c45
      refine lv_aload_n hx hb dX12_run_254 rfl (lv_at hl 2 rfl) ?_
      obtain ⟨o51_x0, o51_x1, o51_x7, o51_x9, o51_x10, o51_x11, o51_x12, o51_x13, o51_x14, o51_x15, o51_x16, o51_x17, o51_x18, o51_x19, o51_x20, o51_x22, o51_x25, o51_x28, o51_x29, o51_x32, o51_x33, o51_x34, o51_x35, o51_x36, o51_x37, o51_x38, o51_x47, o51_x48, hf_o51, ro51_0, ro51_1, ro51_2, ro51_3, ro51_4, ro51_5, ro51_6, ro51_7, ro51_8, ro51_9, ro51_10, ro51_11, ro51_12, ro51_13⟩ := tpo_13 hT ht_h0
      obtain ⟨q52, eq52⟩ := tp_pos (tp_in hG ht_h0 (by decide)) hf_o51
      refine va_get (D := (dC, dI)) (ci := 12) (v := .ref (ρ h0 31)) (C := RX12) (T := TX12) (N := 53) hx hb hts hfX12 hown hK hP q52 eq52 rfl 31 (by decide) (hts (.fieldLink RX12 52 "ColdShipsModel" "rest" "[J") (by decide +kernel)) (fun _ h9 => h9) rfl dX12_run_255 ?_
      refine lv_iconst (v := 0) hx hb dX12_run_258 (by decide) ?_
      obtain ⟨g54, hf_o53⟩ := tpo_61 hT y13
      obtain ⟨q55, eq55⟩ := tp_pos (tp_in hG y13 (by decide)) hf_o53
      refine va_lald hx hb hK hP q55 1 eq55 rfl (vp_in_iff.mpr ⟨by decide, by decide⟩) dX12_run_259 ?_
      refine lv_topl (fun z56 ez56 => ?_)
      refine lv_goto (tgt := 264) hx hb dX12_run_260 (by decide) ?_
      refine va_put (D := (dC, dI)) (ci := 12) (v := .long z56) (ty := .long) (C := RX12) (T := TX12) (N := 53) hx hb hts hfX12 tyX12 tyX12_ok nmX12 hown hK hP hD hS q52 eq52 rfl 33 (by decide) (hts (.fieldLink RX12 449 "ColdShipsModel" "value" "J") (by decide +kernel)) (fun _ h9 => h9) rfl (by decide +kernel) rfl rfl (Nat.le_of_ble_eq_true rfl) dX12_run_264 (tp_k (.inr (12, [.int o51_x0, .int o51_x1, .ref (ρ h0 2), .ref (ρ h0 3), .ref (ρ h0 4), .ref (ρ h0 5), .ref (ρ h0 6), .int o51_x7, .ref (ρ h0 8), .int o51_x9, .int o51_x10, .int o51_x11, .int o51_x12, .long o51_x13, .int o51_x14, .int o51_x15, .int o51_x16, .int o51_x17, .int o51_x18, .int o51_x19, .int o51_x20, .ref (ρ h0 21), .int o51_x22, .ref (ρ h0 23), .ref (ρ h0 24), .int o51_x25, .ref (ρ h0 26), .ref (ρ h0 27), .int o51_x28, .int o51_x29, .ref (ρ h0 30), .ref (ρ h0 31), .int o51_x32, .long z56, .long o51_x34, .long o51_x35, .int o51_x36, .int o51_x37, .int o51_x38, .ref (ρ h0 39), .ref (ρ h0 40), .ref (ρ h0 41), .ref (ρ h0 42), .ref (ρ h0 43), .ref (ρ h0 44), .ref (ρ h0 45), .ref (ρ h0 46), .int o51_x47, .int o51_x48, .ref (ρ h0 49), .ref (ρ h0 50), .ref (ρ h0 51), .ref (ρ h0 52)])) hD (tp_in hG ht_h0 (by decide)) eq52 (fun f57 H locs hP hD hS g59 k58 => ?_))
      have hT := hT.up ht_h0 g59 k58 ⟨_, _, _, _, _, _, _, _, _, _, _, _, _, _, _, _, _, _, _, _, _, _, _, _, _, _, _, _, rfl, ro51_0, ro51_1, ro51_2, ro51_3, ro51_4, ro51_5, ro51_6, ro51_7, ro51_8, ro51_9, ro51_10, ro51_11, ro51_12, ro51_13⟩
      have hR := hR.up ht_h0 (by decide) k58
      exact W.vret hx hb hr (fun t ht hW => ⟨⟨f57, rfl, ⟨hT, hR, trivial⟩, by rw [ht]; exact hP, va_K.moved hW.alike hK, hD⟩, hS.F ht⟩) hS.2.2 dX12_run_267
  · refine lv_icmp_ge (tgt := 248) hx hb dX12_run_14 (by decide) (fun c60 => ?_) (fun c60 => ?_)
    · have ic60 : w34.toInt ≥ u.toInt := zi_ge rfl rfl c60
      exact hj44 _ _ _ _ ⟨rfl, hP, hD, hS, lv_sub hl [0, 1, 2, 3, 4, 5] rfl⟩
    · have ic60 : w34.toInt < u.toInt := zi_gef rfl rfl c60
      refine lv_aload_n hx hb dX12_run_17 rfl (lv_at hl 2 rfl) ?_
      obtain ⟨o61_x0, o61_x1, o61_x7, o61_x9, o61_x10, o61_x11, o61_x12, o61_x13, o61_x14, o61_x15, o61_x16, o61_x17, o61_x18, o61_x19, o61_x20, o61_x22, o61_x25, o61_x28, o61_x29, o61_x32, o61_x33, o61_x34, o61_x35, o61_x36, o61_x37, o61_x38, o61_x47, o61_x48, hf_o61, ro61_0, ro61_1, ro61_2, ro61_3, ro61_4, ro61_5, ro61_6, ro61_7, ro61_8, ro61_9, ro61_10, ro61_11, ro61_12, ro61_13⟩ := tpo_13 hT ht_h0
      obtain ⟨q62, eq62⟩ := tp_pos (tp_in hG ht_h0 (by decide)) hf_o61
      refine va_get (D := (dC, dI)) (ci := 12) (v := .int o61_x32) (C := RX12) (T := TX12) (N := 53) hx hb hts hfX12 hown hK hP q62 eq62 rfl 32 (by decide) (hts (.fieldLink RX12 440 "ColdShipsModel" "broken" "Z") (by decide +kernel)) (fun _ h9 => h9) rfl dX12_run_18 ?_
      refine lv_if_ne (tgt := 248) hx hb dX12_run_21 (by decide) (fun c63 => ?_) (fun c63 => ?_)
      · have ic63 : o61_x32.toInt ≠ 0 := zi_ne rfl rfl c63
        exact hj44 _ _ _ _ ⟨rfl, hP, hD, hS, lv_sub hl [0, 1, 2, 3, 4, 5] rfl⟩
      · have ic63 : o61_x32.toInt = 0 := zi_nef rfl rfl c63
        have hk9 := hd w34.toInt (by omega) (by omega)
        refine lv_aload_n hx hb dX12_run_24 rfl (lv_at hl 2 rfl) ?_
        refine va_get (D := (dC, dI)) (ci := 12) (v := .ref (ρ h0 2)) (C := RX12) (T := TX12) (N := 53) hx hb hts hfX12 hown hK hP q62 eq62 rfl 2 (by decide) (hts (.fieldLink RX12 7 "ColdShipsModel" "row" "[I") (by decide +kernel)) (fun _ h9 => h9) rfl dX12_run_25 ?_
        refine lv_iload_n hx hb dX12_run_28 rfl (lv_at hl 3 rfl) ?_
        refine lv_bipush (v := 64) hx hb dX12_run_29 (by decide) ?_
        refine lv_iadd hx hb dX12_run_31 ?_
        refine lv_topi (fun z64 ez64 => ?_)
        have iz64 : z64.toInt = uc.toInt + 64 := zi_add ez64 rfl rfl (by omega) (by omega)
        refine lv_iconst (v := 2) hx hb dX12_run_32 (by decide) ?_
        refine lv_iload hx hb dX12_run_33 (lv_at hl 0 rfl) ?_
        refine lv_imul hx hb dX12_run_35 ?_
        refine lv_topi (fun z65 ez65 => ?_)
        have iz65 : z65.toInt = 2 * w34.toInt := zi_mul ez65 rfl rfl (by omega) (by omega)
        refine lv_iadd hx hb dX12_run_36 ?_
        refine lv_topi (fun z66 ez66 => ?_)
        have iz66 : z66.toInt = z64.toInt + z65.toInt := zi_add ez66 rfl rfl (by omega) (by omega)
        obtain ⟨q67, eq67⟩ := tp_pos (tp_in hG y1 (by decide)) hk39k
        refine va_iald hx hb hK hP q67 0 eq67 rfl (vp_in_iff.mpr ⟨by omega, by omega⟩) dX12_run_37 ?_
        refine lv_topi (fun z68 ez68 => ?_)
        have jz68 : z68.toInt = mo_R g27 (2251 + 864 * qc + 64 + 2 * w34.toInt) := mo_rd ez68 (by omega)
        refine lv_istore (lv' := [(6, .int z68), (5, .int w34), (4, .int w35), (0, .ref h0), (1, .int uc), (2, .int v), (3, .int u)]) hx hb dX12_run_38 hl (by decide) rfl (fun ls hl => ?_)
        refine lv_aload_n hx hb dX12_run_40 rfl (lv_at hl 3 rfl) ?_
        refine va_get (D := (dC, dI)) (ci := 12) (v := .ref (ρ h0 2)) (C := RX12) (T := TX12) (N := 53) hx hb hts hfX12 hown hK hP q62 eq62 rfl 2 (by decide) (hts (.fieldLink RX12 7 "ColdShipsModel" "row" "[I") (by decide +kernel)) (fun _ h9 => h9) rfl dX12_run_41 ?_
        refine lv_iload_n hx hb dX12_run_44 rfl (lv_at hl 4 rfl) ?_
        refine lv_bipush (v := 64) hx hb dX12_run_45 (by decide) ?_
        refine lv_iadd hx hb dX12_run_47 ?_
        refine lv_topi (fun z69 ez69 => ?_)
        have iz69 : z69.toInt = uc.toInt + 64 := zi_add ez69 rfl rfl (by omega) (by omega)
        refine lv_iconst (v := 2) hx hb dX12_run_48 (by decide) ?_
        refine lv_iload hx hb dX12_run_49 (lv_at hl 1 rfl) ?_
        refine lv_imul hx hb dX12_run_51 ?_
        refine lv_topi (fun z70 ez70 => ?_)
        have iz70 : z70.toInt = 2 * w34.toInt := zi_mul ez70 rfl rfl (by omega) (by omega)
        refine lv_iadd hx hb dX12_run_52 ?_
        refine lv_topi (fun z71 ez71 => ?_)
        have iz71 : z71.toInt = z69.toInt + z70.toInt := zi_add ez71 rfl rfl (by omega) (by omega)
        refine lv_iconst (v := 1) hx hb dX12_run_53 (by decide) ?_
        refine lv_iadd hx hb dX12_run_54 ?_
        refine lv_topi (fun z72 ez72 => ?_)
        have iz72 : z72.toInt = z71.toInt + 1 := zi_add ez72 rfl rfl (by omega) (by omega)
        refine va_iald hx hb hK hP q67 0 eq67 rfl (vp_in_iff.mpr ⟨by omega, by omega⟩) dX12_run_55 ?_
        refine lv_topi (fun z73 ez73 => ?_)
        have jz73 : z73.toInt = mo_R g27 (2251 + 864 * qc + 65 + 2 * w34.toInt) := mo_rd ez73 (by omega)
        refine lv_istore (lv' := [(7, .int z73), (6, .int z68), (5, .int w34), (4, .int w35), (0, .ref h0), (1, .int uc), (2, .int v), (3, .int u)]) hx hb dX12_run_56 hl (by decide) rfl (fun ls hl => ?_)
        obtain ⟨z74, ez74⟩ : ∃ y : Int32, y = w34 + 1 := ⟨_, rfl⟩
        refine lv_iinc (v := z74) (lv' := [(5, .int z74), (7, .int z73), (6, .int z68), (4, .int w35), (0, .ref h0), (1, .int uc), (2, .int v), (3, .int u)]) hx hb dX12_run_58 hl (k := 2) rfl (by rw [ez74]; rfl) (by decide) rfl (fun ls hl => ?_)
        have iz74 : z74.toInt = w34.toInt + 1 := zi_add ez74 rfl rfl (by omega) (by omega)
        refine lv_iload hx hb dX12_run_61 (lv_at hl 2 rfl) ?_
        refine lv_bipush (v := 10) hx hb dX12_run_63 (by decide) ?_
        refine lv_icmp_ge (tgt := 99) hx hb dX12_run_65 (by decide) (fun c75 => ?_) (fun c75 => ?_)
        · have ic75 : z68.toInt ≥ 10 := zi_ge rfl rfl c75
          refine lv_iload hx hb dX12_run_99 (lv_at hl 2 rfl) ?_
          refine lv_bipush (v := 17) hx hb dX12_run_101 (by decide) ?_
          refine lv_icmp_ge (tgt := 180) hx hb dX12_run_103 (by decide) (fun c76 => ?_) (fun c76 => ?_)
          · have ic76 : z68.toInt ≥ 17 := zi_ge rfl rfl c76
            refine lv_iload hx hb dX12_run_180 (lv_at hl 2 rfl) ?_
            refine lv_bipush (v := 17) hx hb dX12_run_182 (by decide) ?_
            refine lv_icmp_ne (tgt := 210) hx hb dX12_run_184 (by decide) (fun c77 => ?_) (fun c77 => ?_)
            · have ic77 : z68.toInt ≠ 17 := zi_ne rfl rfl c77
              refine lv_aload_n hx hb dX12_run_210 rfl (lv_at hl 4 rfl) ?_
              refine va_get (D := (dC, dI)) (ci := 12) (v := .ref (ρ h0 31)) (C := RX12) (T := TX12) (N := 53) hx hb hts hfX12 hown hK hP q62 eq62 rfl 31 (by decide) (hts (.fieldLink RX12 52 "ColdShipsModel" "rest" "[J") (by decide +kernel)) (fun _ h9 => h9) rfl dX12_run_211 ?_
              refine lv_iload hx hb dX12_run_214 (lv_at hl 3 rfl) ?_
              refine lv_iconst (v := 1) hx hb dX12_run_216 (by decide) ?_
              refine lv_isub hx hb dX12_run_217 ?_
              refine lv_topi (fun z78 ez78 => ?_)
              have iz78 : z78.toInt = w35.toInt - 1 := zi_sub ez78 rfl rfl (by omega) (by omega)
              obtain ⟨g80, hf_o79⟩ := tpo_61 hT y13
              obtain ⟨q81, eq81⟩ := tp_pos (tp_in hG y13 (by decide)) hf_o79
              refine va_lald hx hb hK hP q81 1 eq81 rfl (vp_in_iff.mpr ⟨by omega, by omega⟩) dX12_run_218 ?_
              refine lv_topl (fun z82 ez82 => ?_)
              refine lv_iload hx hb dX12_run_219 (lv_at hl 2 rfl) ?_
              refine lv_bipush (v := 18) hx hb dX12_run_221 (by decide) ?_
              refine lv_icmp_ne (tgt := 230) hx hb dX12_run_223 (by decide) (fun c83 => ?_) (fun c83 => ?_)
              · have ic83 : z68.toInt ≠ 18 := zi_ne rfl rfl c83
                refine lv_lconst (v := 1) hx hb dX12_run_230 (by decide) ?_
                refine W.lcmp hx hb dX12_run_231 ?_
                refine lv_if_ne (tgt := 242) hx hb dX12_run_232 (by decide) (fun c84 => ?_) (fun c84 => ?_)
                · have ic84 : z82.toInt ≠ 1 := zl_ne rfl rfl c84
                  obtain ⟨z85, ez85⟩ : ∃ y : Int32, y = w35 + (-1) := ⟨_, rfl⟩
                  refine lv_iinc (v := z85) (lv' := [(4, .int z85), (5, .int z74), (7, .int z73), (6, .int z68), (0, .ref h0), (1, .int uc), (2, .int v), (3, .int u)]) hx hb dX12_run_242 hl (k := 3) rfl (by rw [ez85]; rfl) (by decide) rfl (fun ls hl => ?_)
                  have iz85 : z85.toInt = w35.toInt + (-1) := zi_add ez85 rfl rfl (by omega) (by omega)
                  refine lv_goto (tgt := 11) hx hb dX12_run_245 (by decide) ?_
                  exact ih42 _ _ _ _ (by rw [hn43]; omega) ⟨f40, z74, z85, rfl, hT, hR, hk39k, (by omega), (by omega), (by omega), (by omega), (by first | (omega) | (have q9 := congrArg dd (show z74.toInt = w34.toInt + 1 by omega); omega) | (have q9 := congrArg dd (show z74.toInt = mo_R g27 (2251 + 864 * qc + 65 + 2 * w34.toInt) by omega); omega)), hP, hD, hS, lv_sub hl [1, 0, 4, 5, 6, 7] rfl⟩
                · have ic84 : z82.toInt = 1 := zl_nef rfl rfl c84
                  refine lv_iload hx hb dX12_run_235 (lv_at hl 1 rfl) ?_
                  refine lv_istore (lv' := [(5, .int z73), (7, .int z73), (6, .int z68), (4, .int w35), (0, .ref h0), (1, .int uc), (2, .int v), (3, .int u)]) hx hb dX12_run_237 hl (by decide) rfl (fun ls hl => ?_)
                  refine lv_goto (tgt := 245) hx hb dX12_run_239 (by decide) ?_
                  refine lv_goto (tgt := 11) hx hb dX12_run_245 (by decide) ?_
                  exact ih42 _ _ _ _ (by rw [hn43]; omega) ⟨f40, z73, w35, rfl, hT, hR, hk39k, (by omega), (by omega), (by omega), (by omega), (by first | (omega) | (have q9 := congrArg dd (show z73.toInt = w34.toInt + 1 by omega); omega) | (have q9 := congrArg dd (show z73.toInt = mo_R g27 (2251 + 864 * qc + 65 + 2 * w34.toInt) by omega); omega)), hP, hD, hS, lv_sub hl [0, 3, 4, 5, 6, 7] rfl⟩
              · have ic83 : z68.toInt = 18 := zi_nef rfl rfl c83
                refine lv_lconst (v := 0) hx hb dX12_run_226 (by decide) ?_
                refine lv_goto (tgt := 231) hx hb dX12_run_227 (by decide) ?_
                refine W.lcmp hx hb dX12_run_231 ?_
                refine lv_if_ne (tgt := 242) hx hb dX12_run_232 (by decide) (fun c86 => ?_) (fun c86 => ?_)
                · have ic86 : z82.toInt ≠ 0 := zl_ne rfl rfl c86
                  obtain ⟨z87, ez87⟩ : ∃ y : Int32, y = w35 + (-1) := ⟨_, rfl⟩
                  refine lv_iinc (v := z87) (lv' := [(4, .int z87), (5, .int z74), (7, .int z73), (6, .int z68), (0, .ref h0), (1, .int uc), (2, .int v), (3, .int u)]) hx hb dX12_run_242 hl (k := 3) rfl (by rw [ez87]; rfl) (by decide) rfl (fun ls hl => ?_)
                  have iz87 : z87.toInt = w35.toInt + (-1) := zi_add ez87 rfl rfl (by omega) (by omega)
                  refine lv_goto (tgt := 11) hx hb dX12_run_245 (by decide) ?_
                  exact ih42 _ _ _ _ (by rw [hn43]; omega) ⟨f40, z74, z87, rfl, hT, hR, hk39k, (by omega), (by omega), (by omega), (by omega), (by first | (omega) | (have q9 := congrArg dd (show z74.toInt = w34.toInt + 1 by omega); omega) | (have q9 := congrArg dd (show z74.toInt = mo_R g27 (2251 + 864 * qc + 65 + 2 * w34.toInt) by omega); omega)), hP, hD, hS, lv_sub hl [1, 0, 4, 5, 6, 7] rfl⟩
                · have ic86 : z82.toInt = 0 := zl_nef rfl rfl c86
                  refine lv_iload hx hb dX12_run_235 (lv_at hl 1 rfl) ?_
                  refine lv_istore (lv' := [(5, .int z73), (7, .int z73), (6, .int z68), (4, .int w35), (0, .ref h0), (1, .int uc), (2, .int v), (3, .int u)]) hx hb dX12_run_237 hl (by decide) rfl (fun ls hl => ?_)
                  refine lv_goto (tgt := 245) hx hb dX12_run_239 (by decide) ?_
                  refine lv_goto (tgt := 11) hx hb dX12_run_245 (by decide) ?_
                  exact ih42 _ _ _ _ (by rw [hn43]; omega) ⟨f40, z73, w35, rfl, hT, hR, hk39k, (by omega), (by omega), (by omega), (by omega), (by first | (omega) | (have q9 := congrArg dd (show z73.toInt = w34.toInt + 1 by omega); omega) | (have q9 := congrArg dd (show z73.toInt = mo_R g27 (2251 + 864 * qc + 65 + 2 * w34.toInt) by omega); omega)), hP, hD, hS, lv_sub hl [0, 3, 4, 5, 6, 7] rfl⟩
            · have ic77 : z68.toInt = 17 := zi_nef rfl rfl c77
              refine lv_aload_n hx hb dX12_run_187 rfl (lv_at hl 4 rfl) ?_
              refine va_get (D := (dC, dI)) (ci := 12) (v := .ref (ρ h0 31)) (C := RX12) (T := TX12) (N := 53) hx hb hts hfX12 hown hK hP q62 eq62 rfl 31 (by decide) (hts (.fieldLink RX12 52 "ColdShipsModel" "rest" "[J") (by decide +kernel)) (fun _ h9 => h9) rfl dX12_run_188 ?_
              refine lv_iload hx hb dX12_run_191 (lv_at hl 3 rfl) ?_
              refine lv_iconst (v := 1) hx hb dX12_run_193 (by decide) ?_
              refine lv_isub hx hb dX12_run_194 ?_
              refine lv_topi (fun z88 ez88 => ?_)
              have iz88 : z88.toInt = w35.toInt - 1 := zi_sub ez88 rfl rfl (by omega) (by omega)
              refine lv_lconst (v := 1) hx hb dX12_run_195 (by decide) ?_
              refine lv_aload_n hx hb dX12_run_196 rfl (lv_at hl 4 rfl) ?_
              refine va_get (D := (dC, dI)) (ci := 12) (v := .ref (ρ h0 31)) (C := RX12) (T := TX12) (N := 53) hx hb hts hfX12 hown hK hP q62 eq62 rfl 31 (by decide) (hts (.fieldLink RX12 52 "ColdShipsModel" "rest" "[J") (by decide +kernel)) (fun _ h9 => h9) rfl dX12_run_197 ?_
              refine lv_iload hx hb dX12_run_200 (lv_at hl 3 rfl) ?_
              refine lv_iconst (v := 1) hx hb dX12_run_202 (by decide) ?_
              refine lv_isub hx hb dX12_run_203 ?_
              refine lv_topi (fun z89 ez89 => ?_)
              have iz89 : z89.toInt = w35.toInt - 1 := zi_sub ez89 rfl rfl (by omega) (by omega)
              obtain ⟨g91, hf_o90⟩ := tpo_61 hT y13
              obtain ⟨q92, eq92⟩ := tp_pos (tp_in hG y13 (by decide)) hf_o90
              refine va_lald hx hb hK hP q92 1 eq92 rfl (vp_in_iff.mpr ⟨by omega, by omega⟩) dX12_run_204 ?_
              refine lv_topl (fun z93 ez93 => ?_)
              refine lv_lsub hx hb dX12_run_205 ?_
              refine lv_topl (fun z94 ez94 => ?_)
              refine va_last hx hb hK hP hD hS q92 1 eq92 rfl (vp_in_iff.mpr ⟨by omega, by omega⟩) dX12_run_206 (tp_k (.inl (κ 1, 400, .inr (.inl (vp_updL g91 z88.toNatClampNeg z94)))) hD (tp_in hG y13 (by decide)) eq92 (fun f95 H locs hP hD hS g97 k96 => ?_))
              have hT := hT.up y13 g97 k96 tp_o61
              have hR := hR.up y13 (by decide) k96
              generalize (vp_updL g91 z88.toNatClampNeg z94) = g98 at g97
              refine lv_goto (tgt := 245) hx hb dX12_run_207 (by decide) ?_
              refine lv_goto (tgt := 11) hx hb dX12_run_245 (by decide) ?_
              have hf_99 : f95 (ρ h0 2) = .inl (κ 0, 12967, .inl g27) := (k96 _ (tp_ne y1 y13 (by decide))).trans hk39k
              exact ih42 _ _ _ _ (by rw [hn43]; omega) ⟨f95, z74, w35, rfl, hT, hR, hf_99, (by omega), (by omega), (by omega), (by omega), (by first | (omega) | (have q9 := congrArg dd (show z74.toInt = w34.toInt + 1 by omega); omega) | (have q9 := congrArg dd (show z74.toInt = mo_R g27 (2251 + 864 * qc + 65 + 2 * w34.toInt) by omega); omega)), hP, hD, hS, lv_sub hl [0, 3, 4, 5, 6, 7] rfl⟩
          · have ic76 : z68.toInt < 17 := zi_gef rfl rfl c76
            obtain ⟨z100, ez100⟩ : ∃ y : Int32, y = w35 + (-1) := ⟨_, rfl⟩
            refine lv_iinc (v := z100) (lv' := [(4, .int z100), (5, .int z74), (7, .int z73), (6, .int z68), (0, .ref h0), (1, .int uc), (2, .int v), (3, .int u)]) hx hb dX12_run_106 hl (k := 3) rfl (by rw [ez100]; rfl) (by decide) rfl (fun ls hl => ?_)
            have iz100 : z100.toInt = w35.toInt + (-1) := zi_add ez100 rfl rfl (by omega) (by omega)
            refine lv_aload_n hx hb dX12_run_109 rfl (lv_at hl 4 rfl) ?_
            refine va_get (D := (dC, dI)) (ci := 12) (v := .ref (ρ h0 31)) (C := RX12) (T := TX12) (N := 53) hx hb hts hfX12 hown hK hP q62 eq62 rfl 31 (by decide) (hts (.fieldLink RX12 52 "ColdShipsModel" "rest" "[J") (by decide +kernel)) (fun _ h9 => h9) rfl dX12_run_110 ?_
            refine lv_iload hx hb dX12_run_113 (lv_at hl 0 rfl) ?_
            refine lv_iconst (v := 1) hx hb dX12_run_115 (by decide) ?_
            refine lv_isub hx hb dX12_run_116 ?_
            refine lv_topi (fun z101 ez101 => ?_)
            have iz101 : z101.toInt = z100.toInt - 1 := zi_sub ez101 rfl rfl (by omega) (by omega)
            refine lv_aload_n hx hb dX12_run_117 rfl (lv_at hl 4 rfl) ?_
            refine lv_iload hx hb dX12_run_118 (lv_at hl 3 rfl) ?_
            refine lv_aload_n hx hb dX12_run_120 rfl (lv_at hl 4 rfl) ?_
            refine va_get (D := (dC, dI)) (ci := 12) (v := .ref (ρ h0 31)) (C := RX12) (T := TX12) (N := 53) hx hb hts hfX12 hown hK hP q62 eq62 rfl 31 (by decide) (hts (.fieldLink RX12 52 "ColdShipsModel" "rest" "[J") (by decide +kernel)) (fun _ h9 => h9) rfl dX12_run_121 ?_
            refine lv_iload hx hb dX12_run_124 (lv_at hl 0 rfl) ?_
            refine lv_iconst (v := 1) hx hb dX12_run_126 (by decide) ?_
            refine lv_isub hx hb dX12_run_127 ?_
            refine lv_topi (fun z102 ez102 => ?_)
            have iz102 : z102.toInt = z100.toInt - 1 := zi_sub ez102 rfl rfl (by omega) (by omega)
            obtain ⟨g104, hf_o103⟩ := tpo_61 hT y13
            obtain ⟨q105, eq105⟩ := tp_pos (tp_in hG y13 (by decide)) hf_o103
            refine va_lald hx hb hK hP q105 1 eq105 rfl (vp_in_iff.mpr ⟨by omega, by omega⟩) dX12_run_128 ?_
            refine lv_topl (fun z106 ez106 => ?_)
            refine lv_aload_n hx hb dX12_run_129 rfl (lv_at hl 4 rfl) ?_
            refine va_get (D := (dC, dI)) (ci := 12) (v := .ref (ρ h0 31)) (C := RX12) (T := TX12) (N := 53) hx hb hts hfX12 hown hK hP q62 eq62 rfl 31 (by decide) (hts (.fieldLink RX12 52 "ColdShipsModel" "rest" "[J") (by decide +kernel)) (fun _ h9 => h9) rfl dX12_run_130 ?_
            refine lv_iload hx hb dX12_run_133 (lv_at hl 0 rfl) ?_
            refine va_lald hx hb hK hP q105 1 eq105 rfl (vp_in_iff.mpr ⟨by omega, by omega⟩) dX12_run_135 ?_
            refine lv_topl (fun z107 ez107 => ?_)
            have hFc := tp_fr hD hS hA
            refine va_calll (va_runV (As := [.int z68, .long z106, .long z107]) (rest := [.int z101, .ref (ρ h0 31)]) ⟨hx, hb, hml, hown, hts⟩ (t_X12_reckon l dC dI _ κ τ ν ρ L f40 hG hT h0 z68 z106 z107 ht_h0) (cwV 3 hts gX12_run_X12_reckon rfl rfl rfl (by decide +kernel) ⟨Nat.le_of_ble_eq_true rfl, Nat.le_of_ble_eq_true rfl⟩) ⟨pz_blind, va_recv hK hP (ci := 12) (q0 := q62) rfl eq62, pz_pre hP hK hD hN⟩ rfl rfl hl.1 rfl (lv_room (Nat.le_of_ble_eq_true rfl)) dX12_run_136 ⟨Nat.le_of_ble_eq_true rfl, Nat.le_of_ble_eq_true rfl⟩) hS (fun q _ h => hFc q h) hFc (fun r108 f110 t H1 locs ht hvm hw109 hB hz1 hk1 hS => ?_)
            obtain ⟨hT, hF111, hw109r, hw109p⟩ := hw109
            have hR := hR.then hF111 (by decide)
            have hP := hB.1; rw [ht] at hP; have hD := tp_ad f110 hD; clear hB hFc hz1 hk1; subst ht; generalize t.heap = H at hP hS ⊢
            have hf_112 : f110 (ρ h0 31) = .inl (κ 1, 400, .inr (.inl g104)) := (hF111 _ (by rw [y13]; decide)).trans hf_o103
            obtain ⟨q113, eq113⟩ := tp_pos (tp_in hG y13 (by decide)) hf_112
            refine va_last hx hb hK hP hD hS q113 1 eq113 rfl (vp_in_iff.mpr ⟨by omega, by omega⟩) dX12_run_139 (tp_k (.inl (κ 1, 400, .inr (.inl (vp_updL g104 z101.toNatClampNeg r108)))) hD (tp_in hG y13 (by decide)) eq113 (fun f114 H locs hP hD hS g116 k115 => ?_))
            have hT := hT.up y13 g116 k115 tp_o61
            have hR := hR.up y13 (by decide) k115
            generalize (vp_updL g104 z101.toNatClampNeg r108) = g117 at g116
            refine lv_aload_n hx hb dX12_run_140 rfl (lv_at hl 4 rfl) ?_
            refine lv_aload_n hx hb dX12_run_141 rfl (lv_at hl 4 rfl) ?_
            obtain ⟨o118_x0, o118_x1, o118_x7, o118_x9, o118_x10, o118_x11, o118_x12, o118_x13, o118_x14, o118_x15, o118_x16, o118_x17, o118_x18, o118_x19, o118_x20, o118_x22, o118_x25, o118_x28, o118_x29, o118_x32, o118_x33, o118_x34, o118_x35, o118_x36, o118_x37, o118_x38, o118_x47, o118_x48, hf_o118, ro118_0, ro118_1, ro118_2, ro118_3, ro118_4, ro118_5, ro118_6, ro118_7, ro118_8, ro118_9, ro118_10, ro118_11, ro118_12, ro118_13⟩ := tpo_13 hT ht_h0
            obtain ⟨q119, eq119⟩ := tp_pos (tp_in hG ht_h0 (by decide)) hf_o118
            refine va_get (D := (dC, dI)) (ci := 12) (v := .int o118_x32) (C := RX12) (T := TX12) (N := 53) hx hb hts hfX12 hown hK hP q119 eq119 rfl 32 (by decide) (hts (.fieldLink RX12 440 "ColdShipsModel" "broken" "Z") (by decide +kernel)) (fun _ h9 => h9) rfl dX12_run_142 ?_
            refine lv_if_ne (tgt := 169) hx hb dX12_run_145 (by decide) (fun c120 => ?_) (fun c120 => ?_)
            · have ic120 : o118_x32.toInt ≠ 0 := zi_ne rfl rfl c120
              refine lv_iconst (v := 1) hx hb dX12_run_169 (by decide) ?_
              refine lv_goto (tgt := 174) hx hb dX12_run_170 (by decide) ?_
              refine va_put (D := (dC, dI)) (ci := 12) (v := .int 1) (ty := .boolean) (C := RX12) (T := TX12) (N := 53) hx hb hts hfX12 tyX12 tyX12_ok nmX12 hown hK hP hD hS q119 eq119 rfl 32 (by decide) (hts (.fieldLink RX12 440 "ColdShipsModel" "broken" "Z") (by decide +kernel)) (fun _ h9 => h9) rfl (by decide +kernel) rfl rfl (Nat.le_of_ble_eq_true rfl) dX12_run_174 (tp_k (.inr (12, [.int o118_x0, .int o118_x1, .ref (ρ h0 2), .ref (ρ h0 3), .ref (ρ h0 4), .ref (ρ h0 5), .ref (ρ h0 6), .int o118_x7, .ref (ρ h0 8), .int o118_x9, .int o118_x10, .int o118_x11, .int o118_x12, .long o118_x13, .int o118_x14, .int o118_x15, .int o118_x16, .int o118_x17, .int o118_x18, .int o118_x19, .int o118_x20, .ref (ρ h0 21), .int o118_x22, .ref (ρ h0 23), .ref (ρ h0 24), .int o118_x25, .ref (ρ h0 26), .ref (ρ h0 27), .int o118_x28, .int o118_x29, .ref (ρ h0 30), .ref (ρ h0 31), .int 1, .long o118_x33, .long o118_x34, .long o118_x35, .int o118_x36, .int o118_x37, .int o118_x38, .ref (ρ h0 39), .ref (ρ h0 40), .ref (ρ h0 41), .ref (ρ h0 42), .ref (ρ h0 43), .ref (ρ h0 44), .ref (ρ h0 45), .ref (ρ h0 46), .int o118_x47, .int o118_x48, .ref (ρ h0 49), .ref (ρ h0 50), .ref (ρ h0 51), .ref (ρ h0 52)])) hD (tp_in hG ht_h0 (by decide)) eq119 (fun f121 H locs hP hD hS g123 k122 => ?_))
              have hT := hT.up ht_h0 g123 k122 ⟨_, _, _, _, _, _, _, _, _, _, _, _, _, _, _, _, _, _, _, _, _, _, _, _, _, _, _, _, rfl, ro118_0, ro118_1, ro118_2, ro118_3, ro118_4, ro118_5, ro118_6, ro118_7, ro118_8, ro118_9, (by decide), ro118_11, ro118_12, ro118_13⟩
              have hR := hR.up ht_h0 (by decide) k122
              refine lv_goto (tgt := 245) hx hb dX12_run_177 (by decide) ?_
              refine lv_goto (tgt := 11) hx hb dX12_run_245 (by decide) ?_
              have hf_124 : f110 (ρ h0 2) = .inl (κ 0, 12967, .inl g27) := (hF111 _ (by rw [y1]; decide)).trans hk39k
              have hf_125 : f114 (ρ h0 2) = .inl (κ 0, 12967, .inl g27) := (k115 _ (tp_ne y1 y13 (by decide))).trans hf_124
              have hf_126 : f121 (ρ h0 2) = .inl (κ 0, 12967, .inl g27) := (k122 _ (tp_ne y1 ht_h0 (by decide))).trans hf_125
              exact ih42 _ _ _ _ (by rw [hn43]; omega) ⟨f121, z74, z100, rfl, hT, hR, hf_126, (by omega), (by omega), (by omega), (by omega), (by first | (omega) | (have q9 := congrArg dd (show z74.toInt = w34.toInt + 1 by omega); omega) | (have q9 := congrArg dd (show z74.toInt = mo_R g27 (2251 + 864 * qc + 65 + 2 * w34.toInt) by omega); omega)), hP, hD, hS, lv_sub hl [1, 0, 4, 5, 6, 7] rfl⟩
            · have ic120 : o118_x32.toInt = 0 := zi_nef rfl rfl c120
              refine lv_aload_n hx hb dX12_run_148 rfl (lv_at hl 4 rfl) ?_
              refine va_get (D := (dC, dI)) (ci := 12) (v := .ref (ρ h0 31)) (C := RX12) (T := TX12) (N := 53) hx hb hts hfX12 hown hK hP q119 eq119 rfl 31 (by decide) (hts (.fieldLink RX12 52 "ColdShipsModel" "rest" "[J") (by decide +kernel)) (fun _ h9 => h9) rfl dX12_run_149 ?_
              refine lv_iload hx hb dX12_run_152 (lv_at hl 0 rfl) ?_
              refine lv_iconst (v := 1) hx hb dX12_run_154 (by decide) ?_
              refine lv_isub hx hb dX12_run_155 ?_
              refine lv_topi (fun z127 ez127 => ?_)
              have iz127 : z127.toInt = z100.toInt - 1 := zi_sub ez127 rfl rfl (by omega) (by omega)
              obtain ⟨q128, eq128⟩ := tp_pos (tp_in hG y13 (by decide)) g116
              refine va_lald hx hb hK hP q128 1 eq128 rfl (vp_in_iff.mpr ⟨by omega, by omega⟩) dX12_run_156 ?_
              refine lv_topl (fun z129 ez129 => ?_)
              refine lv_ldc2 (own := RX12) (v := (-1000000000000)) hx hb hown (hts (.constantLong RX12 447 (-1000000000000)) (by decide +kernel)) dX12_run_157 ?_
              refine lv_ldc2 (own := RX12) (v := 1000000000000) hx hb hown (hts (.constantLong RX12 438 (1000000000000)) (by decide +kernel)) dX12_run_160 ?_
              have hf_130 : f110 (ρ h0 2) = .inl (κ 0, 12967, .inl g27) := (hF111 _ (by rw [y1]; decide)).trans hk39k
              have hf_131 : f114 (ρ h0 2) = .inl (κ 0, 12967, .inl g27) := (k115 _ (tp_ne y1 y13 (by decide))).trans hf_130
              refine pz_calli (va_runS (As := [.long z129, .long (-1000000000000), .long 1000000000000]) (rest := [.ref h0]) ⟨hx, hb, hml, hown, hts⟩ (t_X12_in l dC dI _ z129 ((-1000000000000)) (1000000000000) (z129.toInt) ((-1000000000000)) (1000000000000) rfl rfl rfl) (va_cwS 3 hts gX12_run_X12_in rfl rfl rfl (by decide +kernel) ⟨Nat.le_of_ble_eq_true rfl, Nat.le_of_ble_eq_true rfl⟩) ⟨pz_blind, pz_pre pz_P0 (hK.sub (tys' := []) [] rfl) (pz_D0 (A := fun _ => True)) hN⟩ rfl rfl hl.1 rfl (lv_room (Nat.le_of_ble_eq_true rfl)) dX12_run_163 ⟨Nat.le_of_ble_eq_true rfl, Nat.le_of_ble_eq_true rfl⟩) (fun r132 hw133 => ?_)
              obtain ⟨hw133r, hw133p⟩ := hw133
              refine lv_if_ne (tgt := 173) hx hb dX12_run_166 (by decide) (fun c134 => ?_) (fun c134 => ?_)
              · have ic134 : r132.toInt ≠ 0 := zi_ne rfl rfl c134
                have p135 : ((-1000000000000)) ≤ (z129.toInt) ∧ (z129.toInt) ≤ (1000000000000) := (tp_cond.yes hw133p) (by omega)
                refine lv_iconst (v := 0) hx hb dX12_run_173 (by decide) ?_
                refine va_put (D := (dC, dI)) (ci := 12) (v := .int 0) (ty := .boolean) (C := RX12) (T := TX12) (N := 53) hx hb hts hfX12 tyX12 tyX12_ok nmX12 hown hK hP hD hS q119 eq119 rfl 32 (by decide) (hts (.fieldLink RX12 440 "ColdShipsModel" "broken" "Z") (by decide +kernel)) (fun _ h9 => h9) rfl (by decide +kernel) rfl rfl (Nat.le_of_ble_eq_true rfl) dX12_run_174 (tp_k (.inr (12, [.int o118_x0, .int o118_x1, .ref (ρ h0 2), .ref (ρ h0 3), .ref (ρ h0 4), .ref (ρ h0 5), .ref (ρ h0 6), .int o118_x7, .ref (ρ h0 8), .int o118_x9, .int o118_x10, .int o118_x11, .int o118_x12, .long o118_x13, .int o118_x14, .int o118_x15, .int o118_x16, .int o118_x17, .int o118_x18, .int o118_x19, .int o118_x20, .ref (ρ h0 21), .int o118_x22, .ref (ρ h0 23), .ref (ρ h0 24), .int o118_x25, .ref (ρ h0 26), .ref (ρ h0 27), .int o118_x28, .int o118_x29, .ref (ρ h0 30), .ref (ρ h0 31), .int 0, .long o118_x33, .long o118_x34, .long o118_x35, .int o118_x36, .int o118_x37, .int o118_x38, .ref (ρ h0 39), .ref (ρ h0 40), .ref (ρ h0 41), .ref (ρ h0 42), .ref (ρ h0 43), .ref (ρ h0 44), .ref (ρ h0 45), .ref (ρ h0 46), .int o118_x47, .int o118_x48, .ref (ρ h0 49), .ref (ρ h0 50), .ref (ρ h0 51), .ref (ρ h0 52)])) hD (tp_in hG ht_h0 (by decide)) eq119 (fun f136 H locs hP hD hS g138 k137 => ?_))
                have hT := hT.up ht_h0 g138 k137 ⟨_, _, _, _, _, _, _, _, _, _, _, _, _, _, _, _, _, _, _, _, _, _, _, _, _, _, _, _, rfl, ro118_0, ro118_1, ro118_2, ro118_3, ro118_4, ro118_5, ro118_6, ro118_7, ro118_8, ro118_9, (by decide), ro118_11, ro118_12, ro118_13⟩
                have hR := hR.up ht_h0 (by decide) k137
                refine lv_goto (tgt := 245) hx hb dX12_run_177 (by decide) ?_
                refine lv_goto (tgt := 11) hx hb dX12_run_245 (by decide) ?_
                have hf_139 : f136 (ρ h0 2) = .inl (κ 0, 12967, .inl g27) := (k137 _ (tp_ne y1 ht_h0 (by decide))).trans hf_131
                exact ih42 _ _ _ _ (by rw [hn43]; omega) ⟨f136, z74, z100, rfl, hT, hR, hf_139, (by omega), (by omega), (by omega), (by omega), (by first | (omega) | (have q9 := congrArg dd (show z74.toInt = w34.toInt + 1 by omega); omega) | (have q9 := congrArg dd (show z74.toInt = mo_R g27 (2251 + 864 * qc + 65 + 2 * w34.toInt) by omega); omega)), hP, hD, hS, lv_sub hl [1, 0, 4, 5, 6, 7] rfl⟩
              · have ic134 : r132.toInt = 0 := zi_nef rfl rfl c134
                refine lv_iconst (v := 1) hx hb dX12_run_169 (by decide) ?_
                refine lv_goto (tgt := 174) hx hb dX12_run_170 (by decide) ?_
                refine va_put (D := (dC, dI)) (ci := 12) (v := .int 1) (ty := .boolean) (C := RX12) (T := TX12) (N := 53) hx hb hts hfX12 tyX12 tyX12_ok nmX12 hown hK hP hD hS q119 eq119 rfl 32 (by decide) (hts (.fieldLink RX12 440 "ColdShipsModel" "broken" "Z") (by decide +kernel)) (fun _ h9 => h9) rfl (by decide +kernel) rfl rfl (Nat.le_of_ble_eq_true rfl) dX12_run_174 (tp_k (.inr (12, [.int o118_x0, .int o118_x1, .ref (ρ h0 2), .ref (ρ h0 3), .ref (ρ h0 4), .ref (ρ h0 5), .ref (ρ h0 6), .int o118_x7, .ref (ρ h0 8), .int o118_x9, .int o118_x10, .int o118_x11, .int o118_x12, .long o118_x13, .int o118_x14, .int o118_x15, .int o118_x16, .int o118_x17, .int o118_x18, .int o118_x19, .int o118_x20, .ref (ρ h0 21), .int o118_x22, .ref (ρ h0 23), .ref (ρ h0 24), .int o118_x25, .ref (ρ h0 26), .ref (ρ h0 27), .int o118_x28, .int o118_x29, .ref (ρ h0 30), .ref (ρ h0 31), .int 1, .long o118_x33, .long o118_x34, .long o118_x35, .int o118_x36, .int o118_x37, .int o118_x38, .ref (ρ h0 39), .ref (ρ h0 40), .ref (ρ h0 41), .ref (ρ h0 42), .ref (ρ h0 43), .ref (ρ h0 44), .ref (ρ h0 45), .ref (ρ h0 46), .int o118_x47, .int o118_x48, .ref (ρ h0 49), .ref (ρ h0 50), .ref (ρ h0 51), .ref (ρ h0 52)])) hD (tp_in hG ht_h0 (by decide)) eq119 (fun f140 H locs hP hD hS g142 k141 => ?_))
                have hT := hT.up ht_h0 g142 k141 ⟨_, _, _, _, _, _, _, _, _, _, _, _, _, _, _, _, _, _, _, _, _, _, _, _, _, _, _, _, rfl, ro118_0, ro118_1, ro118_2, ro118_3, ro118_4, ro118_5, ro118_6, ro118_7, ro118_8, ro118_9, (by decide), ro118_11, ro118_12, ro118_13⟩
                have hR := hR.up ht_h0 (by decide) k141
                refine lv_goto (tgt := 245) hx hb dX12_run_177 (by decide) ?_
                refine lv_goto (tgt := 11) hx hb dX12_run_245 (by decide) ?_
                have hf_143 : f140 (ρ h0 2) = .inl (κ 0, 12967, .inl g27) := (k141 _ (tp_ne y1 ht_h0 (by decide))).trans hf_131
                exact ih42 _ _ _ _ (by rw [hn43]; omega) ⟨f140, z74, z100, rfl, hT, hR, hf_143, (by omega), (by omega), (by omega), (by omega), (by first | (omega) | (have q9 := congrArg dd (show z74.toInt = w34.toInt + 1 by omega); omega) | (have q9 := congrArg dd (show z74.toInt = mo_R g27 (2251 + 864 * qc + 65 + 2 * w34.toInt) by omega); omega)), hP, hD, hS, lv_sub hl [1, 0, 4, 5, 6, 7] rfl⟩
        · have ic75 : z68.toInt < 10 := zi_gef rfl rfl c75
          refine lv_aload_n hx hb dX12_run_68 rfl (lv_at hl 4 rfl) ?_
          refine va_get (D := (dC, dI)) (ci := 12) (v := .ref (ρ h0 31)) (C := RX12) (T := TX12) (N := 53) hx hb hts hfX12 hown hK hP q62 eq62 rfl 31 (by decide) (hts (.fieldLink RX12 52 "ColdShipsModel" "rest" "[J") (by decide +kernel)) (fun _ h9 => h9) rfl dX12_run_69 ?_
          refine lv_iload hx hb dX12_run_72 (lv_at hl 3 rfl) ?_
          refine lv_iload hx hb dX12_run_74 (lv_at hl 2 rfl) ?_
          refine lv_if_ne (tgt := 85) hx hb dX12_run_76 (by decide) (fun c144 => ?_) (fun c144 => ?_)
          · have ic144 : z68.toInt ≠ 0 := zi_ne rfl rfl c144
            refine lv_aload_n hx hb dX12_run_85 rfl (lv_at hl 4 rfl) ?_
            refine va_get (D := (dC, dI)) (ci := 12) (v := .ref (ρ h0 30)) (C := RX12) (T := TX12) (N := 53) hx hb hts hfX12 hown hK hP q62 eq62 rfl 30 (by decide) (hts (.fieldLink RX12 49 "ColdShipsModel" "set" "[J") (by decide +kernel)) (fun _ h9 => h9) rfl dX12_run_86 ?_
            refine lv_iload hx hb dX12_run_89 (lv_at hl 2 rfl) ?_
            obtain ⟨g146, hf_o145⟩ := tpo_60 hT y12
            obtain ⟨q147, eq147⟩ := tp_pos (tp_in hG y12 (by decide)) hf_o145
            refine va_lald hx hb hK hP q147 1 eq147 rfl (vp_in_iff.mpr ⟨by omega, by omega⟩) dX12_run_91 ?_
            refine lv_topl (fun z148 ez148 => ?_)
            obtain ⟨g150, hf_o149⟩ := tpo_61 hT y13
            obtain ⟨q151, eq151⟩ := tp_pos (tp_in hG y13 (by decide)) hf_o149
            refine va_last hx hb hK hP hD hS q151 1 eq151 rfl (vp_in_iff.mpr ⟨by omega, by omega⟩) dX12_run_92 (tp_k (.inl (κ 1, 400, .inr (.inl (vp_updL g150 w35.toNatClampNeg z148)))) hD (tp_in hG y13 (by decide)) eq151 (fun f152 H locs hP hD hS g154 k153 => ?_))
            have hT := hT.up y13 g154 k153 tp_o61
            have hR := hR.up y13 (by decide) k153
            generalize (vp_updL g150 w35.toNatClampNeg z148) = g155 at g154
            obtain ⟨z156, ez156⟩ : ∃ y : Int32, y = w35 + 1 := ⟨_, rfl⟩
            refine lv_iinc (v := z156) (lv' := [(4, .int z156), (5, .int z74), (7, .int z73), (6, .int z68), (0, .ref h0), (1, .int uc), (2, .int v), (3, .int u)]) hx hb dX12_run_93 hl (k := 3) rfl (by rw [ez156]; rfl) (by decide) rfl (fun ls hl => ?_)
            have iz156 : z156.toInt = w35.toInt + 1 := zi_add ez156 rfl rfl (by omega) (by omega)
            refine lv_goto (tgt := 245) hx hb dX12_run_96 (by decide) ?_
            refine lv_goto (tgt := 11) hx hb dX12_run_245 (by decide) ?_
            have hf_157 : f152 (ρ h0 2) = .inl (κ 0, 12967, .inl g27) := (k153 _ (tp_ne y1 y13 (by decide))).trans hk39k
            exact ih42 _ _ _ _ (by rw [hn43]; omega) ⟨f152, z74, z156, rfl, hT, hR, hf_157, (by omega), (by omega), (by omega), (by omega), (by first | (omega) | (have q9 := congrArg dd (show z74.toInt = w34.toInt + 1 by omega); omega) | (have q9 := congrArg dd (show z74.toInt = mo_R g27 (2251 + 864 * qc + 65 + 2 * w34.toInt) by omega); omega)), hP, hD, hS, lv_sub hl [1, 0, 4, 5, 6, 7] rfl⟩
          · have ic144 : z68.toInt = 0 := zi_nef rfl rfl c144
            refine lv_iload hx hb dX12_run_79 (lv_at hl 1 rfl) ?_
            refine lv_i2l hx hb dX12_run_81 rfl ?_
            refine lv_goto (tgt := 92) hx hb dX12_run_82 (by decide) ?_
            obtain ⟨g159, hf_o158⟩ := tpo_61 hT y13
            obtain ⟨q160, eq160⟩ := tp_pos (tp_in hG y13 (by decide)) hf_o158
            refine va_last hx hb hK hP hD hS q160 1 eq160 rfl (vp_in_iff.mpr ⟨by omega, by omega⟩) dX12_run_92 (tp_k (.inl (κ 1, 400, .inr (.inl (vp_updL g159 w35.toNatClampNeg z73.toInt64)))) hD (tp_in hG y13 (by decide)) eq160 (fun f161 H locs hP hD hS g163 k162 => ?_))
            have hT := hT.up y13 g163 k162 tp_o61
            have hR := hR.up y13 (by decide) k162
            generalize (vp_updL g159 w35.toNatClampNeg z73.toInt64) = g164 at g163
            obtain ⟨z165, ez165⟩ : ∃ y : Int32, y = w35 + 1 := ⟨_, rfl⟩
            refine lv_iinc (v := z165) (lv' := [(4, .int z165), (5, .int z74), (7, .int z73), (6, .int z68), (0, .ref h0), (1, .int uc), (2, .int v), (3, .int u)]) hx hb dX12_run_93 hl (k := 3) rfl (by rw [ez165]; rfl) (by decide) rfl (fun ls hl => ?_)
            have iz165 : z165.toInt = w35.toInt + 1 := zi_add ez165 rfl rfl (by omega) (by omega)
            refine lv_goto (tgt := 245) hx hb dX12_run_96 (by decide) ?_
            refine lv_goto (tgt := 11) hx hb dX12_run_245 (by decide) ?_
            have hf_166 : f161 (ρ h0 2) = .inl (κ 0, 12967, .inl g27) := (k162 _ (tp_ne y1 y13 (by decide))).trans hk39k
            exact ih42 _ _ _ _ (by rw [hn43]; omega) ⟨f161, z74, z165, rfl, hT, hR, hf_166, (by omega), (by omega), (by omega), (by omega), (by first | (omega) | (have q9 := congrArg dd (show z74.toInt = w34.toInt + 1 by omega); omega) | (have q9 := congrArg dd (show z74.toInt = mo_R g27 (2251 + 864 * qc + 65 + 2 * w34.toInt) by omega); omega)), hP, hD, hS, lv_sub hl [1, 0, 4, 5, 6, 7] rfl⟩
set_option maxHeartbeats 4000000 in
set_option maxRecDepth 100000 in
theorem t_X12_judgeLanding (l : Launch) (dC : Nat → ClassId) (dI : Nat → Nat → Nat) (sz : Nat) (κ : Nat → ClassId) (τ ν : Nat → Nat) (ρ : Nat → Nat → Nat) (L : List Nat) (f : Nat → va_E) (hG : tp_G τ ν ρ L) (hT : tp_T (mo_O κ) κ τ ν ρ f) (h0 : Nat) (v : Int32) (uc : Int32) (x : Int) (b : Int) (qc : Int) (ht_h0 : τ h0 = 13) (hL_uc : uc.toInt = 2251 + 864 * qc) (hq_uc : 0 ≤ qc ∧ qc ≤ 11) (hJ : mo_RI x b (mo_R (mo_i (f (ρ h0 2))))) (hn8 : qc < (mo_R (mo_i (f (ρ h0 2)))) (8)) : Met l yX12_judgeLanding wsX12_judgeLanding ({ frames := 5, cells := 0, slots := 0, locals := 1600 }) (va_Pc [.ref h0, .int v, .int uc] (pz_B dC dI (tp_K κ) (va_pl L f) sz)) (va_Qv (fun (f1 : Nat → va_E) => tp_T (mo_O κ) κ τ ν ρ f1 ∧ tp_F τ [13, 61] f f1 ∧ True) (fun (f1 : Nat → va_E) (t : State) => pz_E dC dI (tp_K κ) (va_A (va_pl L f) sz) (va_pl L f1) t) (va_A (va_pl L f) sz)) 0 0 (va_A (va_pl L f) sz) := by
  refine Met.ofW (cc := cX12_judgeLanding) (maxL := 6) (ret := none) (by decide) rfl ?_
  intro p e s m args below meth c s₁ B hml hv
  obtain ⟨rfl, hsz, hP, hK, hD0, hN⟩ := hv
  have hx := B.exec
  have hb := B.bytes
  have hr := B.returns
  have hts := atoms_spec (ws := wsX12_judgeLanding) B.pre
  have hown : s.vm.findClass RX12 = some m.cls := findClass_of_methodNamed B.named
  have hlocks := B.notSynchronized
  subst hsz
  have hD := hD0.self (sz := s.heap.size)
  generalize hAe : va_A (va_pl L f) s.heap.size = A at hD ⊢
  have hA : ∀ q : Nat, s.heap.size ≤ q → A q := fun q h => by rw [← hAe]; exact Or.inr h
  have hS : va_S A s.heap s.heap [] := va_S.rf
  have hR : tp_F τ [13, 61] f f := tp_F.rf
  have hl := lv_entry ([.ref h0, .int v, .int uc]) (n := 6) (Nat.le_of_ble_eq_true rfl)
  rw [lg_entry_eq]
  generalize (lg_sl ([.ref h0, .int v, .int uc]) ++ List.replicate (6 - (lg_sl ([.ref h0, .int v, .int uc])).length) Slot.unset).toArray = ls at hl ⊢
  have hl : lv_has ls 6 [(0, .ref h0), (1, .int v), (2, .int uc)] := hl
  have hfX12 : ∀ w ∈ wsX120, w ∈ wsX12_judgeLanding := fun w h => List.mem_cons_of_mem _ (List.mem_append_right _ h)
  obtain ⟨y1, y2, y3, y4, y5, y6, y7, y8, y9, y10, y11, y12, y13, y14, y15, y16, y17, y18, y19, y20, y21, y22, y23, y24, y25⟩ := tpg_13 hG ht_h0
  obtain ⟨g27, hf_o26⟩ := tpo_32 hT y1
  have hI : mo_RI x b (mo_R g27) := by have q9 := hJ; rw [hf_o26, mo_i1] at q9; exact q9
  rw [hf_o26, mo_i1] at hn8
  have hC9 := (hI.C (c := qc) (by omega) (by omega)).row
  refine lv_aload_n hx hb dX12_judgeLanding_0 rfl (lv_at hl 0 rfl) ?_
  refine lv_lconst (v := 0) hx hb dX12_judgeLanding_1 (by decide) ?_
  obtain ⟨o28_x0, o28_x1, o28_x7, o28_x9, o28_x10, o28_x11, o28_x12, o28_x13, o28_x14, o28_x15, o28_x16, o28_x17, o28_x18, o28_x19, o28_x20, o28_x22, o28_x25, o28_x28, o28_x29, o28_x32, o28_x33, o28_x34, o28_x35, o28_x36, o28_x37, o28_x38, o28_x47, o28_x48, hf_o28, ro28_0, ro28_1, ro28_2, ro28_3, ro28_4, ro28_5, ro28_6, ro28_7, ro28_8, ro28_9, ro28_10, ro28_11, ro28_12, ro28_13⟩ := tpo_13 hT ht_h0
  obtain ⟨q29, eq29⟩ := tp_pos (tp_in hG ht_h0 (by decide)) hf_o28
  refine va_put (D := (dC, dI)) (ci := 12) (v := .long 0) (ty := .long) (C := RX12) (T := TX12) (N := 53) hx hb hts hfX12 tyX12 tyX12_ok nmX12 hown hK hP hD hS q29 eq29 rfl 34 (by decide) (hts (.fieldLink RX12 452 "ColdShipsModel" "pays" "J") (by decide +kernel)) (fun _ h9 => h9) rfl (by decide +kernel) rfl rfl (Nat.le_of_ble_eq_true rfl) dX12_judgeLanding_2 (tp_k (.inr (12, [.int o28_x0, .int o28_x1, .ref (ρ h0 2), .ref (ρ h0 3), .ref (ρ h0 4), .ref (ρ h0 5), .ref (ρ h0 6), .int o28_x7, .ref (ρ h0 8), .int o28_x9, .int o28_x10, .int o28_x11, .int o28_x12, .long o28_x13, .int o28_x14, .int o28_x15, .int o28_x16, .int o28_x17, .int o28_x18, .int o28_x19, .int o28_x20, .ref (ρ h0 21), .int o28_x22, .ref (ρ h0 23), .ref (ρ h0 24), .int o28_x25, .ref (ρ h0 26), .ref (ρ h0 27), .int o28_x28, .int o28_x29, .ref (ρ h0 30), .ref (ρ h0 31), .int o28_x32, .long o28_x33, .long 0, .long o28_x35, .int o28_x36, .int o28_x37, .int o28_x38, .ref (ρ h0 39), .ref (ρ h0 40), .ref (ρ h0 41), .ref (ρ h0 42), .ref (ρ h0 43), .ref (ρ h0 44), .ref (ρ h0 45), .ref (ρ h0 46), .int o28_x47, .int o28_x48, .ref (ρ h0 49), .ref (ρ h0 50), .ref (ρ h0 51), .ref (ρ h0 52)])) hD (tp_in hG ht_h0 (by decide)) eq29 (fun f30 H locs hP hD hS g32 k31 => ?_))
  have hT := hT.up ht_h0 g32 k31 ⟨_, _, _, _, _, _, _, _, _, _, _, _, _, _, _, _, _, _, _, _, _, _, _, _, _, _, _, _, rfl, ro28_0, ro28_1, ro28_2, ro28_3, ro28_4, ro28_5, ro28_6, ro28_7, ro28_8, ro28_9, ro28_10, ro28_11, ro28_12, ro28_13⟩
  have hR := hR.up ht_h0 (by decide) k31
  refine lv_aload_n hx hb dX12_judgeLanding_5 rfl (lv_at hl 0 rfl) ?_
  refine lv_lconst (v := 0) hx hb dX12_judgeLanding_6 (by decide) ?_
  obtain ⟨q33, eq33⟩ := tp_pos (tp_in hG ht_h0 (by decide)) g32
  refine va_put (D := (dC, dI)) (ci := 12) (v := .long 0) (ty := .long) (C := RX12) (T := TX12) (N := 53) hx hb hts hfX12 tyX12 tyX12_ok nmX12 hown hK hP hD hS q33 eq33 rfl 35 (by decide) (hts (.fieldLink RX12 455 "ColdShipsModel" "fines" "J") (by decide +kernel)) (fun _ h9 => h9) rfl (by decide +kernel) rfl rfl (Nat.le_of_ble_eq_true rfl) dX12_judgeLanding_7 (tp_k (.inr (12, [.int o28_x0, .int o28_x1, .ref (ρ h0 2), .ref (ρ h0 3), .ref (ρ h0 4), .ref (ρ h0 5), .ref (ρ h0 6), .int o28_x7, .ref (ρ h0 8), .int o28_x9, .int o28_x10, .int o28_x11, .int o28_x12, .long o28_x13, .int o28_x14, .int o28_x15, .int o28_x16, .int o28_x17, .int o28_x18, .int o28_x19, .int o28_x20, .ref (ρ h0 21), .int o28_x22, .ref (ρ h0 23), .ref (ρ h0 24), .int o28_x25, .ref (ρ h0 26), .ref (ρ h0 27), .int o28_x28, .int o28_x29, .ref (ρ h0 30), .ref (ρ h0 31), .int o28_x32, .long o28_x33, .long 0, .long 0, .int o28_x36, .int o28_x37, .int o28_x38, .ref (ρ h0 39), .ref (ρ h0 40), .ref (ρ h0 41), .ref (ρ h0 42), .ref (ρ h0 43), .ref (ρ h0 44), .ref (ρ h0 45), .ref (ρ h0 46), .int o28_x47, .int o28_x48, .ref (ρ h0 49), .ref (ρ h0 50), .ref (ρ h0 51), .ref (ρ h0 52)])) hD (tp_in hG ht_h0 (by decide)) eq33 (fun f34 H locs hP hD hS g36 k35 => ?_))
  have hT := hT.up ht_h0 g36 k35 ⟨_, _, _, _, _, _, _, _, _, _, _, _, _, _, _, _, _, _, _, _, _, _, _, _, _, _, _, _, rfl, ro28_0, ro28_1, ro28_2, ro28_3, ro28_4, ro28_5, ro28_6, ro28_7, ro28_8, ro28_9, ro28_10, ro28_11, ro28_12, ro28_13⟩
  have hR := hR.up ht_h0 (by decide) k35
  refine lv_iconst (v := 0) hx hb dX12_judgeLanding_10 (by decide) ?_
  refine lv_istore_n (lv' := [(3, .int 0), (0, .ref h0), (1, .int v), (2, .int uc)]) hx hb dX12_judgeLanding_11 rfl hl (by decide) rfl (fun ls hl => ?_)
  have hf_37 : f30 (ρ h0 2) = .inl (κ 0, 12967, .inl g27) := (k31 _ (tp_ne y1 ht_h0 (by decide))).trans hf_o26
  have hf_38 : f34 (ρ h0 2) = .inl (κ 0, 12967, .inl g27) := (k35 _ (tp_ne y1 ht_h0 (by decide))).trans hf_37
  refine pz_loop (fun n0 H locs ls => ∃ f41 : Nat → va_E, ∃ w39 : Int32, n0 = (12 - (w39.toInt)).toNat ∧ tp_T (mo_O κ) κ τ ν ρ f41 ∧ tp_F τ [13, 61] f f41 ∧ f41 (ρ h0 2) = .inl (κ 0, 12967, .inl g27) ∧ (0 ≤ w39.toInt ∧ w39.toInt ≤ 12) ∧ va_P (dC, dI) vwCl (va_pl L f41) H ∧ va_D A (va_pl L f41) ∧ va_S A s.heap H locs ∧ lv_has ls 6 [(3, .int w39), (0, .ref h0), (1, .int v), (2, .int uc)]) ?_ _ _ _ _ ⟨f34, 0, rfl, hT, hR, hf_38, (by have : (0 : Int32).toInt = 0 := rfl; omega), hP, hD, hS, lv_sub hl [0, 1, 2, 3] rfl⟩
  intro n0 H locs ls hI ih43
  obtain ⟨f41, w39, hn44, hT, hR, hk40k, rw39, hP, hD, hS, hl⟩ := hI
  refine lv_iload_n hx hb dX12_judgeLanding_12 rfl (lv_at hl 0 rfl) ?_
  refine lv_aload_n hx hb dX12_judgeLanding_13 rfl (lv_at hl 1 rfl) ?_
  obtain ⟨o45_x0, o45_x1, o45_x7, o45_x9, o45_x10, o45_x11, o45_x12, o45_x13, o45_x14, o45_x15, o45_x16, o45_x17, o45_x18, o45_x19, o45_x20, o45_x22, o45_x25, o45_x28, o45_x29, o45_x32, o45_x33, o45_x34, o45_x35, o45_x36, o45_x37, o45_x38, o45_x47, o45_x48, hf_o45, ro45_0, ro45_1, ro45_2, ro45_3, ro45_4, ro45_5, ro45_6, ro45_7, ro45_8, ro45_9, ro45_10, ro45_11, ro45_12, ro45_13⟩ := tpo_13 hT ht_h0
  obtain ⟨q46, eq46⟩ := tp_pos (tp_in hG ht_h0 (by decide)) hf_o45
  refine va_get (D := (dC, dI)) (ci := 12) (v := .ref (ρ h0 2)) (C := RX12) (T := TX12) (N := 53) hx hb hts hfX12 hown hK hP q46 eq46 rfl 2 (by decide) (hts (.fieldLink RX12 7 "ColdShipsModel" "row" "[I") (by decide +kernel)) (fun _ h9 => h9) rfl dX12_judgeLanding_14 ?_
  refine lv_iload_n hx hb dX12_judgeLanding_17 rfl (lv_at hl 3 rfl) ?_
  refine lv_iconst (v := 3) hx hb dX12_judgeLanding_18 (by decide) ?_
  refine lv_iadd hx hb dX12_judgeLanding_19 ?_
  refine lv_topi (fun z47 ez47 => ?_)
  have iz47 : z47.toInt = uc.toInt + 3 := zi_add ez47 rfl rfl (by omega) (by omega)
  obtain ⟨q48, eq48⟩ := tp_pos (tp_in hG y1 (by decide)) hk40k
  refine va_iald hx hb hK hP q48 0 eq48 rfl (vp_in_iff.mpr ⟨by omega, by omega⟩) dX12_judgeLanding_20 ?_
  refine lv_topi (fun z49 ez49 => ?_)
  have jz49 : z49.toInt = mo_R g27 (2251 + 864 * qc + 3) := mo_rd ez49 (by omega)
  refine lv_icmp_ge (tgt := 206) hx hb dX12_judgeLanding_21 (by decide) (fun c50 => ?_) (fun c50 => ?_)
  · have ic50 : w39.toInt ≥ z49.toInt := zi_ge rfl rfl c50
    exact W.vret hx hb hr (fun t ht hW => ⟨⟨f41, rfl, ⟨hT, hR, trivial⟩, by rw [ht]; exact hP, va_K.moved hW.alike hK, hD⟩, hS.F ht⟩) hS.2.2 dX12_judgeLanding_206
  · have ic50 : w39.toInt < z49.toInt := zi_gef rfl rfl c50
    have hk9 := hC9.2 w39.toInt (by omega) (by omega)
    refine lv_iload_n hx hb dX12_judgeLanding_24 rfl (lv_at hl 3 rfl) ?_
    refine lv_iconst (v := 4) hx hb dX12_judgeLanding_25 (by decide) ?_
    refine lv_iadd hx hb dX12_judgeLanding_26 ?_
    refine lv_topi (fun z51 ez51 => ?_)
    have iz51 : z51.toInt = uc.toInt + 4 := zi_add ez51 rfl rfl (by omega) (by omega)
    refine lv_iconst (v := 5) hx hb dX12_judgeLanding_27 (by decide) ?_
    refine lv_iload_n hx hb dX12_judgeLanding_28 rfl (lv_at hl 0 rfl) ?_
    refine lv_imul hx hb dX12_judgeLanding_29 ?_
    refine lv_topi (fun z52 ez52 => ?_)
    have iz52 : z52.toInt = 5 * w39.toInt := zi_mul ez52 rfl rfl (by omega) (by omega)
    refine lv_iadd hx hb dX12_judgeLanding_30 ?_
    refine lv_topi (fun z53 ez53 => ?_)
    have iz53 : z53.toInt = z51.toInt + z52.toInt := zi_add ez53 rfl rfl (by omega) (by omega)
    refine lv_istore (lv' := [(4, .int z53), (3, .int w39), (0, .ref h0), (1, .int v), (2, .int uc)]) hx hb dX12_judgeLanding_31 hl (by decide) rfl (fun ls hl => ?_)
    refine lv_iconst (v := 1) hx hb dX12_judgeLanding_33 (by decide) ?_
    refine lv_istore (lv' := [(5, .int 1), (4, .int z53), (3, .int w39), (0, .ref h0), (1, .int v), (2, .int uc)]) hx hb dX12_judgeLanding_34 hl (by decide) rfl (fun ls hl => ?_)
    refine lv_aload_n hx hb dX12_judgeLanding_36 rfl (lv_at hl 3 rfl) ?_
    refine va_get (D := (dC, dI)) (ci := 12) (v := .ref (ρ h0 2)) (C := RX12) (T := TX12) (N := 53) hx hb hts hfX12 hown hK hP q46 eq46 rfl 2 (by decide) (hts (.fieldLink RX12 7 "ColdShipsModel" "row" "[I") (by decide +kernel)) (fun _ h9 => h9) rfl dX12_judgeLanding_37 ?_
    refine lv_iload hx hb dX12_judgeLanding_40 (lv_at hl 1 rfl) ?_
    refine lv_iconst (v := 3) hx hb dX12_judgeLanding_42 (by decide) ?_
    refine lv_iadd hx hb dX12_judgeLanding_43 ?_
    refine lv_topi (fun z54 ez54 => ?_)
    have iz54 : z54.toInt = z53.toInt + 3 := zi_add ez54 rfl rfl (by omega) (by omega)
    refine va_iald hx hb hK hP q48 0 eq48 rfl (vp_in_iff.mpr ⟨by omega, by omega⟩) dX12_judgeLanding_44 ?_
    refine lv_topi (fun z55 ez55 => ?_)
    have jz55 : z55.toInt = mo_R g27 (2251 + 864 * qc + 7 + 5 * w39.toInt) := mo_rd ez55 (by omega)
    refine lv_aload_n hx hb dX12_judgeLanding_45 rfl (lv_at hl 3 rfl) ?_
    refine va_get (D := (dC, dI)) (ci := 12) (v := .ref (ρ h0 2)) (C := RX12) (T := TX12) (N := 53) hx hb hts hfX12 hown hK hP q46 eq46 rfl 2 (by decide) (hts (.fieldLink RX12 7 "ColdShipsModel" "row" "[I") (by decide +kernel)) (fun _ h9 => h9) rfl dX12_judgeLanding_46 ?_
    refine lv_iload hx hb dX12_judgeLanding_49 (lv_at hl 1 rfl) ?_
    refine lv_iconst (v := 4) hx hb dX12_judgeLanding_51 (by decide) ?_
    refine lv_iadd hx hb dX12_judgeLanding_52 ?_
    refine lv_topi (fun z56 ez56 => ?_)
    have iz56 : z56.toInt = z53.toInt + 4 := zi_add ez56 rfl rfl (by omega) (by omega)
    refine va_iald hx hb hK hP q48 0 eq48 rfl (vp_in_iff.mpr ⟨by omega, by omega⟩) dX12_judgeLanding_53 ?_
    refine lv_topi (fun z57 ez57 => ?_)
    have jz57 : z57.toInt = mo_R g27 (2251 + 864 * qc + 8 + 5 * w39.toInt) := mo_rd ez57 (by omega)
    refine tp_join 103 (fun H locs ls stk => ∃ f60 : Nat → va_E, ∃ w58 : Int32, stk = [] ∧ tp_T (mo_O κ) κ τ ν ρ f60 ∧ tp_F τ [13, 61] f f60 ∧ ((mo_RI x b (mo_R (mo_i (f60 (ρ h0 2)))))) ∧ (0 ≤ w58.toInt ∧ w58.toInt ≤ 1) ∧ va_P (dC, dI) vwCl (va_pl L f60) H ∧ va_D A (va_pl L f60) ∧ va_S A s.heap H locs ∧ lv_has ls 6 [(5, .int w58), (4, .int z53), (3, .int w39), (0, .ref h0), (1, .int v), (2, .int uc)]) ?_ (fun hj59 => ?_)
    · intro H locs ls stk hI
      obtain ⟨f60, w58, rfl, hT, hR, hJ, rw58, hP, hD, hS, hl⟩ := hI
      obtain ⟨g63, hf_o62⟩ := tpo_32 hT y1
      have hI : mo_RI x b (mo_R g63) := by have q9 := hJ; rw [hf_o62, mo_i1] at q9; exact q9
      refine lv_iload hx hb dX12_judgeLanding_103 (lv_at hl 0 rfl) ?_
      refine lv_if_eq (tgt := 200) hx hb dX12_judgeLanding_105 (by decide) (fun c64 => ?_) (fun c64 => ?_)
      · have ic64 : w58.toInt = 0 := zi_eq rfl rfl c64
        obtain ⟨z65, ez65⟩ : ∃ y : Int32, y = w39 + 1 := ⟨_, rfl⟩
        refine lv_iinc (v := z65) (lv' := [(3, .int z65), (5, .int w58), (4, .int z53), (0, .ref h0), (1, .int v), (2, .int uc)]) hx hb dX12_judgeLanding_200 hl (k := 2) rfl (by rw [ez65]; rfl) (by decide) rfl (fun ls hl => ?_)
        have iz65 : z65.toInt = w39.toInt + 1 := zi_add ez65 rfl rfl (by omega) (by omega)
        refine lv_goto (tgt := 12) hx hb dX12_judgeLanding_203 (by decide) ?_
        exact ih43 _ _ _ _ (by rw [hn44]; omega) ⟨f60, z65, rfl, hT, hR, hf_o62, (by omega), hP, hD, hS, lv_sub hl [0, 3, 4, 5] rfl⟩
      · have ic64 : w58.toInt ≠ 0 := zi_eqf rfl rfl c64
        refine lv_aload_n hx hb dX12_judgeLanding_108 rfl (lv_at hl 3 rfl) ?_
        refine lv_iload_n hx hb dX12_judgeLanding_109 rfl (lv_at hl 5 rfl) ?_
        refine lv_aload_n hx hb dX12_judgeLanding_110 rfl (lv_at hl 3 rfl) ?_
        obtain ⟨o66_x0, o66_x1, o66_x7, o66_x9, o66_x10, o66_x11, o66_x12, o66_x13, o66_x14, o66_x15, o66_x16, o66_x17, o66_x18, o66_x19, o66_x20, o66_x22, o66_x25, o66_x28, o66_x29, o66_x32, o66_x33, o66_x34, o66_x35, o66_x36, o66_x37, o66_x38, o66_x47, o66_x48, hf_o66, ro66_0, ro66_1, ro66_2, ro66_3, ro66_4, ro66_5, ro66_6, ro66_7, ro66_8, ro66_9, ro66_10, ro66_11, ro66_12, ro66_13⟩ := tpo_13 hT ht_h0
        obtain ⟨q67, eq67⟩ := tp_pos (tp_in hG ht_h0 (by decide)) hf_o66
        refine va_get (D := (dC, dI)) (ci := 12) (v := .ref (ρ h0 2)) (C := RX12) (T := TX12) (N := 53) hx hb hts hfX12 hown hK hP q67 eq67 rfl 2 (by decide) (hts (.fieldLink RX12 7 "ColdShipsModel" "row" "[I") (by decide +kernel)) (fun _ h9 => h9) rfl dX12_judgeLanding_111 ?_
        refine lv_iload hx hb dX12_judgeLanding_114 (lv_at hl 1 rfl) ?_
        refine lv_iconst (v := 1) hx hb dX12_judgeLanding_116 (by decide) ?_
        refine lv_iadd hx hb dX12_judgeLanding_117 ?_
        refine lv_topi (fun z68 ez68 => ?_)
        have iz68 : z68.toInt = z53.toInt + 1 := zi_add ez68 rfl rfl (by omega) (by omega)
        obtain ⟨q69, eq69⟩ := tp_pos (tp_in hG y1 (by decide)) hf_o62
        refine va_iald hx hb hK hP q69 0 eq69 rfl (vp_in_iff.mpr ⟨by omega, by omega⟩) dX12_judgeLanding_118 ?_
        refine lv_topi (fun z70 ez70 => ?_)
        have jz70 : z70.toInt = mo_R g63 (2251 + 864 * qc + 5 + 5 * w39.toInt) := mo_rd ez70 (by omega)
        refine lv_aload_n hx hb dX12_judgeLanding_119 rfl (lv_at hl 3 rfl) ?_
        refine va_get (D := (dC, dI)) (ci := 12) (v := .ref (ρ h0 2)) (C := RX12) (T := TX12) (N := 53) hx hb hts hfX12 hown hK hP q67 eq67 rfl 2 (by decide) (hts (.fieldLink RX12 7 "ColdShipsModel" "row" "[I") (by decide +kernel)) (fun _ h9 => h9) rfl dX12_judgeLanding_120 ?_
        refine lv_iload hx hb dX12_judgeLanding_123 (lv_at hl 1 rfl) ?_
        refine lv_iconst (v := 2) hx hb dX12_judgeLanding_125 (by decide) ?_
        refine lv_iadd hx hb dX12_judgeLanding_126 ?_
        refine lv_topi (fun z71 ez71 => ?_)
        have iz71 : z71.toInt = z53.toInt + 2 := zi_add ez71 rfl rfl (by omega) (by omega)
        refine va_iald hx hb hK hP q69 0 eq69 rfl (vp_in_iff.mpr ⟨by omega, by omega⟩) dX12_judgeLanding_127 ?_
        refine lv_topi (fun z72 ez72 => ?_)
        have jz72 : z72.toInt = mo_R g63 (2251 + 864 * qc + 6 + 5 * w39.toInt) := mo_rd ez72 (by omega)
        have hFc := tp_fr hD hS hA
        refine va_callv (va_runV (As := [.int uc, .int z70, .int z72]) (rest := []) ⟨hx, hb, hml, hown, hts⟩ (t_X12_run l dC dI _ κ τ ν ρ L f60 hG hT h0 uc z70 z72 x b qc ht_h0 (by omega) (by omega) (by rw [hf_o62, mo_i1]; exact hI) (by omega) (by rw [hf_o62, mo_i1, jz70, jz72]; exact hk9.2.1)) (cwV 3 hts gX12_judgeLanding_X12_run rfl rfl rfl (by decide +kernel) ⟨Nat.le_of_ble_eq_true rfl, Nat.le_of_ble_eq_true rfl⟩) ⟨pz_blind, va_recv hK hP (ci := 12) (q0 := q67) rfl eq67, pz_pre hP hK hD hN⟩ rfl rfl hl.1 rfl (lv_room (Nat.le_of_ble_eq_true rfl)) dX12_judgeLanding_128 ⟨Nat.le_of_ble_eq_true rfl, Nat.le_of_ble_eq_true rfl⟩) hS (fun q _ h => hFc q h) hFc (fun f75 t H1 locs ht hvm hw74 hB hz1 hk1 hS => ?_)
        obtain ⟨hT, hF76, hw74p⟩ := hw74
        have hR := hR.then hF76 (by decide)
        have hP := hB.1; rw [ht] at hP; have hD := tp_ad f75 hD; clear hB hFc hz1 hk1; subst ht; generalize t.heap = H at hP hS ⊢
        refine lv_aload_n hx hb dX12_judgeLanding_131 rfl (lv_at hl 3 rfl) ?_
        refine lv_dup hx hb dX12_judgeLanding_132 rfl ?_
        obtain ⟨o77_x0, o77_x1, o77_x7, o77_x9, o77_x10, o77_x11, o77_x12, o77_x13, o77_x14, o77_x15, o77_x16, o77_x17, o77_x18, o77_x19, o77_x20, o77_x22, o77_x25, o77_x28, o77_x29, o77_x32, o77_x33, o77_x34, o77_x35, o77_x36, o77_x37, o77_x38, o77_x47, o77_x48, hf_o77, ro77_0, ro77_1, ro77_2, ro77_3, ro77_4, ro77_5, ro77_6, ro77_7, ro77_8, ro77_9, ro77_10, ro77_11, ro77_12, ro77_13⟩ := tpo_13 hT ht_h0
        obtain ⟨q78, eq78⟩ := tp_pos (tp_in hG ht_h0 (by decide)) hf_o77
        refine va_get (D := (dC, dI)) (ci := 12) (v := .long o77_x34) (C := RX12) (T := TX12) (N := 53) hx hb hts hfX12 hown hK hP q78 eq78 rfl 34 (by decide) (hts (.fieldLink RX12 452 "ColdShipsModel" "pays" "J") (by decide +kernel)) (fun _ h9 => h9) rfl dX12_judgeLanding_133 ?_
        refine lv_aload_n hx hb dX12_judgeLanding_136 rfl (lv_at hl 3 rfl) ?_
        refine va_get (D := (dC, dI)) (ci := 12) (v := .int o77_x32) (C := RX12) (T := TX12) (N := 53) hx hb hts hfX12 hown hK hP q78 eq78 rfl 32 (by decide) (hts (.fieldLink RX12 440 "ColdShipsModel" "broken" "Z") (by decide +kernel)) (fun _ h9 => h9) rfl dX12_judgeLanding_137 ?_
        refine tp_join 161 (fun H locs ls stk => ∃ w79 : Int64, stk = [.long w79, .long o77_x34, .ref h0] ∧ va_P (dC, dI) vwCl (va_pl L f75) H ∧ va_D A (va_pl L f75) ∧ va_S A s.heap H locs ∧ lv_has ls 6 [(5, .int w58), (4, .int z53), (3, .int w39), (0, .ref h0), (1, .int v), (2, .int uc)]) ?_ (fun hj80 => ?_)
        · intro H locs ls stk hI
          obtain ⟨w79, rfl, hP, hD, hS, hl⟩ := hI
          refine lv_ladd hx hb dX12_judgeLanding_161 ?_
          refine lv_topl (fun z81 ez81 => ?_)
          refine va_put (D := (dC, dI)) (ci := 12) (v := .long z81) (ty := .long) (C := RX12) (T := TX12) (N := 53) hx hb hts hfX12 tyX12 tyX12_ok nmX12 hown hK hP hD hS q78 eq78 rfl 34 (by decide) (hts (.fieldLink RX12 452 "ColdShipsModel" "pays" "J") (by decide +kernel)) (fun _ h9 => h9) rfl (by decide +kernel) rfl rfl (Nat.le_of_ble_eq_true rfl) dX12_judgeLanding_162 (tp_k (.inr (12, [.int o77_x0, .int o77_x1, .ref (ρ h0 2), .ref (ρ h0 3), .ref (ρ h0 4), .ref (ρ h0 5), .ref (ρ h0 6), .int o77_x7, .ref (ρ h0 8), .int o77_x9, .int o77_x10, .int o77_x11, .int o77_x12, .long o77_x13, .int o77_x14, .int o77_x15, .int o77_x16, .int o77_x17, .int o77_x18, .int o77_x19, .int o77_x20, .ref (ρ h0 21), .int o77_x22, .ref (ρ h0 23), .ref (ρ h0 24), .int o77_x25, .ref (ρ h0 26), .ref (ρ h0 27), .int o77_x28, .int o77_x29, .ref (ρ h0 30), .ref (ρ h0 31), .int o77_x32, .long o77_x33, .long z81, .long o77_x35, .int o77_x36, .int o77_x37, .int o77_x38, .ref (ρ h0 39), .ref (ρ h0 40), .ref (ρ h0 41), .ref (ρ h0 42), .ref (ρ h0 43), .ref (ρ h0 44), .ref (ρ h0 45), .ref (ρ h0 46), .int o77_x47, .int o77_x48, .ref (ρ h0 49), .ref (ρ h0 50), .ref (ρ h0 51), .ref (ρ h0 52)])) hD (tp_in hG ht_h0 (by decide)) eq78 (fun f82 H locs hP hD hS g84 k83 => ?_))
          have hT := hT.up ht_h0 g84 k83 ⟨_, _, _, _, _, _, _, _, _, _, _, _, _, _, _, _, _, _, _, _, _, _, _, _, _, _, _, _, rfl, ro77_0, ro77_1, ro77_2, ro77_3, ro77_4, ro77_5, ro77_6, ro77_7, ro77_8, ro77_9, ro77_10, ro77_11, ro77_12, ro77_13⟩
          have hR := hR.up ht_h0 (by decide) k83
          refine lv_aload_n hx hb dX12_judgeLanding_165 rfl (lv_at hl 3 rfl) ?_
          refine lv_dup hx hb dX12_judgeLanding_166 rfl ?_
          obtain ⟨q85, eq85⟩ := tp_pos (tp_in hG ht_h0 (by decide)) g84
          refine va_get (D := (dC, dI)) (ci := 12) (v := .long o77_x35) (C := RX12) (T := TX12) (N := 53) hx hb hts hfX12 hown hK hP q85 eq85 rfl 35 (by decide) (hts (.fieldLink RX12 455 "ColdShipsModel" "fines" "J") (by decide +kernel)) (fun _ h9 => h9) rfl dX12_judgeLanding_167 ?_
          refine lv_aload_n hx hb dX12_judgeLanding_170 rfl (lv_at hl 3 rfl) ?_
          refine va_get (D := (dC, dI)) (ci := 12) (v := .int o77_x32) (C := RX12) (T := TX12) (N := 53) hx hb hts hfX12 hown hK hP q85 eq85 rfl 32 (by decide) (hts (.fieldLink RX12 440 "ColdShipsModel" "broken" "Z") (by decide +kernel)) (fun _ h9 => h9) rfl dX12_judgeLanding_171 ?_
          refine lv_if_ne (tgt := 195) hx hb dX12_judgeLanding_174 (by decide) (fun c86 => ?_) (fun c86 => ?_)
          · have ic86 : o77_x32.toInt ≠ 0 := zi_ne rfl rfl c86
            refine lv_lconst (v := 0) hx hb dX12_judgeLanding_195 (by decide) ?_
            refine lv_ladd hx hb dX12_judgeLanding_196 ?_
            refine lv_topl (fun z87 ez87 => ?_)
            have iz87 : z87.toInt = o77_x35.toInt + 0 := zl_add ez87 rfl rfl (by omega) (by omega)
            refine va_put (D := (dC, dI)) (ci := 12) (v := .long z87) (ty := .long) (C := RX12) (T := TX12) (N := 53) hx hb hts hfX12 tyX12 tyX12_ok nmX12 hown hK hP hD hS q85 eq85 rfl 35 (by decide) (hts (.fieldLink RX12 455 "ColdShipsModel" "fines" "J") (by decide +kernel)) (fun _ h9 => h9) rfl (by decide +kernel) rfl rfl (Nat.le_of_ble_eq_true rfl) dX12_judgeLanding_197 (tp_k (.inr (12, [.int o77_x0, .int o77_x1, .ref (ρ h0 2), .ref (ρ h0 3), .ref (ρ h0 4), .ref (ρ h0 5), .ref (ρ h0 6), .int o77_x7, .ref (ρ h0 8), .int o77_x9, .int o77_x10, .int o77_x11, .int o77_x12, .long o77_x13, .int o77_x14, .int o77_x15, .int o77_x16, .int o77_x17, .int o77_x18, .int o77_x19, .int o77_x20, .ref (ρ h0 21), .int o77_x22, .ref (ρ h0 23), .ref (ρ h0 24), .int o77_x25, .ref (ρ h0 26), .ref (ρ h0 27), .int o77_x28, .int o77_x29, .ref (ρ h0 30), .ref (ρ h0 31), .int o77_x32, .long o77_x33, .long z81, .long z87, .int o77_x36, .int o77_x37, .int o77_x38, .ref (ρ h0 39), .ref (ρ h0 40), .ref (ρ h0 41), .ref (ρ h0 42), .ref (ρ h0 43), .ref (ρ h0 44), .ref (ρ h0 45), .ref (ρ h0 46), .int o77_x47, .int o77_x48, .ref (ρ h0 49), .ref (ρ h0 50), .ref (ρ h0 51), .ref (ρ h0 52)])) hD (tp_in hG ht_h0 (by decide)) eq85 (fun f88 H locs hP hD hS g90 k89 => ?_))
            have hT := hT.up ht_h0 g90 k89 ⟨_, _, _, _, _, _, _, _, _, _, _, _, _, _, _, _, _, _, _, _, _, _, _, _, _, _, _, _, rfl, ro77_0, ro77_1, ro77_2, ro77_3, ro77_4, ro77_5, ro77_6, ro77_7, ro77_8, ro77_9, ro77_10, ro77_11, ro77_12, ro77_13⟩
            have hR := hR.up ht_h0 (by decide) k89
            obtain ⟨z91, ez91⟩ : ∃ y : Int32, y = w39 + 1 := ⟨_, rfl⟩
            refine lv_iinc (v := z91) (lv' := [(3, .int z91), (5, .int w58), (4, .int z53), (0, .ref h0), (1, .int v), (2, .int uc)]) hx hb dX12_judgeLanding_200 hl (k := 2) rfl (by rw [ez91]; rfl) (by decide) rfl (fun ls hl => ?_)
            have iz91 : z91.toInt = w39.toInt + 1 := zi_add ez91 rfl rfl (by omega) (by omega)
            refine lv_goto (tgt := 12) hx hb dX12_judgeLanding_203 (by decide) ?_
            have hf_92 : f75 (ρ h0 2) = .inl (κ 0, 12967, .inl g63) := (hF76 _ (by rw [y1]; decide)).trans hf_o62
            have hf_93 : f82 (ρ h0 2) = .inl (κ 0, 12967, .inl g63) := (k83 _ (tp_ne y1 ht_h0 (by decide))).trans hf_92
            have hf_94 : f88 (ρ h0 2) = .inl (κ 0, 12967, .inl g63) := (k89 _ (tp_ne y1 ht_h0 (by decide))).trans hf_93
            exact ih43 _ _ _ _ (by rw [hn44]; omega) ⟨f88, z91, rfl, hT, hR, hf_94, (by omega), hP, hD, hS, lv_sub hl [0, 3, 4, 5] rfl⟩
          · have ic86 : o77_x32.toInt = 0 := zi_nef rfl rfl c86
            refine lv_aload_n hx hb dX12_judgeLanding_177 rfl (lv_at hl 3 rfl) ?_
            refine va_get (D := (dC, dI)) (ci := 12) (v := .ref (ρ h0 2)) (C := RX12) (T := TX12) (N := 53) hx hb hts hfX12 hown hK hP q85 eq85 rfl 2 (by decide) (hts (.fieldLink RX12 7 "ColdShipsModel" "row" "[I") (by decide +kernel)) (fun _ h9 => h9) rfl dX12_judgeLanding_178 ?_
            refine lv_iload hx hb dX12_judgeLanding_181 (lv_at hl 1 rfl) ?_
            have hf_95 : f75 (ρ h0 2) = .inl (κ 0, 12967, .inl g63) := (hF76 _ (by rw [y1]; decide)).trans hf_o62
            have hf_96 : f82 (ρ h0 2) = .inl (κ 0, 12967, .inl g63) := (k83 _ (tp_ne y1 ht_h0 (by decide))).trans hf_95
            obtain ⟨q97, eq97⟩ := tp_pos (tp_in hG y1 (by decide)) hf_96
            refine va_iald hx hb hK hP q97 0 eq97 rfl (vp_in_iff.mpr ⟨by omega, by omega⟩) dX12_judgeLanding_183 ?_
            refine lv_topi (fun z98 ez98 => ?_)
            have jz98 : z98.toInt = mo_R g63 (2251 + 864 * qc + 4 + 5 * w39.toInt) := mo_rd ez98 (by omega)
            refine lv_iconst (v := 1) hx hb dX12_judgeLanding_184 (by decide) ?_
            refine lv_icmp_ne (tgt := 195) hx hb dX12_judgeLanding_185 (by decide) (fun c99 => ?_) (fun c99 => ?_)
            · have ic99 : z98.toInt ≠ 1 := zi_ne rfl rfl c99
              refine lv_lconst (v := 0) hx hb dX12_judgeLanding_195 (by decide) ?_
              refine lv_ladd hx hb dX12_judgeLanding_196 ?_
              refine lv_topl (fun z100 ez100 => ?_)
              have iz100 : z100.toInt = o77_x35.toInt + 0 := zl_add ez100 rfl rfl (by omega) (by omega)
              refine va_put (D := (dC, dI)) (ci := 12) (v := .long z100) (ty := .long) (C := RX12) (T := TX12) (N := 53) hx hb hts hfX12 tyX12 tyX12_ok nmX12 hown hK hP hD hS q85 eq85 rfl 35 (by decide) (hts (.fieldLink RX12 455 "ColdShipsModel" "fines" "J") (by decide +kernel)) (fun _ h9 => h9) rfl (by decide +kernel) rfl rfl (Nat.le_of_ble_eq_true rfl) dX12_judgeLanding_197 (tp_k (.inr (12, [.int o77_x0, .int o77_x1, .ref (ρ h0 2), .ref (ρ h0 3), .ref (ρ h0 4), .ref (ρ h0 5), .ref (ρ h0 6), .int o77_x7, .ref (ρ h0 8), .int o77_x9, .int o77_x10, .int o77_x11, .int o77_x12, .long o77_x13, .int o77_x14, .int o77_x15, .int o77_x16, .int o77_x17, .int o77_x18, .int o77_x19, .int o77_x20, .ref (ρ h0 21), .int o77_x22, .ref (ρ h0 23), .ref (ρ h0 24), .int o77_x25, .ref (ρ h0 26), .ref (ρ h0 27), .int o77_x28, .int o77_x29, .ref (ρ h0 30), .ref (ρ h0 31), .int o77_x32, .long o77_x33, .long z81, .long z100, .int o77_x36, .int o77_x37, .int o77_x38, .ref (ρ h0 39), .ref (ρ h0 40), .ref (ρ h0 41), .ref (ρ h0 42), .ref (ρ h0 43), .ref (ρ h0 44), .ref (ρ h0 45), .ref (ρ h0 46), .int o77_x47, .int o77_x48, .ref (ρ h0 49), .ref (ρ h0 50), .ref (ρ h0 51), .ref (ρ h0 52)])) hD (tp_in hG ht_h0 (by decide)) eq85 (fun f101 H locs hP hD hS g103 k102 => ?_))
              have hT := hT.up ht_h0 g103 k102 ⟨_, _, _, _, _, _, _, _, _, _, _, _, _, _, _, _, _, _, _, _, _, _, _, _, _, _, _, _, rfl, ro77_0, ro77_1, ro77_2, ro77_3, ro77_4, ro77_5, ro77_6, ro77_7, ro77_8, ro77_9, ro77_10, ro77_11, ro77_12, ro77_13⟩
              have hR := hR.up ht_h0 (by decide) k102
              obtain ⟨z104, ez104⟩ : ∃ y : Int32, y = w39 + 1 := ⟨_, rfl⟩
              refine lv_iinc (v := z104) (lv' := [(3, .int z104), (5, .int w58), (4, .int z53), (0, .ref h0), (1, .int v), (2, .int uc)]) hx hb dX12_judgeLanding_200 hl (k := 2) rfl (by rw [ez104]; rfl) (by decide) rfl (fun ls hl => ?_)
              have iz104 : z104.toInt = w39.toInt + 1 := zi_add ez104 rfl rfl (by omega) (by omega)
              refine lv_goto (tgt := 12) hx hb dX12_judgeLanding_203 (by decide) ?_
              have hf_105 : f101 (ρ h0 2) = .inl (κ 0, 12967, .inl g63) := (k102 _ (tp_ne y1 ht_h0 (by decide))).trans hf_96
              exact ih43 _ _ _ _ (by rw [hn44]; omega) ⟨f101, z104, rfl, hT, hR, hf_105, (by omega), hP, hD, hS, lv_sub hl [0, 3, 4, 5] rfl⟩
            · have ic99 : z98.toInt = 1 := zi_nef rfl rfl c99
              refine lv_aload_n hx hb dX12_judgeLanding_188 rfl (lv_at hl 3 rfl) ?_
              refine va_get (D := (dC, dI)) (ci := 12) (v := .long o77_x33) (C := RX12) (T := TX12) (N := 53) hx hb hts hfX12 hown hK hP q85 eq85 rfl 33 (by decide) (hts (.fieldLink RX12 449 "ColdShipsModel" "value" "J") (by decide +kernel)) (fun _ h9 => h9) rfl dX12_judgeLanding_189 ?_
              refine lv_goto (tgt := 196) hx hb dX12_judgeLanding_192 (by decide) ?_
              refine lv_ladd hx hb dX12_judgeLanding_196 ?_
              refine lv_topl (fun z106 ez106 => ?_)
              refine va_put (D := (dC, dI)) (ci := 12) (v := .long z106) (ty := .long) (C := RX12) (T := TX12) (N := 53) hx hb hts hfX12 tyX12 tyX12_ok nmX12 hown hK hP hD hS q85 eq85 rfl 35 (by decide) (hts (.fieldLink RX12 455 "ColdShipsModel" "fines" "J") (by decide +kernel)) (fun _ h9 => h9) rfl (by decide +kernel) rfl rfl (Nat.le_of_ble_eq_true rfl) dX12_judgeLanding_197 (tp_k (.inr (12, [.int o77_x0, .int o77_x1, .ref (ρ h0 2), .ref (ρ h0 3), .ref (ρ h0 4), .ref (ρ h0 5), .ref (ρ h0 6), .int o77_x7, .ref (ρ h0 8), .int o77_x9, .int o77_x10, .int o77_x11, .int o77_x12, .long o77_x13, .int o77_x14, .int o77_x15, .int o77_x16, .int o77_x17, .int o77_x18, .int o77_x19, .int o77_x20, .ref (ρ h0 21), .int o77_x22, .ref (ρ h0 23), .ref (ρ h0 24), .int o77_x25, .ref (ρ h0 26), .ref (ρ h0 27), .int o77_x28, .int o77_x29, .ref (ρ h0 30), .ref (ρ h0 31), .int o77_x32, .long o77_x33, .long z81, .long z106, .int o77_x36, .int o77_x37, .int o77_x38, .ref (ρ h0 39), .ref (ρ h0 40), .ref (ρ h0 41), .ref (ρ h0 42), .ref (ρ h0 43), .ref (ρ h0 44), .ref (ρ h0 45), .ref (ρ h0 46), .int o77_x47, .int o77_x48, .ref (ρ h0 49), .ref (ρ h0 50), .ref (ρ h0 51), .ref (ρ h0 52)])) hD (tp_in hG ht_h0 (by decide)) eq85 (fun f107 H locs hP hD hS g109 k108 => ?_))
              have hT := hT.up ht_h0 g109 k108 ⟨_, _, _, _, _, _, _, _, _, _, _, _, _, _, _, _, _, _, _, _, _, _, _, _, _, _, _, _, rfl, ro77_0, ro77_1, ro77_2, ro77_3, ro77_4, ro77_5, ro77_6, ro77_7, ro77_8, ro77_9, ro77_10, ro77_11, ro77_12, ro77_13⟩
              have hR := hR.up ht_h0 (by decide) k108
              obtain ⟨z110, ez110⟩ : ∃ y : Int32, y = w39 + 1 := ⟨_, rfl⟩
              refine lv_iinc (v := z110) (lv' := [(3, .int z110), (5, .int w58), (4, .int z53), (0, .ref h0), (1, .int v), (2, .int uc)]) hx hb dX12_judgeLanding_200 hl (k := 2) rfl (by rw [ez110]; rfl) (by decide) rfl (fun ls hl => ?_)
              have iz110 : z110.toInt = w39.toInt + 1 := zi_add ez110 rfl rfl (by omega) (by omega)
              refine lv_goto (tgt := 12) hx hb dX12_judgeLanding_203 (by decide) ?_
              have hf_111 : f107 (ρ h0 2) = .inl (κ 0, 12967, .inl g63) := (k108 _ (tp_ne y1 ht_h0 (by decide))).trans hf_96
              exact ih43 _ _ _ _ (by rw [hn44]; omega) ⟨f107, z110, rfl, hT, hR, hf_111, (by omega), hP, hD, hS, lv_sub hl [0, 3, 4, 5] rfl⟩
        · refine lv_if_ne (tgt := 160) hx hb dX12_judgeLanding_140 (by decide) (fun c112 => ?_) (fun c112 => ?_)
          · have ic112 : o77_x32.toInt ≠ 0 := zi_ne rfl rfl c112
            refine lv_lconst (v := 0) hx hb dX12_judgeLanding_160 (by decide) ?_
            exact hj80 _ _ _ _ ⟨0, rfl, hP, hD, hS, lv_sub hl [0, 1, 2, 3, 4, 5] rfl⟩
          · have ic112 : o77_x32.toInt = 0 := zi_nef rfl rfl c112
            refine lv_aload_n hx hb dX12_judgeLanding_143 rfl (lv_at hl 3 rfl) ?_
            refine va_get (D := (dC, dI)) (ci := 12) (v := .ref (ρ h0 2)) (C := RX12) (T := TX12) (N := 53) hx hb hts hfX12 hown hK hP q78 eq78 rfl 2 (by decide) (hts (.fieldLink RX12 7 "ColdShipsModel" "row" "[I") (by decide +kernel)) (fun _ h9 => h9) rfl dX12_judgeLanding_144 ?_
            refine lv_iload hx hb dX12_judgeLanding_147 (lv_at hl 1 rfl) ?_
            have hf_113 : f75 (ρ h0 2) = .inl (κ 0, 12967, .inl g63) := (hF76 _ (by rw [y1]; decide)).trans hf_o62
            obtain ⟨q114, eq114⟩ := tp_pos (tp_in hG y1 (by decide)) hf_113
            refine va_iald hx hb hK hP q114 0 eq114 rfl (vp_in_iff.mpr ⟨by omega, by omega⟩) dX12_judgeLanding_149 ?_
            refine lv_topi (fun z115 ez115 => ?_)
            have jz115 : z115.toInt = mo_R g63 (2251 + 864 * qc + 4 + 5 * w39.toInt) := mo_rd ez115 (by omega)
            refine lv_if_ne (tgt := 160) hx hb dX12_judgeLanding_150 (by decide) (fun c116 => ?_) (fun c116 => ?_)
            · have ic116 : z115.toInt ≠ 0 := zi_ne rfl rfl c116
              refine lv_lconst (v := 0) hx hb dX12_judgeLanding_160 (by decide) ?_
              exact hj80 _ _ _ _ ⟨0, rfl, hP, hD, hS, lv_sub hl [0, 1, 2, 3, 4, 5] rfl⟩
            · have ic116 : z115.toInt = 0 := zi_nef rfl rfl c116
              refine lv_aload_n hx hb dX12_judgeLanding_153 rfl (lv_at hl 3 rfl) ?_
              refine va_get (D := (dC, dI)) (ci := 12) (v := .long o77_x33) (C := RX12) (T := TX12) (N := 53) hx hb hts hfX12 hown hK hP q78 eq78 rfl 33 (by decide) (hts (.fieldLink RX12 449 "ColdShipsModel" "value" "J") (by decide +kernel)) (fun _ h9 => h9) rfl dX12_judgeLanding_154 ?_
              refine lv_goto (tgt := 161) hx hb dX12_judgeLanding_157 (by decide) ?_
              exact hj80 _ _ _ _ ⟨o77_x33, rfl, hP, hD, hS, lv_sub hl [0, 1, 2, 3, 4, 5] rfl⟩
    · refine lv_icmp_ge (tgt := 103) hx hb dX12_judgeLanding_54 (by decide) (fun c117 => ?_) (fun c117 => ?_)
      · have ic117 : z55.toInt ≥ z57.toInt := zi_ge rfl rfl c117
        exact hj59 _ _ _ _ ⟨f41, 1, rfl, hT, hR, (by rw [hk40k, mo_i1]; exact hI), (by have : (1 : Int32).toInt = 1 := rfl; omega), hP, hD, hS, lv_sub hl [0, 1, 2, 3, 4, 5] rfl⟩
      · have ic117 : z55.toInt < z57.toInt := zi_gef rfl rfl c117
        refine lv_aload_n hx hb dX12_judgeLanding_57 rfl (lv_at hl 3 rfl) ?_
        refine lv_iload_n hx hb dX12_judgeLanding_58 rfl (lv_at hl 5 rfl) ?_
        refine lv_aload_n hx hb dX12_judgeLanding_59 rfl (lv_at hl 3 rfl) ?_
        refine va_get (D := (dC, dI)) (ci := 12) (v := .ref (ρ h0 2)) (C := RX12) (T := TX12) (N := 53) hx hb hts hfX12 hown hK hP q46 eq46 rfl 2 (by decide) (hts (.fieldLink RX12 7 "ColdShipsModel" "row" "[I") (by decide +kernel)) (fun _ h9 => h9) rfl dX12_judgeLanding_60 ?_
        refine lv_iload hx hb dX12_judgeLanding_63 (lv_at hl 1 rfl) ?_
        refine lv_iconst (v := 3) hx hb dX12_judgeLanding_65 (by decide) ?_
        refine lv_iadd hx hb dX12_judgeLanding_66 ?_
        refine lv_topi (fun z118 ez118 => ?_)
        have iz118 : z118.toInt = z53.toInt + 3 := zi_add ez118 rfl rfl (by omega) (by omega)
        refine va_iald hx hb hK hP q48 0 eq48 rfl (vp_in_iff.mpr ⟨by omega, by omega⟩) dX12_judgeLanding_67 ?_
        refine lv_topi (fun z119 ez119 => ?_)
        have jz119 : z119.toInt = mo_R g27 (2251 + 864 * qc + 7 + 5 * w39.toInt) := mo_rd ez119 (by omega)
        refine lv_aload_n hx hb dX12_judgeLanding_68 rfl (lv_at hl 3 rfl) ?_
        refine va_get (D := (dC, dI)) (ci := 12) (v := .ref (ρ h0 2)) (C := RX12) (T := TX12) (N := 53) hx hb hts hfX12 hown hK hP q46 eq46 rfl 2 (by decide) (hts (.fieldLink RX12 7 "ColdShipsModel" "row" "[I") (by decide +kernel)) (fun _ h9 => h9) rfl dX12_judgeLanding_69 ?_
        refine lv_iload hx hb dX12_judgeLanding_72 (lv_at hl 1 rfl) ?_
        refine lv_iconst (v := 4) hx hb dX12_judgeLanding_74 (by decide) ?_
        refine lv_iadd hx hb dX12_judgeLanding_75 ?_
        refine lv_topi (fun z120 ez120 => ?_)
        have iz120 : z120.toInt = z53.toInt + 4 := zi_add ez120 rfl rfl (by omega) (by omega)
        refine va_iald hx hb hK hP q48 0 eq48 rfl (vp_in_iff.mpr ⟨by omega, by omega⟩) dX12_judgeLanding_76 ?_
        refine lv_topi (fun z121 ez121 => ?_)
        have jz121 : z121.toInt = mo_R g27 (2251 + 864 * qc + 8 + 5 * w39.toInt) := mo_rd ez121 (by omega)
        have hFc := tp_fr hD hS hA
        refine va_callv (va_runV (As := [.int uc, .int z119, .int z121]) (rest := []) ⟨hx, hb, hml, hown, hts⟩ (t_X12_run l dC dI _ κ τ ν ρ L f41 hG hT h0 uc z119 z121 x b qc ht_h0 (by omega) (by omega) (by rw [hk40k, mo_i1]; exact hI) (by omega) (by rw [hk40k, mo_i1, jz119, jz121]; exact hk9.2.2)) (cwV 3 hts gX12_judgeLanding_X12_run rfl rfl rfl (by decide +kernel) ⟨Nat.le_of_ble_eq_true rfl, Nat.le_of_ble_eq_true rfl⟩) ⟨pz_blind, va_recv hK hP (ci := 12) (q0 := q46) rfl eq46, pz_pre hP hK hD hN⟩ rfl rfl hl.1 rfl (lv_room (Nat.le_of_ble_eq_true rfl)) dX12_judgeLanding_77 ⟨Nat.le_of_ble_eq_true rfl, Nat.le_of_ble_eq_true rfl⟩) hS (fun q _ h => hFc q h) hFc (fun f124 t H1 locs ht hvm hw123 hB hz1 hk1 hS => ?_)
        obtain ⟨hT, hF125, hw123p⟩ := hw123
        have hR := hR.then hF125 (by decide)
        have hP := hB.1; rw [ht] at hP; have hD := tp_ad f124 hD; clear hB hFc hz1 hk1; subst ht; generalize t.heap = H at hP hS ⊢
        refine lv_aload_n hx hb dX12_judgeLanding_80 rfl (lv_at hl 3 rfl) ?_
        obtain ⟨o126_x0, o126_x1, o126_x7, o126_x9, o126_x10, o126_x11, o126_x12, o126_x13, o126_x14, o126_x15, o126_x16, o126_x17, o126_x18, o126_x19, o126_x20, o126_x22, o126_x25, o126_x28, o126_x29, o126_x32, o126_x33, o126_x34, o126_x35, o126_x36, o126_x37, o126_x38, o126_x47, o126_x48, hf_o126, ro126_0, ro126_1, ro126_2, ro126_3, ro126_4, ro126_5, ro126_6, ro126_7, ro126_8, ro126_9, ro126_10, ro126_11, ro126_12, ro126_13⟩ := tpo_13 hT ht_h0
        obtain ⟨q127, eq127⟩ := tp_pos (tp_in hG ht_h0 (by decide)) hf_o126
        refine va_get (D := (dC, dI)) (ci := 12) (v := .int o126_x32) (C := RX12) (T := TX12) (N := 53) hx hb hts hfX12 hown hK hP q127 eq127 rfl 32 (by decide) (hts (.fieldLink RX12 440 "ColdShipsModel" "broken" "Z") (by decide +kernel)) (fun _ h9 => h9) rfl dX12_judgeLanding_81 ?_
        refine lv_if_ne (tgt := 100) hx hb dX12_judgeLanding_84 (by decide) (fun c128 => ?_) (fun c128 => ?_)
        · have ic128 : o126_x32.toInt ≠ 0 := zi_ne rfl rfl c128
          refine lv_iconst (v := 0) hx hb dX12_judgeLanding_100 (by decide) ?_
          refine lv_istore (lv' := [(5, .int 0), (4, .int z53), (3, .int w39), (0, .ref h0), (1, .int v), (2, .int uc)]) hx hb dX12_judgeLanding_101 hl (by decide) rfl (fun ls hl => ?_)
          have hf_129 : f124 (ρ h0 2) = .inl (κ 0, 12967, .inl g27) := (hF125 _ (by rw [y1]; decide)).trans hk40k
          exact hj59 _ _ _ _ ⟨f124, 0, rfl, hT, hR, (by rw [hf_129, mo_i1]; exact hI), (by have : (0 : Int32).toInt = 0 := rfl; omega), hP, hD, hS, lv_sub hl [0, 1, 2, 3, 4, 5] rfl⟩
        · have ic128 : o126_x32.toInt = 0 := zi_nef rfl rfl c128
          refine lv_aload_n hx hb dX12_judgeLanding_87 rfl (lv_at hl 3 rfl) ?_
          refine va_get (D := (dC, dI)) (ci := 12) (v := .long o126_x33) (C := RX12) (T := TX12) (N := 53) hx hb hts hfX12 hown hK hP q127 eq127 rfl 33 (by decide) (hts (.fieldLink RX12 449 "ColdShipsModel" "value" "J") (by decide +kernel)) (fun _ h9 => h9) rfl dX12_judgeLanding_88 ?_
          refine lv_lconst (v := 1) hx hb dX12_judgeLanding_91 (by decide) ?_
          refine W.lcmp hx hb dX12_judgeLanding_92 ?_
          refine lv_if_ne (tgt := 100) hx hb dX12_judgeLanding_93 (by decide) (fun c130 => ?_) (fun c130 => ?_)
          · have ic130 : o126_x33.toInt ≠ 1 := zl_ne rfl rfl c130
            refine lv_iconst (v := 0) hx hb dX12_judgeLanding_100 (by decide) ?_
            refine lv_istore (lv' := [(5, .int 0), (4, .int z53), (3, .int w39), (0, .ref h0), (1, .int v), (2, .int uc)]) hx hb dX12_judgeLanding_101 hl (by decide) rfl (fun ls hl => ?_)
            have hf_131 : f124 (ρ h0 2) = .inl (κ 0, 12967, .inl g27) := (hF125 _ (by rw [y1]; decide)).trans hk40k
            exact hj59 _ _ _ _ ⟨f124, 0, rfl, hT, hR, (by rw [hf_131, mo_i1]; exact hI), (by have : (0 : Int32).toInt = 0 := rfl; omega), hP, hD, hS, lv_sub hl [0, 1, 2, 3, 4, 5] rfl⟩
          · have ic130 : o126_x33.toInt = 1 := zl_nef rfl rfl c130
            refine lv_iconst (v := 1) hx hb dX12_judgeLanding_96 (by decide) ?_
            refine lv_goto (tgt := 101) hx hb dX12_judgeLanding_97 (by decide) ?_
            refine lv_istore (lv' := [(5, .int 1), (4, .int z53), (3, .int w39), (0, .ref h0), (1, .int v), (2, .int uc)]) hx hb dX12_judgeLanding_101 hl (by decide) rfl (fun ls hl => ?_)
            have hf_132 : f124 (ρ h0 2) = .inl (κ 0, 12967, .inl g27) := (hF125 _ (by rw [y1]; decide)).trans hk40k
            exact hj59 _ _ _ _ ⟨f124, 1, rfl, hT, hR, (by rw [hf_132, mo_i1]; exact hI), (by have : (1 : Int32).toInt = 1 := rfl; omega), hP, hD, hS, lv_sub hl [0, 1, 2, 3, 4, 5] rfl⟩
set_option maxHeartbeats 4000000 in
set_option maxRecDepth 100000 in
theorem t_X12_setFor (l : Launch) (dC : Nat → ClassId) (dI : Nat → Nat → Nat) (sz : Nat) (κ : Nat → ClassId) (τ ν : Nat → Nat) (ρ : Nat → Nat → Nat) (L : List Nat) (f : Nat → va_E) (hG : tp_G τ ν ρ L) (hT : tp_T (mo_O κ) κ τ ν ρ f) (h0 : Nat) (ul : Int32) (uc : Int32) (a : Int32) (x : Int) (b : Int) (ql : Int) (qc : Int) (ht_h0 : τ h0 = 13) (hL_ul : ul.toInt = 1051 + 16 * ql) (hq_ul : 0 ≤ ql ∧ ql ≤ 59) (hL_uc : uc.toInt = 2251 + 864 * qc) (hq_uc : 0 ≤ qc ∧ qc ≤ 11) (hJ : mo_RI x b (mo_R (mo_i (f (ρ h0 2))))) (hn5 : ql < (mo_R (mo_i (f (ρ h0 2)))) (5)) (hn8 : qc < (mo_R (mo_i (f (ρ h0 2)))) (8)) : Met l yX12_setFor wsX12_setFor ({ frames := 4, cells := 0, slots := 0, locals := 1200 }) (va_Pc [.ref h0, .int ul, .int uc, .int a] (pz_B dC dI (tp_K κ) (va_pl L f) sz)) (va_Qv (fun (f1 : Nat → va_E) => tp_T (mo_O κ) κ τ ν ρ f1 ∧ tp_F τ [60] f f1 ∧ True) (fun (f1 : Nat → va_E) (t : State) => pz_E dC dI (tp_K κ) (va_A (va_pl L f) sz) (va_pl L f1) t) (va_A (va_pl L f) sz)) 0 0 (va_A (va_pl L f) sz) := by
  refine Met.ofW (cc := cX12_setFor) (maxL := 7) (ret := none) (by decide) rfl ?_
  intro p e s m args below meth c s₁ B hml hv
  obtain ⟨rfl, hsz, hP, hK, hD0, hN⟩ := hv
  have hx := B.exec
  have hb := B.bytes
  have hr := B.returns
  have hts := atoms_spec (ws := wsX12_setFor) B.pre
  have hown : s.vm.findClass RX12 = some m.cls := findClass_of_methodNamed B.named
  have hlocks := B.notSynchronized
  subst hsz
  have hD := hD0.self (sz := s.heap.size)
  generalize hAe : va_A (va_pl L f) s.heap.size = A at hD ⊢
  have hA : ∀ q : Nat, s.heap.size ≤ q → A q := fun q h => by rw [← hAe]; exact Or.inr h
  have hS : va_S A s.heap s.heap [] := va_S.rf
  have hR : tp_F τ [60] f f := tp_F.rf
  have hl := lv_entry ([.ref h0, .int ul, .int uc, .int a]) (n := 7) (Nat.le_of_ble_eq_true rfl)
  rw [lg_entry_eq]
  generalize (lg_sl ([.ref h0, .int ul, .int uc, .int a]) ++ List.replicate (7 - (lg_sl ([.ref h0, .int ul, .int uc, .int a])).length) Slot.unset).toArray = ls at hl ⊢
  have hl : lv_has ls 7 [(0, .ref h0), (1, .int ul), (2, .int uc), (3, .int a)] := hl
  have hfX12 : ∀ w ∈ wsX120, w ∈ wsX12_setFor := fun w h => List.mem_cons_of_mem _ (List.mem_append_right _ h)
  obtain ⟨y1, y2, y3, y4, y5, y6, y7, y8, y9, y10, y11, y12, y13, y14, y15, y16, y17, y18, y19, y20, y21, y22, y23, y24, y25⟩ := tpg_13 hG ht_h0
  obtain ⟨g27, hf_o26⟩ := tpo_32 hT y1
  have hI : mo_RI x b (mo_R g27) := by have q9 := hJ; rw [hf_o26, mo_i1] at q9; exact q9
  rw [hf_o26, mo_i1] at hn5
  rw [hf_o26, mo_i1] at hn8
  refine lv_aload_n hx hb dX12_setFor_0 rfl (lv_at hl 0 rfl) ?_
  obtain ⟨o28_x0, o28_x1, o28_x7, o28_x9, o28_x10, o28_x11, o28_x12, o28_x13, o28_x14, o28_x15, o28_x16, o28_x17, o28_x18, o28_x19, o28_x20, o28_x22, o28_x25, o28_x28, o28_x29, o28_x32, o28_x33, o28_x34, o28_x35, o28_x36, o28_x37, o28_x38, o28_x47, o28_x48, hf_o28, ro28_0, ro28_1, ro28_2, ro28_3, ro28_4, ro28_5, ro28_6, ro28_7, ro28_8, ro28_9, ro28_10, ro28_11, ro28_12, ro28_13⟩ := tpo_13 hT ht_h0
  obtain ⟨q29, eq29⟩ := tp_pos (tp_in hG ht_h0 (by decide)) hf_o28
  refine va_get (D := (dC, dI)) (ci := 12) (v := .ref (ρ h0 2)) (C := RX12) (T := TX12) (N := 53) hx hb hts hfX12 hown hK hP q29 eq29 rfl 2 (by decide) (hts (.fieldLink RX12 7 "ColdShipsModel" "row" "[I") (by decide +kernel)) (fun _ h9 => h9) rfl dX12_setFor_1 ?_
  refine lv_iload_n hx hb dX12_setFor_4 rfl (lv_at hl 1 rfl) ?_
  refine lv_iconst (v := 2) hx hb dX12_setFor_5 (by decide) ?_
  refine lv_iadd hx hb dX12_setFor_6 ?_
  refine lv_topi (fun z30 ez30 => ?_)
  have iz30 : z30.toInt = ul.toInt + 2 := zi_add ez30 rfl rfl (by omega) (by omega)
  obtain ⟨q31, eq31⟩ := tp_pos (tp_in hG y1 (by decide)) hf_o26
  refine va_iald hx hb hK hP q31 0 eq31 rfl (vp_in_iff.mpr ⟨by omega, by omega⟩) dX12_setFor_7 ?_
  refine lv_topi (fun z32 ez32 => ?_)
  refine lv_istore (lv' := [(4, .int z32), (0, .ref h0), (1, .int ul), (2, .int uc), (3, .int a)]) hx hb dX12_setFor_8 hl (by decide) rfl (fun ls hl => ?_)
  refine lv_aload_n hx hb dX12_setFor_10 rfl (lv_at hl 1 rfl) ?_
  refine va_get (D := (dC, dI)) (ci := 12) (v := .ref (ρ h0 2)) (C := RX12) (T := TX12) (N := 53) hx hb hts hfX12 hown hK hP q29 eq29 rfl 2 (by decide) (hts (.fieldLink RX12 7 "ColdShipsModel" "row" "[I") (by decide +kernel)) (fun _ h9 => h9) rfl dX12_setFor_11 ?_
  refine lv_iload_n hx hb dX12_setFor_14 rfl (lv_at hl 2 rfl) ?_
  refine lv_iconst (v := 3) hx hb dX12_setFor_15 (by decide) ?_
  refine lv_iadd hx hb dX12_setFor_16 ?_
  refine lv_topi (fun z33 ez33 => ?_)
  have iz33 : z33.toInt = ul.toInt + 3 := zi_add ez33 rfl rfl (by omega) (by omega)
  refine va_iald hx hb hK hP q31 0 eq31 rfl (vp_in_iff.mpr ⟨by omega, by omega⟩) dX12_setFor_17 ?_
  refine lv_topi (fun z34 ez34 => ?_)
  have jz34 : z34.toInt = mo_R g27 (1051 + 16 * ql + 3) := mo_rd ez34 (by omega)
  have kz34 := hI.LL (l := ql) (by omega) (by omega)
  refine lv_istore (lv' := [(5, .int z34), (4, .int z32), (0, .ref h0), (1, .int ul), (2, .int uc), (3, .int a)]) hx hb dX12_setFor_18 hl (by decide) rfl (fun ls hl => ?_)
  refine lv_aload_n hx hb dX12_setFor_20 rfl (lv_at hl 2 rfl) ?_
  refine va_get (D := (dC, dI)) (ci := 12) (v := .ref (ρ h0 30)) (C := RX12) (T := TX12) (N := 53) hx hb hts hfX12 hown hK hP q29 eq29 rfl 30 (by decide) (hts (.fieldLink RX12 49 "ColdShipsModel" "set" "[J") (by decide +kernel)) (fun _ h9 => h9) rfl dX12_setFor_21 ?_
  refine lv_iconst (v := 1) hx hb dX12_setFor_24 (by decide) ?_
  refine lv_aload_n hx hb dX12_setFor_25 rfl (lv_at hl 2 rfl) ?_
  refine va_get (D := (dC, dI)) (ci := 12) (v := .ref (ρ h0 2)) (C := RX12) (T := TX12) (N := 53) hx hb hts hfX12 hown hK hP q29 eq29 rfl 2 (by decide) (hts (.fieldLink RX12 7 "ColdShipsModel" "row" "[I") (by decide +kernel)) (fun _ h9 => h9) rfl dX12_setFor_26 ?_
  refine lv_iload_n hx hb dX12_setFor_29 rfl (lv_at hl 3 rfl) ?_
  refine lv_iconst (v := 4) hx hb dX12_setFor_30 (by decide) ?_
  refine lv_iadd hx hb dX12_setFor_31 ?_
  refine lv_topi (fun z35 ez35 => ?_)
  have iz35 : z35.toInt = ul.toInt + 4 := zi_add ez35 rfl rfl (by omega) (by omega)
  refine va_iald hx hb hK hP q31 0 eq31 rfl (vp_in_iff.mpr ⟨by omega, by omega⟩) dX12_setFor_32 ?_
  refine lv_topi (fun z36 ez36 => ?_)
  have jz36 : z36.toInt = mo_R g27 (1051 + 16 * ql + 4) := mo_rd ez36 (by omega)
  have kz36 := hI.LT (l := ql) (by omega) (by omega)
  refine lv_i2l hx hb dX12_setFor_33 rfl ?_
  obtain ⟨g38, hf_o37⟩ := tpo_60 hT y12
  obtain ⟨q39, eq39⟩ := tp_pos (tp_in hG y12 (by decide)) hf_o37
  refine va_last hx hb hK hP hD hS q39 1 eq39 rfl (vp_in_iff.mpr ⟨by decide, by decide⟩) dX12_setFor_34 (tp_k (.inl (κ 1, 9, .inr (.inl (vp_updL g38 (1 : Int32).toNatClampNeg z36.toInt64)))) hD (tp_in hG y12 (by decide)) eq39 (fun f40 H locs hP hD hS g42 k41 => ?_))
  have hT := hT.up y12 g42 k41 tp_o60
  have hR := hR.up y12 (by decide) k41
  generalize (vp_updL g38 (1 : Int32).toNatClampNeg z36.toInt64) = g43 at g42
  refine lv_aload_n hx hb dX12_setFor_35 rfl (lv_at hl 2 rfl) ?_
  have hf_44 : f40 h0 = .inr (12, [.int o28_x0, .int o28_x1, .ref (ρ h0 2), .ref (ρ h0 3), .ref (ρ h0 4), .ref (ρ h0 5), .ref (ρ h0 6), .int o28_x7, .ref (ρ h0 8), .int o28_x9, .int o28_x10, .int o28_x11, .int o28_x12, .long o28_x13, .int o28_x14, .int o28_x15, .int o28_x16, .int o28_x17, .int o28_x18, .int o28_x19, .int o28_x20, .ref (ρ h0 21), .int o28_x22, .ref (ρ h0 23), .ref (ρ h0 24), .int o28_x25, .ref (ρ h0 26), .ref (ρ h0 27), .int o28_x28, .int o28_x29, .ref (ρ h0 30), .ref (ρ h0 31), .int o28_x32, .long o28_x33, .long o28_x34, .long o28_x35, .int o28_x36, .int o28_x37, .int o28_x38, .ref (ρ h0 39), .ref (ρ h0 40), .ref (ρ h0 41), .ref (ρ h0 42), .ref (ρ h0 43), .ref (ρ h0 44), .ref (ρ h0 45), .ref (ρ h0 46), .int o28_x47, .int o28_x48, .ref (ρ h0 49), .ref (ρ h0 50), .ref (ρ h0 51), .ref (ρ h0 52)]) := (k41 _ (tp_ne ht_h0 y12 (by decide))).trans hf_o28
  obtain ⟨q45, eq45⟩ := tp_pos (tp_in hG ht_h0 (by decide)) hf_44
  refine va_get (D := (dC, dI)) (ci := 12) (v := .ref (ρ h0 30)) (C := RX12) (T := TX12) (N := 53) hx hb hts hfX12 hown hK hP q45 eq45 rfl 30 (by decide) (hts (.fieldLink RX12 49 "ColdShipsModel" "set" "[J") (by decide +kernel)) (fun _ h9 => h9) rfl dX12_setFor_36 ?_
  refine lv_iconst (v := 2) hx hb dX12_setFor_39 (by decide) ?_
  refine lv_aload_n hx hb dX12_setFor_40 rfl (lv_at hl 2 rfl) ?_
  refine lv_iload_n hx hb dX12_setFor_41 rfl (lv_at hl 3 rfl) ?_
  have hf_46 : f40 (ρ h0 2) = .inl (κ 0, 12967, .inl g27) := (k41 _ (tp_ne y1 y12 (by decide))).trans hf_o26
  refine pz_calli (va_runV (As := [.int ul]) (rest := [.int 2, .ref (ρ h0 30)]) ⟨hx, hb, hml, hown, hts⟩ (t_X12_billed l dC dI _ κ τ ν ρ L f40 hG hT h0 ul x b ql ht_h0 (by omega) (by omega) (by rw [hf_46, mo_i1]; exact hI)) (cwV 1 hts gX12_setFor_X12_billed rfl rfl rfl (by decide +kernel) ⟨Nat.le_of_ble_eq_true rfl, Nat.le_of_ble_eq_true rfl⟩) ⟨pz_blind, va_recv hK hP (ci := 12) (q0 := q45) rfl eq45, pz_pre hP hK hD hN⟩ rfl rfl hl.1 rfl (lv_room (Nat.le_of_ble_eq_true rfl)) dX12_setFor_42 ⟨Nat.le_of_ble_eq_true rfl, Nat.le_of_ble_eq_true rfl⟩) (fun r47 hw48 => ?_)
  obtain ⟨hw48r, hw48p⟩ := hw48
  refine lv_i2l hx hb dX12_setFor_45 rfl ?_
  obtain ⟨q49, eq49⟩ := tp_pos (tp_in hG y12 (by decide)) g42
  refine va_last hx hb hK hP hD hS q49 1 eq49 rfl (vp_in_iff.mpr ⟨by decide, by decide⟩) dX12_setFor_46 (tp_k (.inl (κ 1, 9, .inr (.inl (vp_updL g43 (2 : Int32).toNatClampNeg r47.toInt64)))) hD (tp_in hG y12 (by decide)) eq49 (fun f50 H locs hP hD hS g52 k51 => ?_))
  have hT := hT.up y12 g52 k51 tp_o60
  have hR := hR.up y12 (by decide) k51
  generalize (vp_updL g43 (2 : Int32).toNatClampNeg r47.toInt64) = g53 at g52
  refine lv_aload_n hx hb dX12_setFor_47 rfl (lv_at hl 2 rfl) ?_
  have hf_54 : f50 h0 = .inr (12, [.int o28_x0, .int o28_x1, .ref (ρ h0 2), .ref (ρ h0 3), .ref (ρ h0 4), .ref (ρ h0 5), .ref (ρ h0 6), .int o28_x7, .ref (ρ h0 8), .int o28_x9, .int o28_x10, .int o28_x11, .int o28_x12, .long o28_x13, .int o28_x14, .int o28_x15, .int o28_x16, .int o28_x17, .int o28_x18, .int o28_x19, .int o28_x20, .ref (ρ h0 21), .int o28_x22, .ref (ρ h0 23), .ref (ρ h0 24), .int o28_x25, .ref (ρ h0 26), .ref (ρ h0 27), .int o28_x28, .int o28_x29, .ref (ρ h0 30), .ref (ρ h0 31), .int o28_x32, .long o28_x33, .long o28_x34, .long o28_x35, .int o28_x36, .int o28_x37, .int o28_x38, .ref (ρ h0 39), .ref (ρ h0 40), .ref (ρ h0 41), .ref (ρ h0 42), .ref (ρ h0 43), .ref (ρ h0 44), .ref (ρ h0 45), .ref (ρ h0 46), .int o28_x47, .int o28_x48, .ref (ρ h0 49), .ref (ρ h0 50), .ref (ρ h0 51), .ref (ρ h0 52)]) := (k51 _ (tp_ne ht_h0 y12 (by decide))).trans hf_44
  obtain ⟨q55, eq55⟩ := tp_pos (tp_in hG ht_h0 (by decide)) hf_54
  refine va_get (D := (dC, dI)) (ci := 12) (v := .ref (ρ h0 30)) (C := RX12) (T := TX12) (N := 53) hx hb hts hfX12 hown hK hP q55 eq55 rfl 30 (by decide) (hts (.fieldLink RX12 49 "ColdShipsModel" "set" "[J") (by decide +kernel)) (fun _ h9 => h9) rfl dX12_setFor_48 ?_
  refine lv_iconst (v := 3) hx hb dX12_setFor_51 (by decide) ?_
  refine lv_aload_n hx hb dX12_setFor_52 rfl (lv_at hl 2 rfl) ?_
  refine lv_iload_n hx hb dX12_setFor_53 rfl (lv_at hl 3 rfl) ?_
  have hf_56 : f50 (ρ h0 2) = .inl (κ 0, 12967, .inl g27) := (k51 _ (tp_ne y1 y12 (by decide))).trans hf_46
  refine pz_calli (va_runV (As := [.int ul]) (rest := [.int 3, .ref (ρ h0 30)]) ⟨hx, hb, hml, hown, hts⟩ (t_X12_heatOf l dC dI _ κ τ ν ρ L f50 hG hT h0 ul x b ql ht_h0 (by omega) (by omega) (by rw [hf_56, mo_i1]; exact hI) (by simp only [hf_56, hf_o26, mo_i1]; try omega)) (cwV 1 hts gX12_setFor_X12_heatOf rfl rfl rfl (by decide +kernel) ⟨Nat.le_of_ble_eq_true rfl, Nat.le_of_ble_eq_true rfl⟩) ⟨pz_blind, va_recv hK hP (ci := 12) (q0 := q55) rfl eq55, pz_pre hP hK hD hN⟩ rfl rfl hl.1 rfl (lv_room (Nat.le_of_ble_eq_true rfl)) dX12_setFor_54 ⟨Nat.le_of_ble_eq_true rfl, Nat.le_of_ble_eq_true rfl⟩) (fun r57 hw58 => ?_)
  obtain ⟨hw58r, hw58p⟩ := hw58
  refine lv_i2l hx hb dX12_setFor_57 rfl ?_
  obtain ⟨q59, eq59⟩ := tp_pos (tp_in hG y12 (by decide)) g52
  refine va_last hx hb hK hP hD hS q59 1 eq59 rfl (vp_in_iff.mpr ⟨by decide, by decide⟩) dX12_setFor_58 (tp_k (.inl (κ 1, 9, .inr (.inl (vp_updL g53 (3 : Int32).toNatClampNeg r57.toInt64)))) hD (tp_in hG y12 (by decide)) eq59 (fun f60 H locs hP hD hS g62 k61 => ?_))
  have hT := hT.up y12 g62 k61 tp_o60
  have hR := hR.up y12 (by decide) k61
  generalize (vp_updL g53 (3 : Int32).toNatClampNeg r57.toInt64) = g63 at g62
  refine lv_aload_n hx hb dX12_setFor_59 rfl (lv_at hl 2 rfl) ?_
  have hf_64 : f60 h0 = .inr (12, [.int o28_x0, .int o28_x1, .ref (ρ h0 2), .ref (ρ h0 3), .ref (ρ h0 4), .ref (ρ h0 5), .ref (ρ h0 6), .int o28_x7, .ref (ρ h0 8), .int o28_x9, .int o28_x10, .int o28_x11, .int o28_x12, .long o28_x13, .int o28_x14, .int o28_x15, .int o28_x16, .int o28_x17, .int o28_x18, .int o28_x19, .int o28_x20, .ref (ρ h0 21), .int o28_x22, .ref (ρ h0 23), .ref (ρ h0 24), .int o28_x25, .ref (ρ h0 26), .ref (ρ h0 27), .int o28_x28, .int o28_x29, .ref (ρ h0 30), .ref (ρ h0 31), .int o28_x32, .long o28_x33, .long o28_x34, .long o28_x35, .int o28_x36, .int o28_x37, .int o28_x38, .ref (ρ h0 39), .ref (ρ h0 40), .ref (ρ h0 41), .ref (ρ h0 42), .ref (ρ h0 43), .ref (ρ h0 44), .ref (ρ h0 45), .ref (ρ h0 46), .int o28_x47, .int o28_x48, .ref (ρ h0 49), .ref (ρ h0 50), .ref (ρ h0 51), .ref (ρ h0 52)]) := (k61 _ (tp_ne ht_h0 y12 (by decide))).trans hf_54
  obtain ⟨q65, eq65⟩ := tp_pos (tp_in hG ht_h0 (by decide)) hf_64
  refine va_get (D := (dC, dI)) (ci := 12) (v := .ref (ρ h0 30)) (C := RX12) (T := TX12) (N := 53) hx hb hts hfX12 hown hK hP q65 eq65 rfl 30 (by decide) (hts (.fieldLink RX12 49 "ColdShipsModel" "set" "[J") (by decide +kernel)) (fun _ h9 => h9) rfl dX12_setFor_60 ?_
  refine lv_iconst (v := 4) hx hb dX12_setFor_63 (by decide) ?_
  refine lv_lconst (v := 0) hx hb dX12_setFor_64 (by decide) ?_
  obtain ⟨q66, eq66⟩ := tp_pos (tp_in hG y12 (by decide)) g62
  refine va_last hx hb hK hP hD hS q66 1 eq66 rfl (vp_in_iff.mpr ⟨by decide, by decide⟩) dX12_setFor_65 (tp_k (.inl (κ 1, 9, .inr (.inl (vp_updL g63 (4 : Int32).toNatClampNeg (0 : Int64))))) hD (tp_in hG y12 (by decide)) eq66 (fun f67 H locs hP hD hS g69 k68 => ?_))
  have hT := hT.up y12 g69 k68 tp_o60
  have hR := hR.up y12 (by decide) k68
  generalize (vp_updL g63 (4 : Int32).toNatClampNeg (0 : Int64)) = g70 at g69
  refine lv_aload_n hx hb dX12_setFor_66 rfl (lv_at hl 2 rfl) ?_
  have hf_71 : f67 h0 = .inr (12, [.int o28_x0, .int o28_x1, .ref (ρ h0 2), .ref (ρ h0 3), .ref (ρ h0 4), .ref (ρ h0 5), .ref (ρ h0 6), .int o28_x7, .ref (ρ h0 8), .int o28_x9, .int o28_x10, .int o28_x11, .int o28_x12, .long o28_x13, .int o28_x14, .int o28_x15, .int o28_x16, .int o28_x17, .int o28_x18, .int o28_x19, .int o28_x20, .ref (ρ h0 21), .int o28_x22, .ref (ρ h0 23), .ref (ρ h0 24), .int o28_x25, .ref (ρ h0 26), .ref (ρ h0 27), .int o28_x28, .int o28_x29, .ref (ρ h0 30), .ref (ρ h0 31), .int o28_x32, .long o28_x33, .long o28_x34, .long o28_x35, .int o28_x36, .int o28_x37, .int o28_x38, .ref (ρ h0 39), .ref (ρ h0 40), .ref (ρ h0 41), .ref (ρ h0 42), .ref (ρ h0 43), .ref (ρ h0 44), .ref (ρ h0 45), .ref (ρ h0 46), .int o28_x47, .int o28_x48, .ref (ρ h0 49), .ref (ρ h0 50), .ref (ρ h0 51), .ref (ρ h0 52)]) := (k68 _ (tp_ne ht_h0 y12 (by decide))).trans hf_64
  obtain ⟨q72, eq72⟩ := tp_pos (tp_in hG ht_h0 (by decide)) hf_71
  refine va_get (D := (dC, dI)) (ci := 12) (v := .ref (ρ h0 2)) (C := RX12) (T := TX12) (N := 53) hx hb hts hfX12 hown hK hP q72 eq72 rfl 2 (by decide) (hts (.fieldLink RX12 7 "ColdShipsModel" "row" "[I") (by decide +kernel)) (fun _ h9 => h9) rfl dX12_setFor_67 ?_
  refine lv_iload_n hx hb dX12_setFor_70 rfl (lv_at hl 4 rfl) ?_
  refine lv_iconst (v := 1) hx hb dX12_setFor_71 (by decide) ?_
  refine lv_iadd hx hb dX12_setFor_72 ?_
  refine lv_topi (fun z73 ez73 => ?_)
  have iz73 : z73.toInt = uc.toInt + 1 := zi_add ez73 rfl rfl (by omega) (by omega)
  have hf_74 : f60 (ρ h0 2) = .inl (κ 0, 12967, .inl g27) := (k61 _ (tp_ne y1 y12 (by decide))).trans hf_56
  have hf_75 : f67 (ρ h0 2) = .inl (κ 0, 12967, .inl g27) := (k68 _ (tp_ne y1 y12 (by decide))).trans hf_74
  obtain ⟨q76, eq76⟩ := tp_pos (tp_in hG y1 (by decide)) hf_75
  refine va_iald hx hb hK hP q76 0 eq76 rfl (vp_in_iff.mpr ⟨by omega, by omega⟩) dX12_setFor_73 ?_
  refine lv_topi (fun z77 ez77 => ?_)
  refine lv_iconst (v := 1) hx hb dX12_setFor_74 (by decide) ?_
  refine lv_iadd hx hb dX12_setFor_75 ?_
  refine lv_topi (fun z78 ez78 => ?_)
  refine lv_istore (lv' := [(6, .int z78), (5, .int z34), (4, .int z32), (0, .ref h0), (1, .int ul), (2, .int uc), (3, .int a)]) hx hb dX12_setFor_76 hl (by decide) rfl (fun ls hl => ?_)
  refine pz_loop (fun n0 H locs ls => ∃ f81 : Nat → va_E, ∃ w79 : Int32, n0 = (2400 - (w79.toInt)).toNat ∧ tp_T (mo_O κ) κ τ ν ρ f81 ∧ tp_F τ [60] f f81 ∧ f81 (ρ h0 2) = .inl (κ 0, 12967, .inl g27) ∧ va_P (dC, dI) vwCl (va_pl L f81) H ∧ va_D A (va_pl L f81) ∧ va_S A s.heap H locs ∧ lv_has ls 7 [(6, .int w79), (5, .int z34), (4, .int z32), (0, .ref h0), (1, .int ul), (2, .int uc), (3, .int a)]) ?_ _ _ _ _ ⟨f67, z78, rfl, hT, hR, hf_75, hP, hD, hS, lv_sub hl [0, 1, 2, 3, 4, 5, 6] rfl⟩
  intro n0 H locs ls hI ih83
  obtain ⟨f81, w79, hn84, hT, hR, hk80k, hP, hD, hS, hl⟩ := hI
  refine lv_iload hx hb dX12_setFor_78 (lv_at hl 0 rfl) ?_
  refine lv_iload hx hb dX12_setFor_80 (lv_at hl 1 rfl) ?_
  refine lv_icmp_gt (tgt := 115) hx hb dX12_setFor_82 (by decide) (fun c85 => ?_) (fun c85 => ?_)
  · have ic85 : w79.toInt > z34.toInt := zi_gt rfl rfl c85
    refine lv_aload_n hx hb dX12_setFor_115 rfl (lv_at hl 3 rfl) ?_
    obtain ⟨o86_x0, o86_x1, o86_x7, o86_x9, o86_x10, o86_x11, o86_x12, o86_x13, o86_x14, o86_x15, o86_x16, o86_x17, o86_x18, o86_x19, o86_x20, o86_x22, o86_x25, o86_x28, o86_x29, o86_x32, o86_x33, o86_x34, o86_x35, o86_x36, o86_x37, o86_x38, o86_x47, o86_x48, hf_o86, ro86_0, ro86_1, ro86_2, ro86_3, ro86_4, ro86_5, ro86_6, ro86_7, ro86_8, ro86_9, ro86_10, ro86_11, ro86_12, ro86_13⟩ := tpo_13 hT ht_h0
    obtain ⟨q87, eq87⟩ := tp_pos (tp_in hG ht_h0 (by decide)) hf_o86
    refine va_get (D := (dC, dI)) (ci := 12) (v := .ref (ρ h0 30)) (C := RX12) (T := TX12) (N := 53) hx hb hts hfX12 hown hK hP q87 eq87 rfl 30 (by decide) (hts (.fieldLink RX12 49 "ColdShipsModel" "set" "[J") (by decide +kernel)) (fun _ h9 => h9) rfl dX12_setFor_116 ?_
    refine lv_iconst (v := 5) hx hb dX12_setFor_119 (by decide) ?_
    refine lv_iload hx hb dX12_setFor_120 (lv_at hl 2 rfl) ?_
    refine lv_aload_n hx hb dX12_setFor_122 rfl (lv_at hl 3 rfl) ?_
    refine va_get (D := (dC, dI)) (ci := 12) (v := .ref (ρ h0 2)) (C := RX12) (T := TX12) (N := 53) hx hb hts hfX12 hown hK hP q87 eq87 rfl 2 (by decide) (hts (.fieldLink RX12 7 "ColdShipsModel" "row" "[I") (by decide +kernel)) (fun _ h9 => h9) rfl dX12_setFor_123 ?_
    refine lv_iload_n hx hb dX12_setFor_126 rfl (lv_at hl 5 rfl) ?_
    obtain ⟨q88, eq88⟩ := tp_pos (tp_in hG y1 (by decide)) hk80k
    refine va_iald hx hb hK hP q88 0 eq88 rfl (vp_in_iff.mpr ⟨by omega, by omega⟩) dX12_setFor_127 ?_
    refine lv_topi (fun z89 ez89 => ?_)
    refine tp_join 145 (fun H locs ls stk => ∃ w90 : Int64, stk = [.long w90, .int 5, .ref (ρ h0 30)] ∧ va_P (dC, dI) vwCl (va_pl L f81) H ∧ va_D A (va_pl L f81) ∧ va_S A s.heap H locs ∧ lv_has ls 7 [(6, .int w79), (5, .int z34), (4, .int z32), (0, .ref h0), (1, .int ul), (2, .int uc), (3, .int a)]) ?_ (fun hj91 => ?_)
    · intro H locs ls stk hI
      obtain ⟨w90, rfl, hP, hD, hS, hl⟩ := hI
      obtain ⟨g93, hf_o92⟩ := tpo_60 hT y12
      obtain ⟨q94, eq94⟩ := tp_pos (tp_in hG y12 (by decide)) hf_o92
      refine va_last hx hb hK hP hD hS q94 1 eq94 rfl (vp_in_iff.mpr ⟨by decide, by decide⟩) dX12_setFor_145 (tp_k (.inl (κ 1, 9, .inr (.inl (vp_updL g93 (5 : Int32).toNatClampNeg w90)))) hD (tp_in hG y12 (by decide)) eq94 (fun f95 H locs hP hD hS g97 k96 => ?_))
      have hT := hT.up y12 g97 k96 tp_o60
      have hR := hR.up y12 (by decide) k96
      generalize (vp_updL g93 (5 : Int32).toNatClampNeg w90) = g98 at g97
      refine lv_aload_n hx hb dX12_setFor_146 rfl (lv_at hl 3 rfl) ?_
      have hf_99 : f95 h0 = .inr (12, [.int o86_x0, .int o86_x1, .ref (ρ h0 2), .ref (ρ h0 3), .ref (ρ h0 4), .ref (ρ h0 5), .ref (ρ h0 6), .int o86_x7, .ref (ρ h0 8), .int o86_x9, .int o86_x10, .int o86_x11, .int o86_x12, .long o86_x13, .int o86_x14, .int o86_x15, .int o86_x16, .int o86_x17, .int o86_x18, .int o86_x19, .int o86_x20, .ref (ρ h0 21), .int o86_x22, .ref (ρ h0 23), .ref (ρ h0 24), .int o86_x25, .ref (ρ h0 26), .ref (ρ h0 27), .int o86_x28, .int o86_x29, .ref (ρ h0 30), .ref (ρ h0 31), .int o86_x32, .long o86_x33, .long o86_x34, .long o86_x35, .int o86_x36, .int o86_x37, .int o86_x38, .ref (ρ h0 39), .ref (ρ h0 40), .ref (ρ h0 41), .ref (ρ h0 42), .ref (ρ h0 43), .ref (ρ h0 44), .ref (ρ h0 45), .ref (ρ h0 46), .int o86_x47, .int o86_x48, .ref (ρ h0 49), .ref (ρ h0 50), .ref (ρ h0 51), .ref (ρ h0 52)]) := (k96 _ (tp_ne ht_h0 y12 (by decide))).trans hf_o86
      obtain ⟨q100, eq100⟩ := tp_pos (tp_in hG ht_h0 (by decide)) hf_99
      refine va_get (D := (dC, dI)) (ci := 12) (v := .ref (ρ h0 30)) (C := RX12) (T := TX12) (N := 53) hx hb hts hfX12 hown hK hP q100 eq100 rfl 30 (by decide) (hts (.fieldLink RX12 49 "ColdShipsModel" "set" "[J") (by decide +kernel)) (fun _ h9 => h9) rfl dX12_setFor_147 ?_
      refine lv_bipush (v := 6) hx hb dX12_setFor_150 (by decide) ?_
      refine lv_aload_n hx hb dX12_setFor_152 rfl (lv_at hl 3 rfl) ?_
      refine lv_iload hx hb dX12_setFor_153 (lv_at hl 1 rfl) ?_
      refine lv_bipush (v := 24) hx hb dX12_setFor_155 (by decide) ?_
      refine lv_idiv hx hb dX12_setFor_157 (by decide) ?_
      refine lv_topi (fun z101 ez101 => ?_)
      refine lv_iload_n hx hb dX12_setFor_158 rfl (lv_at hl 6 rfl) ?_
      have hf_102 : f95 (ρ h0 2) = .inl (κ 0, 12967, .inl g27) := (k96 _ (tp_ne y1 y12 (by decide))).trans hk80k
      refine pz_calli (va_runV (As := [.int z101, .int a]) (rest := [.int 6, .ref (ρ h0 30)]) ⟨hx, hb, hml, hown, hts⟩ (t_X12_priceOf l dC dI _ κ τ ν ρ L f95 hG hT h0 z101 a x b ht_h0 (by rw [hf_102, mo_i1]; exact hI)) (cwV 2 hts gX12_setFor_X12_priceOf rfl rfl rfl (by decide +kernel) ⟨Nat.le_of_ble_eq_true rfl, Nat.le_of_ble_eq_true rfl⟩) ⟨pz_blind, va_recv hK hP (ci := 12) (q0 := q100) rfl eq100, pz_pre hP hK hD hN⟩ rfl rfl hl.1 rfl (lv_room (Nat.le_of_ble_eq_true rfl)) dX12_setFor_159 ⟨Nat.le_of_ble_eq_true rfl, Nat.le_of_ble_eq_true rfl⟩) (fun r103 hw104 => ?_)
      obtain ⟨hw104r, hw104p⟩ := hw104
      refine lv_i2l hx hb dX12_setFor_162 rfl ?_
      obtain ⟨q105, eq105⟩ := tp_pos (tp_in hG y12 (by decide)) g97
      refine va_last hx hb hK hP hD hS q105 1 eq105 rfl (vp_in_iff.mpr ⟨by decide, by decide⟩) dX12_setFor_163 (tp_k (.inl (κ 1, 9, .inr (.inl (vp_updL g98 (6 : Int32).toNatClampNeg r103.toInt64)))) hD (tp_in hG y12 (by decide)) eq105 (fun f106 H locs hP hD hS g108 k107 => ?_))
      have hT := hT.up y12 g108 k107 tp_o60
      have hR := hR.up y12 (by decide) k107
      generalize (vp_updL g98 (6 : Int32).toNatClampNeg r103.toInt64) = g109 at g108
      refine lv_aload_n hx hb dX12_setFor_164 rfl (lv_at hl 3 rfl) ?_
      have hf_110 : f106 h0 = .inr (12, [.int o86_x0, .int o86_x1, .ref (ρ h0 2), .ref (ρ h0 3), .ref (ρ h0 4), .ref (ρ h0 5), .ref (ρ h0 6), .int o86_x7, .ref (ρ h0 8), .int o86_x9, .int o86_x10, .int o86_x11, .int o86_x12, .long o86_x13, .int o86_x14, .int o86_x15, .int o86_x16, .int o86_x17, .int o86_x18, .int o86_x19, .int o86_x20, .ref (ρ h0 21), .int o86_x22, .ref (ρ h0 23), .ref (ρ h0 24), .int o86_x25, .ref (ρ h0 26), .ref (ρ h0 27), .int o86_x28, .int o86_x29, .ref (ρ h0 30), .ref (ρ h0 31), .int o86_x32, .long o86_x33, .long o86_x34, .long o86_x35, .int o86_x36, .int o86_x37, .int o86_x38, .ref (ρ h0 39), .ref (ρ h0 40), .ref (ρ h0 41), .ref (ρ h0 42), .ref (ρ h0 43), .ref (ρ h0 44), .ref (ρ h0 45), .ref (ρ h0 46), .int o86_x47, .int o86_x48, .ref (ρ h0 49), .ref (ρ h0 50), .ref (ρ h0 51), .ref (ρ h0 52)]) := (k107 _ (tp_ne ht_h0 y12 (by decide))).trans hf_99
      obtain ⟨q111, eq111⟩ := tp_pos (tp_in hG ht_h0 (by decide)) hf_110
      refine va_get (D := (dC, dI)) (ci := 12) (v := .ref (ρ h0 30)) (C := RX12) (T := TX12) (N := 53) hx hb hts hfX12 hown hK hP q111 eq111 rfl 30 (by decide) (hts (.fieldLink RX12 49 "ColdShipsModel" "set" "[J") (by decide +kernel)) (fun _ h9 => h9) rfl dX12_setFor_165 ?_
      refine lv_bipush (v := 7) hx hb dX12_setFor_168 (by decide) ?_
      refine lv_iload hx hb dX12_setFor_170 (lv_at hl 1 rfl) ?_
      refine lv_iload hx hb dX12_setFor_172 (lv_at hl 2 rfl) ?_
      refine lv_isub hx hb dX12_setFor_174 ?_
      refine lv_topi (fun z112 ez112 => ?_)
      refine lv_i2l hx hb dX12_setFor_175 rfl ?_
      refine lv_lconst (v := 1) hx hb dX12_setFor_176 (by decide) ?_
      refine lv_ladd hx hb dX12_setFor_177 ?_
      refine lv_topl (fun z113 ez113 => ?_)
      have iz113 : z113.toInt = z112.toInt + 1 := zl_add ez113 (Int32.toInt_toInt64 z112) rfl (by omega) (by omega)
      obtain ⟨q114, eq114⟩ := tp_pos (tp_in hG y12 (by decide)) g108
      refine va_last hx hb hK hP hD hS q114 1 eq114 rfl (vp_in_iff.mpr ⟨by decide, by decide⟩) dX12_setFor_178 (tp_k (.inl (κ 1, 9, .inr (.inl (vp_updL g109 (7 : Int32).toNatClampNeg z113)))) hD (tp_in hG y12 (by decide)) eq114 (fun f115 H locs hP hD hS g117 k116 => ?_))
      have hT := hT.up y12 g117 k116 tp_o60
      have hR := hR.up y12 (by decide) k116
      generalize (vp_updL g109 (7 : Int32).toNatClampNeg z113) = g118 at g117
      refine lv_aload_n hx hb dX12_setFor_179 rfl (lv_at hl 3 rfl) ?_
      have hf_119 : f115 h0 = .inr (12, [.int o86_x0, .int o86_x1, .ref (ρ h0 2), .ref (ρ h0 3), .ref (ρ h0 4), .ref (ρ h0 5), .ref (ρ h0 6), .int o86_x7, .ref (ρ h0 8), .int o86_x9, .int o86_x10, .int o86_x11, .int o86_x12, .long o86_x13, .int o86_x14, .int o86_x15, .int o86_x16, .int o86_x17, .int o86_x18, .int o86_x19, .int o86_x20, .ref (ρ h0 21), .int o86_x22, .ref (ρ h0 23), .ref (ρ h0 24), .int o86_x25, .ref (ρ h0 26), .ref (ρ h0 27), .int o86_x28, .int o86_x29, .ref (ρ h0 30), .ref (ρ h0 31), .int o86_x32, .long o86_x33, .long o86_x34, .long o86_x35, .int o86_x36, .int o86_x37, .int o86_x38, .ref (ρ h0 39), .ref (ρ h0 40), .ref (ρ h0 41), .ref (ρ h0 42), .ref (ρ h0 43), .ref (ρ h0 44), .ref (ρ h0 45), .ref (ρ h0 46), .int o86_x47, .int o86_x48, .ref (ρ h0 49), .ref (ρ h0 50), .ref (ρ h0 51), .ref (ρ h0 52)]) := (k116 _ (tp_ne ht_h0 y12 (by decide))).trans hf_110
      obtain ⟨q120, eq120⟩ := tp_pos (tp_in hG ht_h0 (by decide)) hf_119
      refine va_get (D := (dC, dI)) (ci := 12) (v := .ref (ρ h0 30)) (C := RX12) (T := TX12) (N := 53) hx hb hts hfX12 hown hK hP q120 eq120 rfl 30 (by decide) (hts (.fieldLink RX12 49 "ColdShipsModel" "set" "[J") (by decide +kernel)) (fun _ h9 => h9) rfl dX12_setFor_180 ?_
      refine lv_bipush (v := 8) hx hb dX12_setFor_183 (by decide) ?_
      refine lv_aload_n hx hb dX12_setFor_185 rfl (lv_at hl 3 rfl) ?_
      refine va_get (D := (dC, dI)) (ci := 12) (v := .ref (ρ h0 2)) (C := RX12) (T := TX12) (N := 53) hx hb hts hfX12 hown hK hP q120 eq120 rfl 2 (by decide) (hts (.fieldLink RX12 7 "ColdShipsModel" "row" "[I") (by decide +kernel)) (fun _ h9 => h9) rfl dX12_setFor_186 ?_
      refine lv_iload_n hx hb dX12_setFor_189 rfl (lv_at hl 4 rfl) ?_
      refine lv_iconst (v := 1) hx hb dX12_setFor_190 (by decide) ?_
      refine lv_iadd hx hb dX12_setFor_191 ?_
      refine lv_topi (fun z121 ez121 => ?_)
      have iz121 : z121.toInt = ul.toInt + 1 := zi_add ez121 rfl rfl (by omega) (by omega)
      have hf_122 : f106 (ρ h0 2) = .inl (κ 0, 12967, .inl g27) := (k107 _ (tp_ne y1 y12 (by decide))).trans hf_102
      have hf_123 : f115 (ρ h0 2) = .inl (κ 0, 12967, .inl g27) := (k116 _ (tp_ne y1 y12 (by decide))).trans hf_122
      obtain ⟨q124, eq124⟩ := tp_pos (tp_in hG y1 (by decide)) hf_123
      refine va_iald hx hb hK hP q124 0 eq124 rfl (vp_in_iff.mpr ⟨by omega, by omega⟩) dX12_setFor_192 ?_
      refine lv_topi (fun z125 ez125 => ?_)
      refine lv_aload_n hx hb dX12_setFor_193 rfl (lv_at hl 3 rfl) ?_
      refine va_get (D := (dC, dI)) (ci := 12) (v := .ref (ρ h0 2)) (C := RX12) (T := TX12) (N := 53) hx hb hts hfX12 hown hK hP q120 eq120 rfl 2 (by decide) (hts (.fieldLink RX12 7 "ColdShipsModel" "row" "[I") (by decide +kernel)) (fun _ h9 => h9) rfl dX12_setFor_194 ?_
      refine lv_iload_n hx hb dX12_setFor_197 rfl (lv_at hl 5 rfl) ?_
      refine lv_iconst (v := 2) hx hb dX12_setFor_198 (by decide) ?_
      refine lv_iadd hx hb dX12_setFor_199 ?_
      refine lv_topi (fun z126 ez126 => ?_)
      have iz126 : z126.toInt = uc.toInt + 2 := zi_add ez126 rfl rfl (by omega) (by omega)
      refine va_iald hx hb hK hP q124 0 eq124 rfl (vp_in_iff.mpr ⟨by omega, by omega⟩) dX12_setFor_200 ?_
      refine lv_topi (fun z127 ez127 => ?_)
      refine lv_icmp_ne (tgt := 208) hx hb dX12_setFor_201 (by decide) (fun c128 => ?_) (fun c128 => ?_)
      · have ic128 : z125.toInt ≠ z127.toInt := zi_ne rfl rfl c128
        refine lv_lconst (v := 1) hx hb dX12_setFor_208 (by decide) ?_
        obtain ⟨q129, eq129⟩ := tp_pos (tp_in hG y12 (by decide)) g117
        refine va_last hx hb hK hP hD hS q129 1 eq129 rfl (vp_in_iff.mpr ⟨by decide, by decide⟩) dX12_setFor_209 (tp_k (.inl (κ 1, 9, .inr (.inl (vp_updL g118 (8 : Int32).toNatClampNeg (1 : Int64))))) hD (tp_in hG y12 (by decide)) eq129 (fun f130 H locs hP hD hS g132 k131 => ?_))
        have hT := hT.up y12 g132 k131 tp_o60
        have hR := hR.up y12 (by decide) k131
        generalize (vp_updL g118 (8 : Int32).toNatClampNeg (1 : Int64)) = g133 at g132
        exact W.vret hx hb hr (fun t ht hW => ⟨⟨f130, rfl, ⟨hT, hR, trivial⟩, by rw [ht]; exact hP, va_K.moved hW.alike hK, hD⟩, hS.F ht⟩) hS.2.2 dX12_setFor_210
      · have ic128 : z125.toInt = z127.toInt := zi_nef rfl rfl c128
        refine lv_lconst (v := 0) hx hb dX12_setFor_204 (by decide) ?_
        refine lv_goto (tgt := 209) hx hb dX12_setFor_205 (by decide) ?_
        obtain ⟨q134, eq134⟩ := tp_pos (tp_in hG y12 (by decide)) g117
        refine va_last hx hb hK hP hD hS q134 1 eq134 rfl (vp_in_iff.mpr ⟨by decide, by decide⟩) dX12_setFor_209 (tp_k (.inl (κ 1, 9, .inr (.inl (vp_updL g118 (8 : Int32).toNatClampNeg (0 : Int64))))) hD (tp_in hG y12 (by decide)) eq134 (fun f135 H locs hP hD hS g137 k136 => ?_))
        have hT := hT.up y12 g137 k136 tp_o60
        have hR := hR.up y12 (by decide) k136
        generalize (vp_updL g118 (8 : Int32).toNatClampNeg (0 : Int64)) = g138 at g137
        exact W.vret hx hb hr (fun t ht hW => ⟨⟨f135, rfl, ⟨hT, hR, trivial⟩, by rw [ht]; exact hP, va_K.moved hW.alike hK, hD⟩, hS.F ht⟩) hS.2.2 dX12_setFor_210
    · refine lv_icmp_ge (tgt := 144) hx hb dX12_setFor_128 (by decide) (fun c139 => ?_) (fun c139 => ?_)
      · have ic139 : z32.toInt ≥ z89.toInt := zi_ge rfl rfl c139
        refine lv_lconst (v := 0) hx hb dX12_setFor_144 (by decide) ?_
        exact hj91 _ _ _ _ ⟨0, rfl, hP, hD, hS, lv_sub hl [0, 1, 2, 3, 4, 5, 6] rfl⟩
      · have ic139 : z32.toInt < z89.toInt := zi_gef rfl rfl c139
        refine lv_aload_n hx hb dX12_setFor_131 rfl (lv_at hl 3 rfl) ?_
        refine va_get (D := (dC, dI)) (ci := 12) (v := .ref (ρ h0 2)) (C := RX12) (T := TX12) (N := 53) hx hb hts hfX12 hown hK hP q87 eq87 rfl 2 (by decide) (hts (.fieldLink RX12 7 "ColdShipsModel" "row" "[I") (by decide +kernel)) (fun _ h9 => h9) rfl dX12_setFor_132 ?_
        refine lv_iload_n hx hb dX12_setFor_135 rfl (lv_at hl 5 rfl) ?_
        refine va_iald hx hb hK hP q88 0 eq88 rfl (vp_in_iff.mpr ⟨by omega, by omega⟩) dX12_setFor_136 ?_
        refine lv_topi (fun z140 ez140 => ?_)
        refine lv_iload hx hb dX12_setFor_137 (lv_at hl 2 rfl) ?_
        refine lv_isub hx hb dX12_setFor_139 ?_
        refine lv_topi (fun z141 ez141 => ?_)
        refine lv_i2l hx hb dX12_setFor_140 rfl ?_
        refine lv_goto (tgt := 145) hx hb dX12_setFor_141 (by decide) ?_
        exact hj91 _ _ _ _ ⟨z141.toInt64, rfl, hP, hD, hS, lv_sub hl [0, 1, 2, 3, 4, 5, 6] rfl⟩
  · have ic85 : w79.toInt ≤ z34.toInt := zi_gtf rfl rfl c85
    refine lv_aload_n hx hb dX12_setFor_85 rfl (lv_at hl 3 rfl) ?_
    obtain ⟨o142_x0, o142_x1, o142_x7, o142_x9, o142_x10, o142_x11, o142_x12, o142_x13, o142_x14, o142_x15, o142_x16, o142_x17, o142_x18, o142_x19, o142_x20, o142_x22, o142_x25, o142_x28, o142_x29, o142_x32, o142_x33, o142_x34, o142_x35, o142_x36, o142_x37, o142_x38, o142_x47, o142_x48, hf_o142, ro142_0, ro142_1, ro142_2, ro142_3, ro142_4, ro142_5, ro142_6, ro142_7, ro142_8, ro142_9, ro142_10, ro142_11, ro142_12, ro142_13⟩ := tpo_13 hT ht_h0
    obtain ⟨q143, eq143⟩ := tp_pos (tp_in hG ht_h0 (by decide)) hf_o142
    refine va_get (D := (dC, dI)) (ci := 12) (v := .ref (ρ h0 30)) (C := RX12) (T := TX12) (N := 53) hx hb hts hfX12 hown hK hP q143 eq143 rfl 30 (by decide) (hts (.fieldLink RX12 49 "ColdShipsModel" "set" "[J") (by decide +kernel)) (fun _ h9 => h9) rfl dX12_setFor_86 ?_
    refine lv_iconst (v := 4) hx hb dX12_setFor_89 (by decide) ?_
    refine lv_dup2_11 hx hb dX12_setFor_90 rfl rfl ?_
    obtain ⟨g145, hf_o144⟩ := tpo_60 hT y12
    obtain ⟨q146, eq146⟩ := tp_pos (tp_in hG y12 (by decide)) hf_o144
    refine va_lald hx hb hK hP q146 1 eq146 rfl (vp_in_iff.mpr ⟨by decide, by decide⟩) dX12_setFor_91 ?_
    refine lv_topl (fun z147 ez147 => ?_)
    refine lv_aload_n hx hb dX12_setFor_92 rfl (lv_at hl 3 rfl) ?_
    refine lv_iload hx hb dX12_setFor_93 (lv_at hl 0 rfl) ?_
    refine lv_iload_n hx hb dX12_setFor_95 rfl (lv_at hl 6 rfl) ?_
    refine pz_calli (va_runV (As := [.int w79, .int a]) (rest := [.long z147, .int 4, .ref (ρ h0 30)]) ⟨hx, hb, hml, hown, hts⟩ (t_X12_isForce l dC dI _ κ τ ν ρ L f81 hG hT h0 w79 a x b ht_h0 (by rw [hk80k, mo_i1]; exact hI)) (cwV 2 hts gX12_setFor_X12_isForce rfl rfl rfl (by decide +kernel) ⟨Nat.le_of_ble_eq_true rfl, Nat.le_of_ble_eq_true rfl⟩) ⟨pz_blind, va_recv hK hP (ci := 12) (q0 := q143) rfl eq143, pz_pre hP hK hD hN⟩ rfl rfl hl.1 rfl (lv_room (Nat.le_of_ble_eq_true rfl)) dX12_setFor_96 ⟨Nat.le_of_ble_eq_true rfl, Nat.le_of_ble_eq_true rfl⟩) (fun r148 hw149 => ?_)
    obtain ⟨hw149r, hw149p⟩ := hw149
    refine lv_if_eq (tgt := 106) hx hb dX12_setFor_99 (by decide) (fun c150 => ?_) (fun c150 => ?_)
    · have ic150 : r148.toInt = 0 := zi_eq rfl rfl c150
      refine lv_lconst (v := 1) hx hb dX12_setFor_106 (by decide) ?_
      refine lv_ladd hx hb dX12_setFor_107 ?_
      refine lv_topl (fun z151 ez151 => ?_)
      refine va_last hx hb hK hP hD hS q146 1 eq146 rfl (vp_in_iff.mpr ⟨by decide, by decide⟩) dX12_setFor_108 (tp_k (.inl (κ 1, 9, .inr (.inl (vp_updL g145 (4 : Int32).toNatClampNeg z151)))) hD (tp_in hG y12 (by decide)) eq146 (fun f152 H locs hP hD hS g154 k153 => ?_))
      have hT := hT.up y12 g154 k153 tp_o60
      have hR := hR.up y12 (by decide) k153
      generalize (vp_updL g145 (4 : Int32).toNatClampNeg z151) = g155 at g154
      obtain ⟨z156, ez156⟩ : ∃ y : Int32, y = w79 + 1 := ⟨_, rfl⟩
      refine lv_iinc (v := z156) (lv' := [(6, .int z156), (5, .int z34), (4, .int z32), (0, .ref h0), (1, .int ul), (2, .int uc), (3, .int a)]) hx hb dX12_setFor_109 hl (k := 0) rfl (by rw [ez156]; rfl) (by decide) rfl (fun ls hl => ?_)
      have := zi_bd w79
      have iz156 : z156.toInt = w79.toInt + 1 := zi_add ez156 rfl rfl (by omega) (by omega)
      refine lv_goto (tgt := 78) hx hb dX12_setFor_112 (by decide) ?_
      have hf_157 : f152 (ρ h0 2) = .inl (κ 0, 12967, .inl g27) := (k153 _ (tp_ne y1 y12 (by decide))).trans hk80k
      exact ih83 _ _ _ _ (by rw [hn84]; omega) ⟨f152, z156, rfl, hT, hR, hf_157, hP, hD, hS, lv_sub hl [0, 1, 2, 3, 4, 5, 6] rfl⟩
    · have ic150 : r148.toInt ≠ 0 := zi_eqf rfl rfl c150
      refine lv_lconst (v := 0) hx hb dX12_setFor_102 (by decide) ?_
      refine lv_goto (tgt := 107) hx hb dX12_setFor_103 (by decide) ?_
      refine lv_ladd hx hb dX12_setFor_107 ?_
      refine lv_topl (fun z158 ez158 => ?_)
      have iz158 : z158.toInt = z147.toInt + 0 := zl_add ez158 rfl rfl (by omega) (by omega)
      refine va_last hx hb hK hP hD hS q146 1 eq146 rfl (vp_in_iff.mpr ⟨by decide, by decide⟩) dX12_setFor_108 (tp_k (.inl (κ 1, 9, .inr (.inl (vp_updL g145 (4 : Int32).toNatClampNeg z158)))) hD (tp_in hG y12 (by decide)) eq146 (fun f159 H locs hP hD hS g161 k160 => ?_))
      have hT := hT.up y12 g161 k160 tp_o60
      have hR := hR.up y12 (by decide) k160
      generalize (vp_updL g145 (4 : Int32).toNatClampNeg z158) = g162 at g161
      obtain ⟨z163, ez163⟩ : ∃ y : Int32, y = w79 + 1 := ⟨_, rfl⟩
      refine lv_iinc (v := z163) (lv' := [(6, .int z163), (5, .int z34), (4, .int z32), (0, .ref h0), (1, .int ul), (2, .int uc), (3, .int a)]) hx hb dX12_setFor_109 hl (k := 0) rfl (by rw [ez163]; rfl) (by decide) rfl (fun ls hl => ?_)
      have := zi_bd w79
      have iz163 : z163.toInt = w79.toInt + 1 := zi_add ez163 rfl rfl (by omega) (by omega)
      refine lv_goto (tgt := 78) hx hb dX12_setFor_112 (by decide) ?_
      have hf_164 : f159 (ρ h0 2) = .inl (κ 0, 12967, .inl g27) := (k160 _ (tp_ne y1 y12 (by decide))).trans hk80k
      exact ih83 _ _ _ _ (by rw [hn84]; omega) ⟨f159, z163, rfl, hT, hR, hf_164, hP, hD, hS, lv_sub hl [0, 1, 2, 3, 4, 5, 6] rfl⟩
set_option maxHeartbeats 4000000 in
set_option maxRecDepth 100000 in
theorem t_X12_due (l : Launch) (dC : Nat → ClassId) (dI : Nat → Nat → Nat) (sz : Nat) (κ : Nat → ClassId) (τ ν : Nat → Nat) (ρ : Nat → Nat → Nat) (L : List Nat) (f : Nat → va_E) (hG : tp_G τ ν ρ L) (hT : tp_T (mo_O κ) κ τ ν ρ f) (h0 : Nat) (v : Int32) (u : Int32) (a : Int32) (a4 : Int32) (ht_h0 : τ h0 = 13) (hJ : mo_RI (-1) 0 (mo_R (mo_i (f (ρ h0 2))))) : Met l yX12_due wsX12_due ({ frames := 6, cells := 0, slots := 0, locals := 2000 }) (va_Pc [.ref h0, .int v, .int u, .int a, .int a4] (pz_B dC dI (tp_K κ) (va_pl L f) sz)) (va_Ql (fun (r : Int64) (f1 : Nat → va_E) => tp_T (mo_O κ) κ τ ν ρ f1 ∧ tp_F τ [13, 60, 61] f f1 ∧ True ∧ True) (fun (f1 : Nat → va_E) (t : State) => pz_E dC dI (tp_K κ) (va_A (va_pl L f) sz) (va_pl L f1) t) (va_A (va_pl L f) sz)) 0 0 (va_A (va_pl L f) sz) := by
  refine Met.ofW (cc := cX12_due) (maxL := 7) (ret := some .long) (by decide) rfl ?_
  intro p e s m args below meth c s₁ B hml hv
  obtain ⟨rfl, hsz, hP, hK, hD0, hN⟩ := hv
  have hx := B.exec
  have hb := B.bytes
  have hr := B.returns
  have hts := atoms_spec (ws := wsX12_due) B.pre
  have hown : s.vm.findClass RX12 = some m.cls := findClass_of_methodNamed B.named
  have hlocks := B.notSynchronized
  subst hsz
  have hD := hD0.self (sz := s.heap.size)
  generalize hAe : va_A (va_pl L f) s.heap.size = A at hD ⊢
  have hA : ∀ q : Nat, s.heap.size ≤ q → A q := fun q h => by rw [← hAe]; exact Or.inr h
  have hS : va_S A s.heap s.heap [] := va_S.rf
  have hR : tp_F τ [13, 60, 61] f f := tp_F.rf
  have hl := lv_entry ([.ref h0, .int v, .int u, .int a, .int a4]) (n := 7) (Nat.le_of_ble_eq_true rfl)
  rw [lg_entry_eq]
  generalize (lg_sl ([.ref h0, .int v, .int u, .int a, .int a4]) ++ List.replicate (7 - (lg_sl ([.ref h0, .int v, .int u, .int a, .int a4])).length) Slot.unset).toArray = ls at hl ⊢
  have hl : lv_has ls 7 [(0, .ref h0), (1, .int v), (2, .int u), (3, .int a), (4, .int a4)] := hl
  have hfX12 : ∀ w ∈ wsX120, w ∈ wsX12_due := fun w h => List.mem_cons_of_mem _ (List.mem_append_right _ h)
  obtain ⟨y1, y2, y3, y4, y5, y6, y7, y8, y9, y10, y11, y12, y13, y14, y15, y16, y17, y18, y19, y20, y21, y22, y23, y24, y25⟩ := tpg_13 hG ht_h0
  obtain ⟨g27, hf_o26⟩ := tpo_32 hT y1
  have hI : mo_RI (-1) 0 (mo_R g27) := by have q9 := hJ; rw [hf_o26, mo_i1] at q9; exact q9
  refine lv_aload_n hx hb dX12_due_0 rfl (lv_at hl 0 rfl) ?_
  refine lv_iconst (v := 0) hx hb dX12_due_1 (by decide) ?_
  obtain ⟨o28_x0, o28_x1, o28_x7, o28_x9, o28_x10, o28_x11, o28_x12, o28_x13, o28_x14, o28_x15, o28_x16, o28_x17, o28_x18, o28_x19, o28_x20, o28_x22, o28_x25, o28_x28, o28_x29, o28_x32, o28_x33, o28_x34, o28_x35, o28_x36, o28_x37, o28_x38, o28_x47, o28_x48, hf_o28, ro28_0, ro28_1, ro28_2, ro28_3, ro28_4, ro28_5, ro28_6, ro28_7, ro28_8, ro28_9, ro28_10, ro28_11, ro28_12, ro28_13⟩ := tpo_13 hT ht_h0
  obtain ⟨q29, eq29⟩ := tp_pos (tp_in hG ht_h0 (by decide)) hf_o28
  refine va_put (D := (dC, dI)) (ci := 12) (v := .int 0) (ty := .int) (C := RX12) (T := TX12) (N := 53) hx hb hts hfX12 tyX12 tyX12_ok nmX12 hown hK hP hD hS q29 eq29 rfl 0 (by decide) (hts (.fieldLink RX12 91 "ColdShipsModel" "thrown" "I") (by decide +kernel)) (fun _ h9 => h9) rfl (by decide +kernel) rfl rfl (Nat.le_of_ble_eq_true rfl) dX12_due_2 (tp_k (.inr (12, [.int 0, .int o28_x1, .ref (ρ h0 2), .ref (ρ h0 3), .ref (ρ h0 4), .ref (ρ h0 5), .ref (ρ h0 6), .int o28_x7, .ref (ρ h0 8), .int o28_x9, .int o28_x10, .int o28_x11, .int o28_x12, .long o28_x13, .int o28_x14, .int o28_x15, .int o28_x16, .int o28_x17, .int o28_x18, .int o28_x19, .int o28_x20, .ref (ρ h0 21), .int o28_x22, .ref (ρ h0 23), .ref (ρ h0 24), .int o28_x25, .ref (ρ h0 26), .ref (ρ h0 27), .int o28_x28, .int o28_x29, .ref (ρ h0 30), .ref (ρ h0 31), .int o28_x32, .long o28_x33, .long o28_x34, .long o28_x35, .int o28_x36, .int o28_x37, .int o28_x38, .ref (ρ h0 39), .ref (ρ h0 40), .ref (ρ h0 41), .ref (ρ h0 42), .ref (ρ h0 43), .ref (ρ h0 44), .ref (ρ h0 45), .ref (ρ h0 46), .int o28_x47, .int o28_x48, .ref (ρ h0 49), .ref (ρ h0 50), .ref (ρ h0 51), .ref (ρ h0 52)])) hD (tp_in hG ht_h0 (by decide)) eq29 (fun f30 H locs hP hD hS g32 k31 => ?_))
  have hT := hT.up ht_h0 g32 k31 ⟨_, _, _, _, _, _, _, _, _, _, _, _, _, _, _, _, _, _, _, _, _, _, _, _, _, _, _, _, rfl, ro28_0, ro28_1, ro28_2, ro28_3, ro28_4, ro28_5, ro28_6, ro28_7, ro28_8, ro28_9, ro28_10, ro28_11, ro28_12, ro28_13⟩
  have hR := hR.up ht_h0 (by decide) k31
  refine lv_aload_n hx hb dX12_due_5 rfl (lv_at hl 0 rfl) ?_
  refine lv_iload_n hx hb dX12_due_6 rfl (lv_at hl 1 rfl) ?_
  have hf_33 : f30 (ρ h0 2) = .inl (κ 0, 12967, .inl g27) := (k31 _ (tp_ne y1 ht_h0 (by decide))).trans hf_o26
  obtain ⟨q34, eq34⟩ := tp_pos (tp_in hG ht_h0 (by decide)) g32
  refine pz_calli (va_runV (As := [.int v]) (rest := []) ⟨hx, hb, hml, hown, hts⟩ (t_X12_isLanding l dC dI _ κ τ ν ρ L f30 hG hT h0 v (-1) 0 ht_h0 (by rw [hf_33, mo_i1]; exact hI)) (cwV 1 hts gX12_due_X12_isLanding rfl rfl rfl (by decide +kernel) ⟨Nat.le_of_ble_eq_true rfl, Nat.le_of_ble_eq_true rfl⟩) ⟨pz_blind, va_recv hK hP (ci := 12) (q0 := q34) rfl eq34, pz_pre hP hK hD hN⟩ rfl rfl hl.1 rfl (lv_room (Nat.le_of_ble_eq_true rfl)) dX12_due_7 ⟨Nat.le_of_ble_eq_true rfl, Nat.le_of_ble_eq_true rfl⟩) (fun r35 hw36 => ?_)
  obtain ⟨hw36r, hw36p⟩ := hw36
  have := hI.k5
  rw [hf_33, mo_i1] at hw36p
  refine lv_if_eq (tgt := 41) hx hb dX12_due_10 (by decide) (fun c37 => ?_) (fun c37 => ?_)
  · have ic37 : r35.toInt = 0 := zi_eq rfl rfl c37
    refine lv_ldc2 (own := RX12) (v := (-2000000000000000)) hx hb hown (hts (.constantLong RX12 466 (-2000000000000000)) (by decide +kernel)) dX12_due_41 ?_
    exact W.lret (v := (-2000000000000000)) hx hb hr (fun t ht hW => ⟨⟨(-2000000000000000), f30, rfl, ⟨hT, hR, trivial, trivial⟩, by rw [ht]; exact hP, va_K.moved hW.alike hK, hD⟩, hS.F ht⟩) hS.2.2 dX12_due_44
  · have ic37 : r35.toInt ≠ 0 := zi_eqf rfl rfl c37
    have p38 : 0 ≤ v.toInt ∧ v.toInt < mo_R g27 5 := (tp_cond.yes hw36p) (by omega)
    refine lv_aload_n hx hb dX12_due_13 rfl (lv_at hl 0 rfl) ?_
    refine lv_iload_n hx hb dX12_due_14 rfl (lv_at hl 2 rfl) ?_
    refine pz_calli (va_runV (As := [.int u]) (rest := []) ⟨hx, hb, hml, hown, hts⟩ (t_X12_isContract l dC dI _ κ τ ν ρ L f30 hG hT h0 u (-1) 0 ht_h0 (by rw [hf_33, mo_i1]; exact hI)) (cwV 1 hts gX12_due_X12_isContract rfl rfl rfl (by decide +kernel) ⟨Nat.le_of_ble_eq_true rfl, Nat.le_of_ble_eq_true rfl⟩) ⟨pz_blind, va_recv hK hP (ci := 12) (q0 := q34) rfl eq34, pz_pre hP hK hD hN⟩ rfl rfl hl.1 rfl (lv_room (Nat.le_of_ble_eq_true rfl)) dX12_due_15 ⟨Nat.le_of_ble_eq_true rfl, Nat.le_of_ble_eq_true rfl⟩) (fun r39 hw40 => ?_)
    obtain ⟨hw40r, hw40p⟩ := hw40
    have := hI.k8
    rw [hf_33, mo_i1] at hw40p
    refine lv_if_eq (tgt := 41) hx hb dX12_due_18 (by decide) (fun c41 => ?_) (fun c41 => ?_)
    · have ic41 : r39.toInt = 0 := zi_eq rfl rfl c41
      refine lv_ldc2 (own := RX12) (v := (-2000000000000000)) hx hb hown (hts (.constantLong RX12 466 (-2000000000000000)) (by decide +kernel)) dX12_due_41 ?_
      exact W.lret (v := (-2000000000000000)) hx hb hr (fun t ht hW => ⟨⟨(-2000000000000000), f30, rfl, ⟨hT, hR, trivial, trivial⟩, by rw [ht]; exact hP, va_K.moved hW.alike hK, hD⟩, hS.F ht⟩) hS.2.2 dX12_due_44
    · have ic41 : r39.toInt ≠ 0 := zi_eqf rfl rfl c41
      have p42 : 0 ≤ u.toInt ∧ u.toInt < mo_R g27 8 := (tp_cond.yes hw40p) (by omega)
      refine lv_iload_n hx hb dX12_due_21 rfl (lv_at hl 3 rfl) ?_
      refine pz_calli (va_runS (As := [.int a]) (rest := []) ⟨hx, hb, hml, hown, hts⟩ (t_X12_isHour l dC dI _ a (a.toInt) rfl) (va_cwS 1 hts gX12_due_X12_isHour rfl rfl rfl (by decide +kernel) ⟨Nat.le_of_ble_eq_true rfl, Nat.le_of_ble_eq_true rfl⟩) ⟨pz_blind, pz_pre pz_P0 (hK.sub (tys' := []) [] rfl) (pz_D0 (A := fun _ => True)) hN⟩ rfl rfl hl.1 rfl (lv_room (Nat.le_of_ble_eq_true rfl)) dX12_due_22 ⟨Nat.le_of_ble_eq_true rfl, Nat.le_of_ble_eq_true rfl⟩) (fun r43 hw44 => ?_)
      obtain ⟨hw44r, hw44p⟩ := hw44
      refine lv_if_eq (tgt := 41) hx hb dX12_due_25 (by decide) (fun c45 => ?_) (fun c45 => ?_)
      · have ic45 : r43.toInt = 0 := zi_eq rfl rfl c45
        refine lv_ldc2 (own := RX12) (v := (-2000000000000000)) hx hb hown (hts (.constantLong RX12 466 (-2000000000000000)) (by decide +kernel)) dX12_due_41 ?_
        exact W.lret (v := (-2000000000000000)) hx hb hr (fun t ht hW => ⟨⟨(-2000000000000000), f30, rfl, ⟨hT, hR, trivial, trivial⟩, by rw [ht]; exact hP, va_K.moved hW.alike hK, hD⟩, hS.F ht⟩) hS.2.2 dX12_due_44
      · have ic45 : r43.toInt ≠ 0 := zi_eqf rfl rfl c45
        have p46 : 0 ≤ (a.toInt) ∧ (a.toInt) ≤ 2399 := (tp_cond.yes hw44p) (by omega)
        refine lv_iload hx hb dX12_due_28 (lv_at hl 4 rfl) ?_
        refine lv_i2l hx hb dX12_due_30 rfl ?_
        refine lv_lconst (v := 0) hx hb dX12_due_31 (by decide) ?_
        refine lv_ldc2 (own := RX12) (v := 4) hx hb hown (hts (.constantLong RX12 464 (4)) (by decide +kernel)) dX12_due_32 ?_
        refine pz_calli (va_runS (As := [.long a4.toInt64, .long 0, .long 4]) (rest := []) ⟨hx, hb, hml, hown, hts⟩ (t_X12_in l dC dI _ a4.toInt64 (0) (4) (a4.toInt) (0) (4) (Int32.toInt_toInt64 a4) rfl rfl) (va_cwS 3 hts gX12_due_X12_in rfl rfl rfl (by decide +kernel) ⟨Nat.le_of_ble_eq_true rfl, Nat.le_of_ble_eq_true rfl⟩) ⟨pz_blind, pz_pre pz_P0 (hK.sub (tys' := []) [] rfl) (pz_D0 (A := fun _ => True)) hN⟩ rfl rfl hl.1 rfl (lv_room (Nat.le_of_ble_eq_true rfl)) dX12_due_35 ⟨Nat.le_of_ble_eq_true rfl, Nat.le_of_ble_eq_true rfl⟩) (fun r47 hw48 => ?_)
        obtain ⟨hw48r, hw48p⟩ := hw48
        refine lv_if_ne (tgt := 45) hx hb dX12_due_38 (by decide) (fun c49 => ?_) (fun c49 => ?_)
        · have ic49 : r47.toInt ≠ 0 := zi_ne rfl rfl c49
          have p50 : (0) ≤ (a4.toInt) ∧ (a4.toInt) ≤ (4) := (tp_cond.yes hw48p) (by omega)
          refine lv_iload_n hx hb dX12_due_45 rfl (lv_at hl 1 rfl) ?_
          refine pz_calli (va_runS (As := [.int v]) (rest := []) ⟨hx, hb, hml, hown, hts⟩ (t_X12_landingAt l dC dI _ v (v.toInt) (by omega) rfl) (va_cwS 1 hts gX12_due_X12_landingAt rfl rfl rfl (by decide +kernel) ⟨Nat.le_of_ble_eq_true rfl, Nat.le_of_ble_eq_true rfl⟩) ⟨pz_blind, pz_pre pz_P0 (hK.sub (tys' := []) [] rfl) (pz_D0 (A := fun _ => True)) hN⟩ rfl rfl hl.1 rfl (lv_room (Nat.le_of_ble_eq_true rfl)) dX12_due_46 ⟨Nat.le_of_ble_eq_true rfl, Nat.le_of_ble_eq_true rfl⟩) (fun r51 hw52 => ?_)
          obtain ⟨hw52r, hw52p⟩ := hw52
          refine lv_istore (lv' := [(5, .int r51), (0, .ref h0), (1, .int v), (2, .int u), (3, .int a), (4, .int a4)]) hx hb dX12_due_49 hl (by decide) rfl (fun ls hl => ?_)
          refine lv_iload_n hx hb dX12_due_51 rfl (lv_at hl 3 rfl) ?_
          refine pz_calli (va_runS (As := [.int u]) (rest := []) ⟨hx, hb, hml, hown, hts⟩ (t_X12_contractAt l dC dI _ u (u.toInt) (by omega) rfl) (va_cwS 1 hts gX12_due_X12_contractAt rfl rfl rfl (by decide +kernel) ⟨Nat.le_of_ble_eq_true rfl, Nat.le_of_ble_eq_true rfl⟩) ⟨pz_blind, pz_pre pz_P0 (hK.sub (tys' := []) [] rfl) (pz_D0 (A := fun _ => True)) hN⟩ rfl rfl hl.1 rfl (lv_room (Nat.le_of_ble_eq_true rfl)) dX12_due_52 ⟨Nat.le_of_ble_eq_true rfl, Nat.le_of_ble_eq_true rfl⟩) (fun r53 hw54 => ?_)
          obtain ⟨hw54r, hw54p⟩ := hw54
          refine lv_istore (lv' := [(6, .int r53), (5, .int r51), (0, .ref h0), (1, .int v), (2, .int u), (3, .int a), (4, .int a4)]) hx hb dX12_due_55 hl (by decide) rfl (fun ls hl => ?_)
          refine lv_aload_n hx hb dX12_due_57 rfl (lv_at hl 2 rfl) ?_
          refine lv_iload hx hb dX12_due_58 (lv_at hl 1 rfl) ?_
          refine lv_iload hx hb dX12_due_60 (lv_at hl 0 rfl) ?_
          refine lv_iload_n hx hb dX12_due_62 rfl (lv_at hl 5 rfl) ?_
          have hFc := tp_fr hD hS hA
          refine va_callv (va_runV (As := [.int r51, .int r53, .int a]) (rest := []) ⟨hx, hb, hml, hown, hts⟩ (t_X12_setFor l dC dI _ κ τ ν ρ L f30 hG hT h0 r51 r53 a (-1) 0 v.toInt u.toInt ht_h0 (by omega) (by omega) (by omega) (by omega) (by rw [hf_33, mo_i1]; exact hI) (by simp only [hf_33, hf_o26, mo_i1]; try omega) (by simp only [hf_33, hf_o26, mo_i1]; try omega)) (cwV 3 hts gX12_due_X12_setFor rfl rfl rfl (by decide +kernel) ⟨Nat.le_of_ble_eq_true rfl, Nat.le_of_ble_eq_true rfl⟩) ⟨pz_blind, va_recv hK hP (ci := 12) (q0 := q34) rfl eq34, pz_pre hP hK hD hN⟩ rfl rfl hl.1 rfl (lv_room (Nat.le_of_ble_eq_true rfl)) dX12_due_63 ⟨Nat.le_of_ble_eq_true rfl, Nat.le_of_ble_eq_true rfl⟩) hS (fun q _ h => hFc q h) hFc (fun f57 t H1 locs ht hvm hw56 hB hz1 hk1 hS => ?_)
          obtain ⟨hT, hF58, hw56p⟩ := hw56
          have hR := hR.then hF58 (by decide)
          have hP := hB.1; rw [ht] at hP; have hD := tp_ad f57 hD; clear hB hFc hz1 hk1; subst ht; generalize t.heap = H at hP hS ⊢
          refine lv_aload_n hx hb dX12_due_66 rfl (lv_at hl 2 rfl) ?_
          refine lv_iload hx hb dX12_due_67 (lv_at hl 1 rfl) ?_
          refine lv_iload hx hb dX12_due_69 (lv_at hl 0 rfl) ?_
          have hf_59 : f57 (ρ h0 2) = .inl (κ 0, 12967, .inl g27) := (hF58 _ (by rw [y1]; decide)).trans hf_33
          have hf_60 : f57 h0 = .inr (12, [.int 0, .int o28_x1, .ref (ρ h0 2), .ref (ρ h0 3), .ref (ρ h0 4), .ref (ρ h0 5), .ref (ρ h0 6), .int o28_x7, .ref (ρ h0 8), .int o28_x9, .int o28_x10, .int o28_x11, .int o28_x12, .long o28_x13, .int o28_x14, .int o28_x15, .int o28_x16, .int o28_x17, .int o28_x18, .int o28_x19, .int o28_x20, .ref (ρ h0 21), .int o28_x22, .ref (ρ h0 23), .ref (ρ h0 24), .int o28_x25, .ref (ρ h0 26), .ref (ρ h0 27), .int o28_x28, .int o28_x29, .ref (ρ h0 30), .ref (ρ h0 31), .int o28_x32, .long o28_x33, .long o28_x34, .long o28_x35, .int o28_x36, .int o28_x37, .int o28_x38, .ref (ρ h0 39), .ref (ρ h0 40), .ref (ρ h0 41), .ref (ρ h0 42), .ref (ρ h0 43), .ref (ρ h0 44), .ref (ρ h0 45), .ref (ρ h0 46), .int o28_x47, .int o28_x48, .ref (ρ h0 49), .ref (ρ h0 50), .ref (ρ h0 51), .ref (ρ h0 52)]) := (hF58 _ (by rw [ht_h0]; decide)).trans g32
          obtain ⟨q61, eq61⟩ := tp_pos (tp_in hG ht_h0 (by decide)) hf_60
          have hFc := tp_fr hD hS hA
          refine va_callv (va_runV (As := [.int r51, .int r53]) (rest := []) ⟨hx, hb, hml, hown, hts⟩ (t_X12_judgeLanding l dC dI _ κ τ ν ρ L f57 hG hT h0 r51 r53 (-1) 0 u.toInt ht_h0 (by omega) (by omega) (by rw [hf_59, mo_i1]; exact hI) (by simp only [hf_59, hf_o26, mo_i1]; try omega)) (cwV 2 hts gX12_due_X12_judgeLanding rfl rfl rfl (by decide +kernel) ⟨Nat.le_of_ble_eq_true rfl, Nat.le_of_ble_eq_true rfl⟩) ⟨pz_blind, va_recv hK hP (ci := 12) (q0 := q61) rfl eq61, pz_pre hP hK hD hN⟩ rfl rfl hl.1 rfl (lv_room (Nat.le_of_ble_eq_true rfl)) dX12_due_71 ⟨Nat.le_of_ble_eq_true rfl, Nat.le_of_ble_eq_true rfl⟩) hS (fun q _ h => hFc q h) hFc (fun f64 t H1 locs ht hvm hw63 hB hz1 hk1 hS => ?_)
          obtain ⟨hT, hF65, hw63p⟩ := hw63
          have hR := hR.then hF65 (by decide)
          have hP := hB.1; rw [ht] at hP; have hD := tp_ad f64 hD; clear hB hFc hz1 hk1; subst ht; generalize t.heap = H at hP hS ⊢
          refine lv_iload hx hb dX12_due_74 (lv_at hl 6 rfl) ?_
          refine lv_if_ne (tgt := 91) hx hb dX12_due_76 (by decide) (fun c66 => ?_) (fun c66 => ?_)
          · have ic66 : a4.toInt ≠ 0 := zi_ne rfl rfl c66
            refine lv_iload hx hb dX12_due_91 (lv_at hl 6 rfl) ?_
            refine lv_iconst (v := 1) hx hb dX12_due_93 (by decide) ?_
            refine lv_icmp_ne (tgt := 104) hx hb dX12_due_94 (by decide) (fun c67 => ?_) (fun c67 => ?_)
            · have ic67 : a4.toInt ≠ 1 := zi_ne rfl rfl c67
              refine lv_iload hx hb dX12_due_104 (lv_at hl 6 rfl) ?_
              refine lv_iconst (v := 2) hx hb dX12_due_106 (by decide) ?_
              refine lv_icmp_ne (tgt := 117) hx hb dX12_due_107 (by decide) (fun c68 => ?_) (fun c68 => ?_)
              · have ic68 : a4.toInt ≠ 2 := zi_ne rfl rfl c68
                refine lv_iload hx hb dX12_due_117 (lv_at hl 6 rfl) ?_
                refine lv_iconst (v := 3) hx hb dX12_due_119 (by decide) ?_
                refine lv_icmp_ne (tgt := 132) hx hb dX12_due_120 (by decide) (fun c69 => ?_) (fun c69 => ?_)
                · have ic69 : a4.toInt ≠ 3 := zi_ne rfl rfl c69
                  refine lv_aload_n hx hb dX12_due_132 rfl (lv_at hl 2 rfl) ?_
                  obtain ⟨o70_x0, o70_x1, o70_x7, o70_x9, o70_x10, o70_x11, o70_x12, o70_x13, o70_x14, o70_x15, o70_x16, o70_x17, o70_x18, o70_x19, o70_x20, o70_x22, o70_x25, o70_x28, o70_x29, o70_x32, o70_x33, o70_x34, o70_x35, o70_x36, o70_x37, o70_x38, o70_x47, o70_x48, hf_o70, ro70_0, ro70_1, ro70_2, ro70_3, ro70_4, ro70_5, ro70_6, ro70_7, ro70_8, ro70_9, ro70_10, ro70_11, ro70_12, ro70_13⟩ := tpo_13 hT ht_h0
                  obtain ⟨q71, eq71⟩ := tp_pos (tp_in hG ht_h0 (by decide)) hf_o70
                  refine va_get (D := (dC, dI)) (ci := 12) (v := .ref (ρ h0 30)) (C := RX12) (T := TX12) (N := 53) hx hb hts hfX12 hown hK hP q71 eq71 rfl 30 (by decide) (hts (.fieldLink RX12 49 "ColdShipsModel" "set" "[J") (by decide +kernel)) (fun _ h9 => h9) rfl dX12_due_133 ?_
                  refine lv_bipush (v := 6) hx hb dX12_due_136 (by decide) ?_
                  obtain ⟨g73, hf_o72⟩ := tpo_60 hT y12
                  obtain ⟨q74, eq74⟩ := tp_pos (tp_in hG y12 (by decide)) hf_o72
                  refine va_lald hx hb hK hP q74 1 eq74 rfl (vp_in_iff.mpr ⟨by decide, by decide⟩) dX12_due_138 ?_
                  refine lv_topl (fun z75 ez75 => ?_)
                  exact W.lret (v := z75) hx hb hr (fun t ht hW => ⟨⟨z75, f64, rfl, ⟨hT, hR, trivial, trivial⟩, by rw [ht]; exact hP, va_K.moved hW.alike hK, hD⟩, hS.F ht⟩) hS.2.2 dX12_due_139
                · have ic69 : a4.toInt = 3 := zi_nef rfl rfl c69
                  refine lv_aload_n hx hb dX12_due_123 rfl (lv_at hl 2 rfl) ?_
                  obtain ⟨o76_x0, o76_x1, o76_x7, o76_x9, o76_x10, o76_x11, o76_x12, o76_x13, o76_x14, o76_x15, o76_x16, o76_x17, o76_x18, o76_x19, o76_x20, o76_x22, o76_x25, o76_x28, o76_x29, o76_x32, o76_x33, o76_x34, o76_x35, o76_x36, o76_x37, o76_x38, o76_x47, o76_x48, hf_o76, ro76_0, ro76_1, ro76_2, ro76_3, ro76_4, ro76_5, ro76_6, ro76_7, ro76_8, ro76_9, ro76_10, ro76_11, ro76_12, ro76_13⟩ := tpo_13 hT ht_h0
                  obtain ⟨q77, eq77⟩ := tp_pos (tp_in hG ht_h0 (by decide)) hf_o76
                  refine va_get (D := (dC, dI)) (ci := 12) (v := .ref (ρ h0 30)) (C := RX12) (T := TX12) (N := 53) hx hb hts hfX12 hown hK hP q77 eq77 rfl 30 (by decide) (hts (.fieldLink RX12 49 "ColdShipsModel" "set" "[J") (by decide +kernel)) (fun _ h9 => h9) rfl dX12_due_124 ?_
                  refine lv_iconst (v := 4) hx hb dX12_due_127 (by decide) ?_
                  obtain ⟨g79, hf_o78⟩ := tpo_60 hT y12
                  obtain ⟨q80, eq80⟩ := tp_pos (tp_in hG y12 (by decide)) hf_o78
                  refine va_lald hx hb hK hP q80 1 eq80 rfl (vp_in_iff.mpr ⟨by decide, by decide⟩) dX12_due_128 ?_
                  refine lv_topl (fun z81 ez81 => ?_)
                  refine lv_goto (tgt := 139) hx hb dX12_due_129 (by decide) ?_
                  exact W.lret (v := z81) hx hb hr (fun t ht hW => ⟨⟨z81, f64, rfl, ⟨hT, hR, trivial, trivial⟩, by rw [ht]; exact hP, va_K.moved hW.alike hK, hD⟩, hS.F ht⟩) hS.2.2 dX12_due_139
              · have ic68 : a4.toInt = 2 := zi_nef rfl rfl c68
                refine lv_aload_n hx hb dX12_due_110 rfl (lv_at hl 2 rfl) ?_
                obtain ⟨o82_x0, o82_x1, o82_x7, o82_x9, o82_x10, o82_x11, o82_x12, o82_x13, o82_x14, o82_x15, o82_x16, o82_x17, o82_x18, o82_x19, o82_x20, o82_x22, o82_x25, o82_x28, o82_x29, o82_x32, o82_x33, o82_x34, o82_x35, o82_x36, o82_x37, o82_x38, o82_x47, o82_x48, hf_o82, ro82_0, ro82_1, ro82_2, ro82_3, ro82_4, ro82_5, ro82_6, ro82_7, ro82_8, ro82_9, ro82_10, ro82_11, ro82_12, ro82_13⟩ := tpo_13 hT ht_h0
                obtain ⟨q83, eq83⟩ := tp_pos (tp_in hG ht_h0 (by decide)) hf_o82
                refine va_get (D := (dC, dI)) (ci := 12) (v := .long o82_x35) (C := RX12) (T := TX12) (N := 53) hx hb hts hfX12 hown hK hP q83 eq83 rfl 35 (by decide) (hts (.fieldLink RX12 455 "ColdShipsModel" "fines" "J") (by decide +kernel)) (fun _ h9 => h9) rfl dX12_due_111 ?_
                refine lv_goto (tgt := 139) hx hb dX12_due_114 (by decide) ?_
                exact W.lret (v := o82_x35) hx hb hr (fun t ht hW => ⟨⟨o82_x35, f64, rfl, ⟨hT, hR, trivial, trivial⟩, by rw [ht]; exact hP, va_K.moved hW.alike hK, hD⟩, hS.F ht⟩) hS.2.2 dX12_due_139
            · have ic67 : a4.toInt = 1 := zi_nef rfl rfl c67
              refine lv_aload_n hx hb dX12_due_97 rfl (lv_at hl 2 rfl) ?_
              obtain ⟨o84_x0, o84_x1, o84_x7, o84_x9, o84_x10, o84_x11, o84_x12, o84_x13, o84_x14, o84_x15, o84_x16, o84_x17, o84_x18, o84_x19, o84_x20, o84_x22, o84_x25, o84_x28, o84_x29, o84_x32, o84_x33, o84_x34, o84_x35, o84_x36, o84_x37, o84_x38, o84_x47, o84_x48, hf_o84, ro84_0, ro84_1, ro84_2, ro84_3, ro84_4, ro84_5, ro84_6, ro84_7, ro84_8, ro84_9, ro84_10, ro84_11, ro84_12, ro84_13⟩ := tpo_13 hT ht_h0
              obtain ⟨q85, eq85⟩ := tp_pos (tp_in hG ht_h0 (by decide)) hf_o84
              refine va_get (D := (dC, dI)) (ci := 12) (v := .long o84_x34) (C := RX12) (T := TX12) (N := 53) hx hb hts hfX12 hown hK hP q85 eq85 rfl 34 (by decide) (hts (.fieldLink RX12 452 "ColdShipsModel" "pays" "J") (by decide +kernel)) (fun _ h9 => h9) rfl dX12_due_98 ?_
              refine lv_goto (tgt := 139) hx hb dX12_due_101 (by decide) ?_
              exact W.lret (v := o84_x34) hx hb hr (fun t ht hW => ⟨⟨o84_x34, f64, rfl, ⟨hT, hR, trivial, trivial⟩, by rw [ht]; exact hP, va_K.moved hW.alike hK, hD⟩, hS.F ht⟩) hS.2.2 dX12_due_139
          · have ic66 : a4.toInt = 0 := zi_nef rfl rfl c66
            refine lv_aload_n hx hb dX12_due_79 rfl (lv_at hl 2 rfl) ?_
            obtain ⟨o86_x0, o86_x1, o86_x7, o86_x9, o86_x10, o86_x11, o86_x12, o86_x13, o86_x14, o86_x15, o86_x16, o86_x17, o86_x18, o86_x19, o86_x20, o86_x22, o86_x25, o86_x28, o86_x29, o86_x32, o86_x33, o86_x34, o86_x35, o86_x36, o86_x37, o86_x38, o86_x47, o86_x48, hf_o86, ro86_0, ro86_1, ro86_2, ro86_3, ro86_4, ro86_5, ro86_6, ro86_7, ro86_8, ro86_9, ro86_10, ro86_11, ro86_12, ro86_13⟩ := tpo_13 hT ht_h0
            obtain ⟨q87, eq87⟩ := tp_pos (tp_in hG ht_h0 (by decide)) hf_o86
            refine va_get (D := (dC, dI)) (ci := 12) (v := .long o86_x34) (C := RX12) (T := TX12) (N := 53) hx hb hts hfX12 hown hK hP q87 eq87 rfl 34 (by decide) (hts (.fieldLink RX12 452 "ColdShipsModel" "pays" "J") (by decide +kernel)) (fun _ h9 => h9) rfl dX12_due_80 ?_
            refine lv_aload_n hx hb dX12_due_83 rfl (lv_at hl 2 rfl) ?_
            refine va_get (D := (dC, dI)) (ci := 12) (v := .long o86_x35) (C := RX12) (T := TX12) (N := 53) hx hb hts hfX12 hown hK hP q87 eq87 rfl 35 (by decide) (hts (.fieldLink RX12 455 "ColdShipsModel" "fines" "J") (by decide +kernel)) (fun _ h9 => h9) rfl dX12_due_84 ?_
            refine lv_lsub hx hb dX12_due_87 ?_
            refine lv_topl (fun z88 ez88 => ?_)
            refine lv_goto (tgt := 139) hx hb dX12_due_88 (by decide) ?_
            exact W.lret (v := z88) hx hb hr (fun t ht hW => ⟨⟨z88, f64, rfl, ⟨hT, hR, trivial, trivial⟩, by rw [ht]; exact hP, va_K.moved hW.alike hK, hD⟩, hS.F ht⟩) hS.2.2 dX12_due_139
        · have ic49 : r47.toInt = 0 := zi_nef rfl rfl c49
          refine lv_ldc2 (own := RX12) (v := (-2000000000000000)) hx hb hown (hts (.constantLong RX12 466 (-2000000000000000)) (by decide +kernel)) dX12_due_41 ?_
          exact W.lret (v := (-2000000000000000)) hx hb hr (fun t ht hW => ⟨⟨(-2000000000000000), f30, rfl, ⟨hT, hR, trivial, trivial⟩, by rw [ht]; exact hP, va_K.moved hW.alike hK, hD⟩, hS.F ht⟩) hS.2.2 dX12_due_44
set_option maxHeartbeats 4000000 in
set_option maxRecDepth 100000 in
theorem t_X12_settle (l : Launch) (dC : Nat → ClassId) (dI : Nat → Nat → Nat) (sz : Nat) (κ : Nat → ClassId) (τ ν : Nat → Nat) (ρ : Nat → Nat → Nat) (L : List Nat) (f : Nat → va_E) (hG : tp_G τ ν ρ L) (hT : tp_T (mo_O κ) κ τ ν ρ f) (h0 : Nat) (v : Int32) (u : Int32) (ht_h0 : τ h0 = 13) (hJ : mo_RI (-1) 0 (mo_R (mo_i (f (ρ h0 2))))) : Met l yX12_settle wsX12_settle ({ frames := 6, cells := 0, slots := 0, locals := 2000 }) (va_Pc [.ref h0, .int v, .int u] (pz_B dC dI (tp_K κ) (va_pl L f) sz)) (va_Qi (fun (r : Int32) (f1 : Nat → va_E) => tp_T (mo_O κ) κ τ ν ρ f1 ∧ tp_F τ [13, 32, 60, 61] f f1 ∧ True ∧ mo_RI (-1) 0 (mo_R (mo_i (f1 (ρ h0 2))))) (fun (f1 : Nat → va_E) (t : State) => pz_E dC dI (tp_K κ) (va_A (va_pl L f) sz) (va_pl L f1) t) (va_A (va_pl L f) sz)) 0 0 (va_A (va_pl L f) sz) := by
  refine Met.ofW (cc := cX12_settle) (maxL := 6) (ret := some .int) (by decide) rfl ?_
  intro p e s m args below meth c s₁ B hml hv
  obtain ⟨rfl, hsz, hP, hK, hD0, hN⟩ := hv
  have hx := B.exec
  have hb := B.bytes
  have hr := B.returns
  have hts := atoms_spec (ws := wsX12_settle) B.pre
  have hown : s.vm.findClass RX12 = some m.cls := findClass_of_methodNamed B.named
  have hlocks := B.notSynchronized
  subst hsz
  have hD := hD0.self (sz := s.heap.size)
  generalize hAe : va_A (va_pl L f) s.heap.size = A at hD ⊢
  have hA : ∀ q : Nat, s.heap.size ≤ q → A q := fun q h => by rw [← hAe]; exact Or.inr h
  have hS : va_S A s.heap s.heap [] := va_S.rf
  have hR : tp_F τ [13, 32, 60, 61] f f := tp_F.rf
  have hl := lv_entry ([.ref h0, .int v, .int u]) (n := 6) (Nat.le_of_ble_eq_true rfl)
  rw [lg_entry_eq]
  generalize (lg_sl ([.ref h0, .int v, .int u]) ++ List.replicate (6 - (lg_sl ([.ref h0, .int v, .int u])).length) Slot.unset).toArray = ls at hl ⊢
  have hl : lv_has ls 6 [(0, .ref h0), (1, .int v), (2, .int u)] := hl
  have hfX12 : ∀ w ∈ wsX120, w ∈ wsX12_settle := fun w h => List.mem_cons_of_mem _ (List.mem_append_right _ h)
  obtain ⟨y1, y2, y3, y4, y5, y6, y7, y8, y9, y10, y11, y12, y13, y14, y15, y16, y17, y18, y19, y20, y21, y22, y23, y24, y25⟩ := tpg_13 hG ht_h0
  obtain ⟨g27, hf_o26⟩ := tpo_32 hT y1
  have hI : mo_RI (-1) 0 (mo_R g27) := by have q9 := hJ; rw [hf_o26, mo_i1] at q9; exact q9
  refine lv_aload_n hx hb dX12_settle_0 rfl (lv_at hl 0 rfl) ?_
  refine lv_iconst (v := 0) hx hb dX12_settle_1 (by decide) ?_
  obtain ⟨o28_x0, o28_x1, o28_x7, o28_x9, o28_x10, o28_x11, o28_x12, o28_x13, o28_x14, o28_x15, o28_x16, o28_x17, o28_x18, o28_x19, o28_x20, o28_x22, o28_x25, o28_x28, o28_x29, o28_x32, o28_x33, o28_x34, o28_x35, o28_x36, o28_x37, o28_x38, o28_x47, o28_x48, hf_o28, ro28_0, ro28_1, ro28_2, ro28_3, ro28_4, ro28_5, ro28_6, ro28_7, ro28_8, ro28_9, ro28_10, ro28_11, ro28_12, ro28_13⟩ := tpo_13 hT ht_h0
  obtain ⟨q29, eq29⟩ := tp_pos (tp_in hG ht_h0 (by decide)) hf_o28
  refine va_put (D := (dC, dI)) (ci := 12) (v := .int 0) (ty := .int) (C := RX12) (T := TX12) (N := 53) hx hb hts hfX12 tyX12 tyX12_ok nmX12 hown hK hP hD hS q29 eq29 rfl 0 (by decide) (hts (.fieldLink RX12 91 "ColdShipsModel" "thrown" "I") (by decide +kernel)) (fun _ h9 => h9) rfl (by decide +kernel) rfl rfl (Nat.le_of_ble_eq_true rfl) dX12_settle_2 (tp_k (.inr (12, [.int 0, .int o28_x1, .ref (ρ h0 2), .ref (ρ h0 3), .ref (ρ h0 4), .ref (ρ h0 5), .ref (ρ h0 6), .int o28_x7, .ref (ρ h0 8), .int o28_x9, .int o28_x10, .int o28_x11, .int o28_x12, .long o28_x13, .int o28_x14, .int o28_x15, .int o28_x16, .int o28_x17, .int o28_x18, .int o28_x19, .int o28_x20, .ref (ρ h0 21), .int o28_x22, .ref (ρ h0 23), .ref (ρ h0 24), .int o28_x25, .ref (ρ h0 26), .ref (ρ h0 27), .int o28_x28, .int o28_x29, .ref (ρ h0 30), .ref (ρ h0 31), .int o28_x32, .long o28_x33, .long o28_x34, .long o28_x35, .int o28_x36, .int o28_x37, .int o28_x38, .ref (ρ h0 39), .ref (ρ h0 40), .ref (ρ h0 41), .ref (ρ h0 42), .ref (ρ h0 43), .ref (ρ h0 44), .ref (ρ h0 45), .ref (ρ h0 46), .int o28_x47, .int o28_x48, .ref (ρ h0 49), .ref (ρ h0 50), .ref (ρ h0 51), .ref (ρ h0 52)])) hD (tp_in hG ht_h0 (by decide)) eq29 (fun f30 H locs hP hD hS g32 k31 => ?_))
  have hT := hT.up ht_h0 g32 k31 ⟨_, _, _, _, _, _, _, _, _, _, _, _, _, _, _, _, _, _, _, _, _, _, _, _, _, _, _, _, rfl, ro28_0, ro28_1, ro28_2, ro28_3, ro28_4, ro28_5, ro28_6, ro28_7, ro28_8, ro28_9, ro28_10, ro28_11, ro28_12, ro28_13⟩
  have hR := hR.up ht_h0 (by decide) k31
  refine lv_aload_n hx hb dX12_settle_5 rfl (lv_at hl 0 rfl) ?_
  refine lv_iload_n hx hb dX12_settle_6 rfl (lv_at hl 1 rfl) ?_
  have hf_33 : f30 (ρ h0 2) = .inl (κ 0, 12967, .inl g27) := (k31 _ (tp_ne y1 ht_h0 (by decide))).trans hf_o26
  obtain ⟨q34, eq34⟩ := tp_pos (tp_in hG ht_h0 (by decide)) g32
  refine pz_calli (va_runV (As := [.int v]) (rest := []) ⟨hx, hb, hml, hown, hts⟩ (t_X12_isLanding l dC dI _ κ τ ν ρ L f30 hG hT h0 v (-1) 0 ht_h0 (by rw [hf_33, mo_i1]; exact hI)) (cwV 1 hts gX12_settle_X12_isLanding rfl rfl rfl (by decide +kernel) ⟨Nat.le_of_ble_eq_true rfl, Nat.le_of_ble_eq_true rfl⟩) ⟨pz_blind, va_recv hK hP (ci := 12) (q0 := q34) rfl eq34, pz_pre hP hK hD hN⟩ rfl rfl hl.1 rfl (lv_room (Nat.le_of_ble_eq_true rfl)) dX12_settle_7 ⟨Nat.le_of_ble_eq_true rfl, Nat.le_of_ble_eq_true rfl⟩) (fun r35 hw36 => ?_)
  obtain ⟨hw36r, hw36p⟩ := hw36
  have := hI.k5
  rw [hf_33, mo_i1] at hw36p
  refine lv_if_eq (tgt := 21) hx hb dX12_settle_10 (by decide) (fun c37 => ?_) (fun c37 => ?_)
  · have ic37 : r35.toInt = 0 := zi_eq rfl rfl c37
    refine lv_aload_n hx hb dX12_settle_21 rfl (lv_at hl 0 rfl) ?_
    refine lv_bipush (v := (-2)) hx hb dX12_settle_22 (by decide) ?_
    have hFc := tp_fr hD hS hA
    refine va_calli (va_runV (As := [.int (-2)]) (rest := []) ⟨hx, hb, hml, hown, hts⟩ (t_X12_told l dC dI _ κ τ ν ρ L f30 hG hT h0 ((-2)) ht_h0) (cwV 1 hts gX12_settle_X12_told rfl rfl rfl (by decide +kernel) ⟨Nat.le_of_ble_eq_true rfl, Nat.le_of_ble_eq_true rfl⟩) ⟨pz_blind, va_recv hK hP (ci := 12) (q0 := q34) rfl eq34, pz_pre hP hK hD hN⟩ rfl rfl hl.1 rfl (lv_room (Nat.le_of_ble_eq_true rfl)) dX12_settle_24 ⟨Nat.le_of_ble_eq_true rfl, Nat.le_of_ble_eq_true rfl⟩) hS (fun q _ h => hFc q h) hFc (fun r38 f40 t H1 locs ht hvm hw39 hB hz1 hk1 hS => ?_)
    obtain ⟨hT, hF41, hw39r, hw39p⟩ := hw39
    have hR := hR.then hF41 (by decide)
    have hP := hB.1; rw [ht] at hP; have hD := tp_ad f40 hD; clear hB hFc hz1 hk1; subst ht; generalize t.heap = H at hP hS ⊢
    have hw39pq : r38.toInt = (-2) := by rw [hw39p]; rfl
    have hf_42 : f40 (ρ h0 2) = .inl (κ 0, 12967, .inl g27) := (hF41 _ (by rw [y1]; decide)).trans hf_33
    exact W.iret (v := r38) hx hb hr (fun t ht hW => ⟨⟨r38, f40, rfl, ⟨hT, hR, trivial, (by rw [hf_42, mo_i1]; exact hI)⟩, by rw [ht]; exact hP, va_K.moved hW.alike hK, hD⟩, hS.F ht⟩) hS.2.2 dX12_settle_27
  · have ic37 : r35.toInt ≠ 0 := zi_eqf rfl rfl c37
    have p43 : 0 ≤ v.toInt ∧ v.toInt < mo_R g27 5 := (tp_cond.yes hw36p) (by omega)
    refine lv_aload_n hx hb dX12_settle_13 rfl (lv_at hl 0 rfl) ?_
    refine lv_iload_n hx hb dX12_settle_14 rfl (lv_at hl 2 rfl) ?_
    refine pz_calli (va_runV (As := [.int u]) (rest := []) ⟨hx, hb, hml, hown, hts⟩ (t_X12_isContract l dC dI _ κ τ ν ρ L f30 hG hT h0 u (-1) 0 ht_h0 (by rw [hf_33, mo_i1]; exact hI)) (cwV 1 hts gX12_settle_X12_isContract rfl rfl rfl (by decide +kernel) ⟨Nat.le_of_ble_eq_true rfl, Nat.le_of_ble_eq_true rfl⟩) ⟨pz_blind, va_recv hK hP (ci := 12) (q0 := q34) rfl eq34, pz_pre hP hK hD hN⟩ rfl rfl hl.1 rfl (lv_room (Nat.le_of_ble_eq_true rfl)) dX12_settle_15 ⟨Nat.le_of_ble_eq_true rfl, Nat.le_of_ble_eq_true rfl⟩) (fun r44 hw45 => ?_)
    obtain ⟨hw45r, hw45p⟩ := hw45
    have := hI.k8
    rw [hf_33, mo_i1] at hw45p
    refine lv_if_ne (tgt := 28) hx hb dX12_settle_18 (by decide) (fun c46 => ?_) (fun c46 => ?_)
    · have ic46 : r44.toInt ≠ 0 := zi_ne rfl rfl c46
      have p47 : 0 ≤ u.toInt ∧ u.toInt < mo_R g27 8 := (tp_cond.yes hw45p) (by omega)
      refine lv_iload_n hx hb dX12_settle_28 rfl (lv_at hl 1 rfl) ?_
      refine pz_calli (va_runS (As := [.int v]) (rest := []) ⟨hx, hb, hml, hown, hts⟩ (t_X12_landingAt l dC dI _ v (v.toInt) (by omega) rfl) (va_cwS 1 hts gX12_settle_X12_landingAt rfl rfl rfl (by decide +kernel) ⟨Nat.le_of_ble_eq_true rfl, Nat.le_of_ble_eq_true rfl⟩) ⟨pz_blind, pz_pre pz_P0 (hK.sub (tys' := []) [] rfl) (pz_D0 (A := fun _ => True)) hN⟩ rfl rfl hl.1 rfl (lv_room (Nat.le_of_ble_eq_true rfl)) dX12_settle_29 ⟨Nat.le_of_ble_eq_true rfl, Nat.le_of_ble_eq_true rfl⟩) (fun r48 hw49 => ?_)
      obtain ⟨hw49r, hw49p⟩ := hw49
      refine lv_istore_n (lv' := [(3, .int r48), (0, .ref h0), (1, .int v), (2, .int u)]) hx hb dX12_settle_32 rfl hl (by decide) rfl (fun ls hl => ?_)
      refine lv_aload_n hx hb dX12_settle_33 rfl (lv_at hl 1 rfl) ?_
      refine va_get (D := (dC, dI)) (ci := 12) (v := .ref (ρ h0 2)) (C := RX12) (T := TX12) (N := 53) hx hb hts hfX12 hown hK hP q34 eq34 rfl 2 (by decide) (hts (.fieldLink RX12 7 "ColdShipsModel" "row" "[I") (by decide +kernel)) (fun _ h9 => h9) rfl dX12_settle_34 ?_
      refine lv_iload_n hx hb dX12_settle_37 rfl (lv_at hl 0 rfl) ?_
      refine lv_bipush (v := 12) hx hb dX12_settle_38 (by decide) ?_
      refine lv_iadd hx hb dX12_settle_40 ?_
      refine lv_topi (fun z50 ez50 => ?_)
      have iz50 : z50.toInt = r48.toInt + 12 := zi_add ez50 rfl rfl (by omega) (by omega)
      obtain ⟨q51, eq51⟩ := tp_pos (tp_in hG y1 (by decide)) hf_33
      refine va_iald hx hb hK hP q51 0 eq51 rfl (vp_in_iff.mpr ⟨by omega, by omega⟩) dX12_settle_41 ?_
      refine lv_topi (fun z52 ez52 => ?_)
      refine lv_iconst (v := (-1)) hx hb dX12_settle_42 (by decide) ?_
      refine lv_icmp_eq (tgt := 53) hx hb dX12_settle_43 (by decide) (fun c53 => ?_) (fun c53 => ?_)
      · have ic53 : z52.toInt = (-1) := zi_eq rfl rfl c53
        refine lv_aload_n hx hb dX12_settle_53 rfl (lv_at hl 1 rfl) ?_
        refine lv_iload_n hx hb dX12_settle_54 rfl (lv_at hl 0 rfl) ?_
        refine lv_iload_n hx hb dX12_settle_55 rfl (lv_at hl 3 rfl) ?_
        refine pz_calli (va_runS (As := [.int u]) (rest := [.int r48, .ref h0]) ⟨hx, hb, hml, hown, hts⟩ (t_X12_contractAt l dC dI _ u (u.toInt) (by omega) rfl) (va_cwS 1 hts gX12_settle_X12_contractAt rfl rfl rfl (by decide +kernel) ⟨Nat.le_of_ble_eq_true rfl, Nat.le_of_ble_eq_true rfl⟩) ⟨pz_blind, pz_pre pz_P0 (hK.sub (tys' := []) [] rfl) (pz_D0 (A := fun _ => True)) hN⟩ rfl rfl hl.1 rfl (lv_room (Nat.le_of_ble_eq_true rfl)) dX12_settle_56 ⟨Nat.le_of_ble_eq_true rfl, Nat.le_of_ble_eq_true rfl⟩) (fun r54 hw55 => ?_)
        obtain ⟨hw55r, hw55p⟩ := hw55
        refine lv_aload_n hx hb dX12_settle_59 rfl (lv_at hl 1 rfl) ?_
        refine va_get (D := (dC, dI)) (ci := 12) (v := .ref (ρ h0 2)) (C := RX12) (T := TX12) (N := 53) hx hb hts hfX12 hown hK hP q34 eq34 rfl 2 (by decide) (hts (.fieldLink RX12 7 "ColdShipsModel" "row" "[I") (by decide +kernel)) (fun _ h9 => h9) rfl dX12_settle_60 ?_
        refine lv_bipush (v := 11) hx hb dX12_settle_63 (by decide) ?_
        refine va_iald hx hb hK hP q51 0 eq51 rfl (vp_in_iff.mpr ⟨by decide, by decide⟩) dX12_settle_65 ?_
        refine lv_topi (fun z56 ez56 => ?_)
        have jz56 : z56.toInt = mo_R g27 (11) := mo_rd ez56 (show (11 : Int32).toInt = (11) from by decide)
        have kz56 := hI.k11
        have hFc := tp_fr hD hS hA
        refine va_callv (va_runV (As := [.int r48, .int r54, .int z56]) (rest := []) ⟨hx, hb, hml, hown, hts⟩ (t_X12_setFor l dC dI _ κ τ ν ρ L f30 hG hT h0 r48 r54 z56 (-1) 0 v.toInt u.toInt ht_h0 (by omega) (by omega) (by omega) (by omega) (by rw [hf_33, mo_i1]; exact hI) (by simp only [hf_33, hf_o26, mo_i1]; try omega) (by simp only [hf_33, hf_o26, mo_i1]; try omega)) (cwV 3 hts gX12_settle_X12_setFor rfl rfl rfl (by decide +kernel) ⟨Nat.le_of_ble_eq_true rfl, Nat.le_of_ble_eq_true rfl⟩) ⟨pz_blind, va_recv hK hP (ci := 12) (q0 := q34) rfl eq34, pz_pre hP hK hD hN⟩ rfl rfl hl.1 rfl (lv_room (Nat.le_of_ble_eq_true rfl)) dX12_settle_66 ⟨Nat.le_of_ble_eq_true rfl, Nat.le_of_ble_eq_true rfl⟩) hS (fun q _ h => hFc q h) hFc (fun f59 t H1 locs ht hvm hw58 hB hz1 hk1 hS => ?_)
        obtain ⟨hT, hF60, hw58p⟩ := hw58
        have hR := hR.then hF60 (by decide)
        have hP := hB.1; rw [ht] at hP; have hD := tp_ad f59 hD; clear hB hFc hz1 hk1; subst ht; generalize t.heap = H at hP hS ⊢
        refine lv_aload_n hx hb dX12_settle_69 rfl (lv_at hl 1 rfl) ?_
        refine lv_iload_n hx hb dX12_settle_70 rfl (lv_at hl 0 rfl) ?_
        refine lv_iload_n hx hb dX12_settle_71 rfl (lv_at hl 3 rfl) ?_
        have hf_61 : f59 (ρ h0 2) = .inl (κ 0, 12967, .inl g27) := (hF60 _ (by rw [y1]; decide)).trans hf_33
        refine pz_calli (va_runS (As := [.int u]) (rest := [.int r48, .ref h0]) ⟨hx, hb, hml, hown, hts⟩ (t_X12_contractAt l dC dI _ u (u.toInt) (by omega) rfl) (va_cwS 1 hts gX12_settle_X12_contractAt rfl rfl rfl (by decide +kernel) ⟨Nat.le_of_ble_eq_true rfl, Nat.le_of_ble_eq_true rfl⟩) ⟨pz_blind, pz_pre pz_P0 (hK.sub (tys' := []) [] rfl) (pz_D0 (A := fun _ => True)) hN⟩ rfl rfl hl.1 rfl (lv_room (Nat.le_of_ble_eq_true rfl)) dX12_settle_72 ⟨Nat.le_of_ble_eq_true rfl, Nat.le_of_ble_eq_true rfl⟩) (fun r62 hw63 => ?_)
        obtain ⟨hw63r, hw63p⟩ := hw63
        have hf_64 : f59 h0 = .inr (12, [.int 0, .int o28_x1, .ref (ρ h0 2), .ref (ρ h0 3), .ref (ρ h0 4), .ref (ρ h0 5), .ref (ρ h0 6), .int o28_x7, .ref (ρ h0 8), .int o28_x9, .int o28_x10, .int o28_x11, .int o28_x12, .long o28_x13, .int o28_x14, .int o28_x15, .int o28_x16, .int o28_x17, .int o28_x18, .int o28_x19, .int o28_x20, .ref (ρ h0 21), .int o28_x22, .ref (ρ h0 23), .ref (ρ h0 24), .int o28_x25, .ref (ρ h0 26), .ref (ρ h0 27), .int o28_x28, .int o28_x29, .ref (ρ h0 30), .ref (ρ h0 31), .int o28_x32, .long o28_x33, .long o28_x34, .long o28_x35, .int o28_x36, .int o28_x37, .int o28_x38, .ref (ρ h0 39), .ref (ρ h0 40), .ref (ρ h0 41), .ref (ρ h0 42), .ref (ρ h0 43), .ref (ρ h0 44), .ref (ρ h0 45), .ref (ρ h0 46), .int o28_x47, .int o28_x48, .ref (ρ h0 49), .ref (ρ h0 50), .ref (ρ h0 51), .ref (ρ h0 52)]) := (hF60 _ (by rw [ht_h0]; decide)).trans g32
        obtain ⟨q65, eq65⟩ := tp_pos (tp_in hG ht_h0 (by decide)) hf_64
        have hFc := tp_fr hD hS hA
        refine va_callv (va_runV (As := [.int r48, .int r62]) (rest := []) ⟨hx, hb, hml, hown, hts⟩ (t_X12_judgeLanding l dC dI _ κ τ ν ρ L f59 hG hT h0 r48 r62 (-1) 0 u.toInt ht_h0 (by omega) (by omega) (by rw [hf_61, mo_i1]; exact hI) (by simp only [hf_61, hf_o26, mo_i1]; try omega)) (cwV 2 hts gX12_settle_X12_judgeLanding rfl rfl rfl (by decide +kernel) ⟨Nat.le_of_ble_eq_true rfl, Nat.le_of_ble_eq_true rfl⟩) ⟨pz_blind, va_recv hK hP (ci := 12) (q0 := q65) rfl eq65, pz_pre hP hK hD hN⟩ rfl rfl hl.1 rfl (lv_room (Nat.le_of_ble_eq_true rfl)) dX12_settle_75 ⟨Nat.le_of_ble_eq_true rfl, Nat.le_of_ble_eq_true rfl⟩) hS (fun q _ h => hFc q h) hFc (fun f68 t H1 locs ht hvm hw67 hB hz1 hk1 hS => ?_)
        obtain ⟨hT, hF69, hw67p⟩ := hw67
        have hR := hR.then hF69 (by decide)
        have hP := hB.1; rw [ht] at hP; have hD := tp_ad f68 hD; clear hB hFc hz1 hk1; subst ht; generalize t.heap = H at hP hS ⊢
        refine lv_aload_n hx hb dX12_settle_78 rfl (lv_at hl 1 rfl) ?_
        obtain ⟨o70_x0, o70_x1, o70_x7, o70_x9, o70_x10, o70_x11, o70_x12, o70_x13, o70_x14, o70_x15, o70_x16, o70_x17, o70_x18, o70_x19, o70_x20, o70_x22, o70_x25, o70_x28, o70_x29, o70_x32, o70_x33, o70_x34, o70_x35, o70_x36, o70_x37, o70_x38, o70_x47, o70_x48, hf_o70, ro70_0, ro70_1, ro70_2, ro70_3, ro70_4, ro70_5, ro70_6, ro70_7, ro70_8, ro70_9, ro70_10, ro70_11, ro70_12, ro70_13⟩ := tpo_13 hT ht_h0
        obtain ⟨q71, eq71⟩ := tp_pos (tp_in hG ht_h0 (by decide)) hf_o70
        refine va_get (D := (dC, dI)) (ci := 12) (v := .long o70_x34) (C := RX12) (T := TX12) (N := 53) hx hb hts hfX12 hown hK hP q71 eq71 rfl 34 (by decide) (hts (.fieldLink RX12 452 "ColdShipsModel" "pays" "J") (by decide +kernel)) (fun _ h9 => h9) rfl dX12_settle_79 ?_
        refine lv_aload_n hx hb dX12_settle_82 rfl (lv_at hl 1 rfl) ?_
        refine va_get (D := (dC, dI)) (ci := 12) (v := .long o70_x35) (C := RX12) (T := TX12) (N := 53) hx hb hts hfX12 hown hK hP q71 eq71 rfl 35 (by decide) (hts (.fieldLink RX12 455 "ColdShipsModel" "fines" "J") (by decide +kernel)) (fun _ h9 => h9) rfl dX12_settle_83 ?_
        refine lv_lsub hx hb dX12_settle_86 ?_
        refine lv_topl (fun z72 ez72 => ?_)
        refine lv_lstore (lv' := [(4, .long z72), (3, .int r48), (0, .ref h0), (1, .int v), (2, .int u)]) hx hb dX12_settle_87 hl (by decide) rfl (fun ls hl => ?_)
        refine lv_aload_n hx hb dX12_settle_89 rfl (lv_at hl 2 rfl) ?_
        refine va_get (D := (dC, dI)) (ci := 12) (v := .ref (ρ h0 2)) (C := RX12) (T := TX12) (N := 53) hx hb hts hfX12 hown hK hP q71 eq71 rfl 2 (by decide) (hts (.fieldLink RX12 7 "ColdShipsModel" "row" "[I") (by decide +kernel)) (fun _ h9 => h9) rfl dX12_settle_90 ?_
        refine lv_iload_n hx hb dX12_settle_93 rfl (lv_at hl 1 rfl) ?_
        refine lv_bipush (v := 12) hx hb dX12_settle_94 (by decide) ?_
        refine lv_iadd hx hb dX12_settle_96 ?_
        refine lv_topi (fun z73 ez73 => ?_)
        have iz73 : z73.toInt = r48.toInt + 12 := zi_add ez73 rfl rfl (by omega) (by omega)
        refine lv_iload_n hx hb dX12_settle_97 rfl (lv_at hl 4 rfl) ?_
        have hf_74 : f68 (ρ h0 2) = .inl (κ 0, 12967, .inl g27) := (hF69 _ (by rw [y1]; decide)).trans hf_61
        obtain ⟨q75, eq75⟩ := tp_pos (tp_in hG y1 (by decide)) hf_74
        refine va_iast hx hb hK hP hD hS q75 0 eq75 rfl (vp_in_iff.mpr ⟨by omega, by omega⟩) dX12_settle_98 (tp_k (.inl (κ 0, 12967, .inl (upd g27 z73.toNatClampNeg u))) hD (tp_in hG y1 (by decide)) eq75 (fun f76 H locs hP hD hS g78 k77 => ?_))
        have hT := hT.up y1 g78 k77 tp_o32
        have hR := hR.up y1 (by decide) k77
        have hU : mo_U (mo_R g27) (mo_R (upd g27 z73.toNatClampNeg u)) (1051 + 16 * v.toInt + 12) (u.toInt) := mo_up (by omega) (rfl : u.toInt = _) (by omega)
        generalize (upd g27 z73.toNatClampNeg u) = g79 at g78 hU
        have hI := mo_w_land hI hU v.toInt (12) (by omega) (by omega) (by omega)
        have pn80 : mo_R g79 (11) = z56.toInt := (hU.ne (by omega) (by omega)).trans (jz56).symm
        refine lv_aload_n hx hb dX12_settle_99 rfl (lv_at hl 2 rfl) ?_
        have hf_81 : f76 h0 = .inr (12, [.int o70_x0, .int o70_x1, .ref (ρ h0 2), .ref (ρ h0 3), .ref (ρ h0 4), .ref (ρ h0 5), .ref (ρ h0 6), .int o70_x7, .ref (ρ h0 8), .int o70_x9, .int o70_x10, .int o70_x11, .int o70_x12, .long o70_x13, .int o70_x14, .int o70_x15, .int o70_x16, .int o70_x17, .int o70_x18, .int o70_x19, .int o70_x20, .ref (ρ h0 21), .int o70_x22, .ref (ρ h0 23), .ref (ρ h0 24), .int o70_x25, .ref (ρ h0 26), .ref (ρ h0 27), .int o70_x28, .int o70_x29, .ref (ρ h0 30), .ref (ρ h0 31), .int o70_x32, .long o70_x33, .long o70_x34, .long o70_x35, .int o70_x36, .int o70_x37, .int o70_x38, .ref (ρ h0 39), .ref (ρ h0 40), .ref (ρ h0 41), .ref (ρ h0 42), .ref (ρ h0 43), .ref (ρ h0 44), .ref (ρ h0 45), .ref (ρ h0 46), .int o70_x47, .int o70_x48, .ref (ρ h0 49), .ref (ρ h0 50), .ref (ρ h0 51), .ref (ρ h0 52)]) := (k77 _ (tp_ne ht_h0 y1 (by decide))).trans hf_o70
        obtain ⟨q82, eq82⟩ := tp_pos (tp_in hG ht_h0 (by decide)) hf_81
        refine va_get (D := (dC, dI)) (ci := 12) (v := .ref (ρ h0 2)) (C := RX12) (T := TX12) (N := 53) hx hb hts hfX12 hown hK hP q82 eq82 rfl 2 (by decide) (hts (.fieldLink RX12 7 "ColdShipsModel" "row" "[I") (by decide +kernel)) (fun _ h9 => h9) rfl dX12_settle_100 ?_
        refine lv_iload_n hx hb dX12_settle_103 rfl (lv_at hl 1 rfl) ?_
        refine lv_bipush (v := 13) hx hb dX12_settle_104 (by decide) ?_
        refine lv_iadd hx hb dX12_settle_106 ?_
        refine lv_topi (fun z83 ez83 => ?_)
        have iz83 : z83.toInt = r48.toInt + 13 := zi_add ez83 rfl rfl (by omega) (by omega)
        refine lv_aload_n hx hb dX12_settle_107 rfl (lv_at hl 2 rfl) ?_
        refine va_get (D := (dC, dI)) (ci := 12) (v := .ref (ρ h0 2)) (C := RX12) (T := TX12) (N := 53) hx hb hts hfX12 hown hK hP q82 eq82 rfl 2 (by decide) (hts (.fieldLink RX12 7 "ColdShipsModel" "row" "[I") (by decide +kernel)) (fun _ h9 => h9) rfl dX12_settle_108 ?_
        refine lv_bipush (v := 11) hx hb dX12_settle_111 (by decide) ?_
        obtain ⟨q84, eq84⟩ := tp_pos (tp_in hG y1 (by decide)) g78
        refine va_iald hx hb hK hP q84 0 eq84 rfl (vp_in_iff.mpr ⟨by decide, by decide⟩) dX12_settle_113 ?_
        refine lv_topi (fun z85 ez85 => ?_)
        have jz85 : z85.toInt = mo_R g79 (11) := mo_rd ez85 (show (11 : Int32).toInt = (11) from by decide)
        have kz85 := hI.k11
        refine va_iast hx hb hK hP hD hS q84 0 eq84 rfl (vp_in_iff.mpr ⟨by omega, by omega⟩) dX12_settle_114 (tp_k (.inl (κ 0, 12967, .inl (upd g79 z83.toNatClampNeg z85))) hD (tp_in hG y1 (by decide)) eq84 (fun f86 H locs hP hD hS g88 k87 => ?_))
        have hT := hT.up y1 g88 k87 tp_o32
        have hR := hR.up y1 (by decide) k87
        have hU : mo_U (mo_R g79) (mo_R (upd g79 z83.toNatClampNeg z85)) (1051 + 16 * v.toInt + 13) (z85.toInt) := mo_up (by omega) (rfl : z85.toInt = _) (by omega)
        generalize (upd g79 z83.toNatClampNeg z85) = g89 at g88 hU
        have hI := mo_w_land hI hU v.toInt (13) (by omega) (by omega) (by omega)
        have pn90 : mo_R g89 (11) = z56.toInt := (hU.ne (by omega) (by omega)).trans pn80
        refine lv_aload_n hx hb dX12_settle_115 rfl (lv_at hl 2 rfl) ?_
        have hf_91 : f86 h0 = .inr (12, [.int o70_x0, .int o70_x1, .ref (ρ h0 2), .ref (ρ h0 3), .ref (ρ h0 4), .ref (ρ h0 5), .ref (ρ h0 6), .int o70_x7, .ref (ρ h0 8), .int o70_x9, .int o70_x10, .int o70_x11, .int o70_x12, .long o70_x13, .int o70_x14, .int o70_x15, .int o70_x16, .int o70_x17, .int o70_x18, .int o70_x19, .int o70_x20, .ref (ρ h0 21), .int o70_x22, .ref (ρ h0 23), .ref (ρ h0 24), .int o70_x25, .ref (ρ h0 26), .ref (ρ h0 27), .int o70_x28, .int o70_x29, .ref (ρ h0 30), .ref (ρ h0 31), .int o70_x32, .long o70_x33, .long o70_x34, .long o70_x35, .int o70_x36, .int o70_x37, .int o70_x38, .ref (ρ h0 39), .ref (ρ h0 40), .ref (ρ h0 41), .ref (ρ h0 42), .ref (ρ h0 43), .ref (ρ h0 44), .ref (ρ h0 45), .ref (ρ h0 46), .int o70_x47, .int o70_x48, .ref (ρ h0 49), .ref (ρ h0 50), .ref (ρ h0 51), .ref (ρ h0 52)]) := (k87 _ (tp_ne ht_h0 y1 (by decide))).trans hf_81
        obtain ⟨q92, eq92⟩ := tp_pos (tp_in hG ht_h0 (by decide)) hf_91
        refine va_get (D := (dC, dI)) (ci := 12) (v := .ref (ρ h0 2)) (C := RX12) (T := TX12) (N := 53) hx hb hts hfX12 hown hK hP q92 eq92 rfl 2 (by decide) (hts (.fieldLink RX12 7 "ColdShipsModel" "row" "[I") (by decide +kernel)) (fun _ h9 => h9) rfl dX12_settle_116 ?_
        refine lv_iload_n hx hb dX12_settle_119 rfl (lv_at hl 1 rfl) ?_
        refine lv_bipush (v := 14) hx hb dX12_settle_120 (by decide) ?_
        refine lv_iadd hx hb dX12_settle_122 ?_
        refine lv_topi (fun z93 ez93 => ?_)
        have iz93 : z93.toInt = r48.toInt + 14 := zi_add ez93 rfl rfl (by omega) (by omega)
        refine lv_lload hx hb dX12_settle_123 (lv_at hl 0 rfl) ?_
        refine lv_bipush (v := 32) hx hb dX12_settle_125 (by decide) ?_
        refine lv_lshr hx hb dX12_settle_127 ?_
        refine lv_topl (fun z94 ez94 => ?_)
        refine lv_l2i hx hb dX12_settle_128 rfl ?_
        refine lv_topi (fun z95 ez95 => ?_)
        obtain ⟨q96, eq96⟩ := tp_pos (tp_in hG y1 (by decide)) g88
        refine va_iast hx hb hK hP hD hS q96 0 eq96 rfl (vp_in_iff.mpr ⟨by omega, by omega⟩) dX12_settle_129 (tp_k (.inl (κ 0, 12967, .inl (upd g89 z93.toNatClampNeg z95))) hD (tp_in hG y1 (by decide)) eq96 (fun f97 H locs hP hD hS g99 k98 => ?_))
        have hT := hT.up y1 g99 k98 tp_o32
        have hR := hR.up y1 (by decide) k98
        have hU : mo_U (mo_R g89) (mo_R (upd g89 z93.toNatClampNeg z95)) (1051 + 16 * v.toInt + 14) (z95.toInt) := mo_up (by omega) (rfl : z95.toInt = _) (by omega)
        generalize (upd g89 z93.toNatClampNeg z95) = g100 at g99 hU
        have hI := mo_w_land hI hU v.toInt (14) (by omega) (by omega) (by omega)
        have pn101 : mo_R g100 (11) = z56.toInt := (hU.ne (by omega) (by omega)).trans pn90
        refine lv_aload_n hx hb dX12_settle_130 rfl (lv_at hl 2 rfl) ?_
        have hf_102 : f97 h0 = .inr (12, [.int o70_x0, .int o70_x1, .ref (ρ h0 2), .ref (ρ h0 3), .ref (ρ h0 4), .ref (ρ h0 5), .ref (ρ h0 6), .int o70_x7, .ref (ρ h0 8), .int o70_x9, .int o70_x10, .int o70_x11, .int o70_x12, .long o70_x13, .int o70_x14, .int o70_x15, .int o70_x16, .int o70_x17, .int o70_x18, .int o70_x19, .int o70_x20, .ref (ρ h0 21), .int o70_x22, .ref (ρ h0 23), .ref (ρ h0 24), .int o70_x25, .ref (ρ h0 26), .ref (ρ h0 27), .int o70_x28, .int o70_x29, .ref (ρ h0 30), .ref (ρ h0 31), .int o70_x32, .long o70_x33, .long o70_x34, .long o70_x35, .int o70_x36, .int o70_x37, .int o70_x38, .ref (ρ h0 39), .ref (ρ h0 40), .ref (ρ h0 41), .ref (ρ h0 42), .ref (ρ h0 43), .ref (ρ h0 44), .ref (ρ h0 45), .ref (ρ h0 46), .int o70_x47, .int o70_x48, .ref (ρ h0 49), .ref (ρ h0 50), .ref (ρ h0 51), .ref (ρ h0 52)]) := (k98 _ (tp_ne ht_h0 y1 (by decide))).trans hf_91
        obtain ⟨q103, eq103⟩ := tp_pos (tp_in hG ht_h0 (by decide)) hf_102
        refine va_get (D := (dC, dI)) (ci := 12) (v := .ref (ρ h0 2)) (C := RX12) (T := TX12) (N := 53) hx hb hts hfX12 hown hK hP q103 eq103 rfl 2 (by decide) (hts (.fieldLink RX12 7 "ColdShipsModel" "row" "[I") (by decide +kernel)) (fun _ h9 => h9) rfl dX12_settle_131 ?_
        refine lv_iload_n hx hb dX12_settle_134 rfl (lv_at hl 1 rfl) ?_
        refine lv_bipush (v := 15) hx hb dX12_settle_135 (by decide) ?_
        refine lv_iadd hx hb dX12_settle_137 ?_
        refine lv_topi (fun z104 ez104 => ?_)
        have iz104 : z104.toInt = r48.toInt + 15 := zi_add ez104 rfl rfl (by omega) (by omega)
        refine lv_lload hx hb dX12_settle_138 (lv_at hl 0 rfl) ?_
        refine lv_l2i hx hb dX12_settle_140 rfl ?_
        refine lv_topi (fun z105 ez105 => ?_)
        obtain ⟨q106, eq106⟩ := tp_pos (tp_in hG y1 (by decide)) g99
        refine va_iast hx hb hK hP hD hS q106 0 eq106 rfl (vp_in_iff.mpr ⟨by omega, by omega⟩) dX12_settle_141 (tp_k (.inl (κ 0, 12967, .inl (upd g100 z104.toNatClampNeg z105))) hD (tp_in hG y1 (by decide)) eq106 (fun f107 H locs hP hD hS g109 k108 => ?_))
        have hT := hT.up y1 g109 k108 tp_o32
        have hR := hR.up y1 (by decide) k108
        have hU : mo_U (mo_R g100) (mo_R (upd g100 z104.toNatClampNeg z105)) (1051 + 16 * v.toInt + 15) (z105.toInt) := mo_up (by omega) (rfl : z105.toInt = _) (by omega)
        generalize (upd g100 z104.toNatClampNeg z105) = g110 at g109 hU
        have hI := mo_w_land hI hU v.toInt (15) (by omega) (by omega) (by omega)
        have pn111 : mo_R g110 (11) = z56.toInt := (hU.ne (by omega) (by omega)).trans pn101
        refine lv_aload_n hx hb dX12_settle_142 rfl (lv_at hl 2 rfl) ?_
        refine lv_iconst (v := 0) hx hb dX12_settle_143 (by decide) ?_
        have hf_112 : f107 h0 = .inr (12, [.int o70_x0, .int o70_x1, .ref (ρ h0 2), .ref (ρ h0 3), .ref (ρ h0 4), .ref (ρ h0 5), .ref (ρ h0 6), .int o70_x7, .ref (ρ h0 8), .int o70_x9, .int o70_x10, .int o70_x11, .int o70_x12, .long o70_x13, .int o70_x14, .int o70_x15, .int o70_x16, .int o70_x17, .int o70_x18, .int o70_x19, .int o70_x20, .ref (ρ h0 21), .int o70_x22, .ref (ρ h0 23), .ref (ρ h0 24), .int o70_x25, .ref (ρ h0 26), .ref (ρ h0 27), .int o70_x28, .int o70_x29, .ref (ρ h0 30), .ref (ρ h0 31), .int o70_x32, .long o70_x33, .long o70_x34, .long o70_x35, .int o70_x36, .int o70_x37, .int o70_x38, .ref (ρ h0 39), .ref (ρ h0 40), .ref (ρ h0 41), .ref (ρ h0 42), .ref (ρ h0 43), .ref (ρ h0 44), .ref (ρ h0 45), .ref (ρ h0 46), .int o70_x47, .int o70_x48, .ref (ρ h0 49), .ref (ρ h0 50), .ref (ρ h0 51), .ref (ρ h0 52)]) := (k108 _ (tp_ne ht_h0 y1 (by decide))).trans hf_102
        obtain ⟨q113, eq113⟩ := tp_pos (tp_in hG ht_h0 (by decide)) hf_112
        have hFc := tp_fr hD hS hA
        refine va_calli (va_runV (As := [.int 0]) (rest := []) ⟨hx, hb, hml, hown, hts⟩ (t_X12_told l dC dI _ κ τ ν ρ L f107 hG hT h0 (0) ht_h0) (cwV 1 hts gX12_settle_X12_told rfl rfl rfl (by decide +kernel) ⟨Nat.le_of_ble_eq_true rfl, Nat.le_of_ble_eq_true rfl⟩) ⟨pz_blind, va_recv hK hP (ci := 12) (q0 := q113) rfl eq113, pz_pre hP hK hD hN⟩ rfl rfl hl.1 rfl (lv_room (Nat.le_of_ble_eq_true rfl)) dX12_settle_144 ⟨Nat.le_of_ble_eq_true rfl, Nat.le_of_ble_eq_true rfl⟩) hS (fun q _ h => hFc q h) hFc (fun r114 f116 t H1 locs ht hvm hw115 hB hz1 hk1 hS => ?_)
        obtain ⟨hT, hF117, hw115r, hw115p⟩ := hw115
        have hR := hR.then hF117 (by decide)
        have hP := hB.1; rw [ht] at hP; have hD := tp_ad f116 hD; clear hB hFc hz1 hk1; subst ht; generalize t.heap = H at hP hS ⊢
        have hw115pq : r114.toInt = 0 := by rw [hw115p]; rfl
        have hf_118 : f116 (ρ h0 2) = .inl (κ 0, 12967, .inl g110) := (hF117 _ (by rw [y1]; decide)).trans g109
        exact W.iret (v := r114) hx hb hr (fun t ht hW => ⟨⟨r114, f116, rfl, ⟨hT, hR, trivial, (by rw [hf_118, mo_i1]; exact hI)⟩, by rw [ht]; exact hP, va_K.moved hW.alike hK, hD⟩, hS.F ht⟩) hS.2.2 dX12_settle_147
      · have ic53 : z52.toInt ≠ (-1) := zi_eqf rfl rfl c53
        refine lv_aload_n hx hb dX12_settle_46 rfl (lv_at hl 1 rfl) ?_
        refine lv_bipush (v := (-4)) hx hb dX12_settle_47 (by decide) ?_
        have hFc := tp_fr hD hS hA
        refine va_calli (va_runV (As := [.int (-4)]) (rest := []) ⟨hx, hb, hml, hown, hts⟩ (t_X12_told l dC dI _ κ τ ν ρ L f30 hG hT h0 ((-4)) ht_h0) (cwV 1 hts gX12_settle_X12_told rfl rfl rfl (by decide +kernel) ⟨Nat.le_of_ble_eq_true rfl, Nat.le_of_ble_eq_true rfl⟩) ⟨pz_blind, va_recv hK hP (ci := 12) (q0 := q34) rfl eq34, pz_pre hP hK hD hN⟩ rfl rfl hl.1 rfl (lv_room (Nat.le_of_ble_eq_true rfl)) dX12_settle_49 ⟨Nat.le_of_ble_eq_true rfl, Nat.le_of_ble_eq_true rfl⟩) hS (fun q _ h => hFc q h) hFc (fun r119 f121 t H1 locs ht hvm hw120 hB hz1 hk1 hS => ?_)
        obtain ⟨hT, hF122, hw120r, hw120p⟩ := hw120
        have hR := hR.then hF122 (by decide)
        have hP := hB.1; rw [ht] at hP; have hD := tp_ad f121 hD; clear hB hFc hz1 hk1; subst ht; generalize t.heap = H at hP hS ⊢
        have hw120pq : r119.toInt = (-4) := by rw [hw120p]; rfl
        have hf_123 : f121 (ρ h0 2) = .inl (κ 0, 12967, .inl g27) := (hF122 _ (by rw [y1]; decide)).trans hf_33
        exact W.iret (v := r119) hx hb hr (fun t ht hW => ⟨⟨r119, f121, rfl, ⟨hT, hR, trivial, (by rw [hf_123, mo_i1]; exact hI)⟩, by rw [ht]; exact hP, va_K.moved hW.alike hK, hD⟩, hS.F ht⟩) hS.2.2 dX12_settle_52
    · have ic46 : r44.toInt = 0 := zi_nef rfl rfl c46
      refine lv_aload_n hx hb dX12_settle_21 rfl (lv_at hl 0 rfl) ?_
      refine lv_bipush (v := (-2)) hx hb dX12_settle_22 (by decide) ?_
      have hFc := tp_fr hD hS hA
      refine va_calli (va_runV (As := [.int (-2)]) (rest := []) ⟨hx, hb, hml, hown, hts⟩ (t_X12_told l dC dI _ κ τ ν ρ L f30 hG hT h0 ((-2)) ht_h0) (cwV 1 hts gX12_settle_X12_told rfl rfl rfl (by decide +kernel) ⟨Nat.le_of_ble_eq_true rfl, Nat.le_of_ble_eq_true rfl⟩) ⟨pz_blind, va_recv hK hP (ci := 12) (q0 := q34) rfl eq34, pz_pre hP hK hD hN⟩ rfl rfl hl.1 rfl (lv_room (Nat.le_of_ble_eq_true rfl)) dX12_settle_24 ⟨Nat.le_of_ble_eq_true rfl, Nat.le_of_ble_eq_true rfl⟩) hS (fun q _ h => hFc q h) hFc (fun r124 f126 t H1 locs ht hvm hw125 hB hz1 hk1 hS => ?_)
      obtain ⟨hT, hF127, hw125r, hw125p⟩ := hw125
      have hR := hR.then hF127 (by decide)
      have hP := hB.1; rw [ht] at hP; have hD := tp_ad f126 hD; clear hB hFc hz1 hk1; subst ht; generalize t.heap = H at hP hS ⊢
      have hw125pq : r124.toInt = (-2) := by rw [hw125p]; rfl
      have hf_128 : f126 (ρ h0 2) = .inl (κ 0, 12967, .inl g27) := (hF127 _ (by rw [y1]; decide)).trans hf_33
      exact W.iret (v := r124) hx hb hr (fun t ht hW => ⟨⟨r124, f126, rfl, ⟨hT, hR, trivial, (by rw [hf_128, mo_i1]; exact hI)⟩, by rw [ht]; exact hP, va_K.moved hW.alike hK, hD⟩, hS.F ht⟩) hS.2.2 dX12_settle_27
set_option maxHeartbeats 4000000 in
set_option maxRecDepth 100000 in
theorem t_X12_hasTable (l : Launch) (dC : Nat → ClassId) (dI : Nat → Nat → Nat) (sz : Nat) (κ : Nat → ClassId) (τ ν : Nat → Nat) (ρ : Nat → Nat → Nat) (L : List Nat) (f : Nat → va_E) (hG : tp_G τ ν ρ L) (hT : tp_T (mo_O κ) κ τ ν ρ f) (h0 : Nat) (us : Int32) (x : Int) (b : Int) (qs : Int) (ht_h0 : τ h0 = 13) (hL_us : us.toInt = 547 + 84 * qs) (hq_us : 0 ≤ qs ∧ qs ≤ 5) (hJ : mo_RI x b (mo_R (mo_i (f (ρ h0 2))))) (hn1 : qs < (mo_R (mo_i (f (ρ h0 2)))) (1)) : Met l yX12_hasTable wsX12_hasTable ({ frames := 2, cells := 0, slots := 0, locals := 400 }) (va_Pc [.ref h0, .int us] (pz_B dC dI (tp_K κ) (va_pl L f) sz)) (vp_Si (fun r => (0 ≤ r.toInt ∧ r.toInt ≤ 1) ∧ True)) 0 0 (fun _ => False) := by
  refine Met.ofW (cc := cX12_hasTable) (maxL := 5) (ret := some .boolean) (by decide) rfl ?_
  intro p e s m args below meth c s₁ B hml hv
  obtain ⟨rfl, hsz, hP, hK, hD0, hN⟩ := hv
  have hx := B.exec
  have hb := B.bytes
  have hr := B.returns
  have hts := atoms_spec (ws := wsX12_hasTable) B.pre
  have hown : s.vm.findClass RX12 = some m.cls := findClass_of_methodNamed B.named
  have hlocks := B.notSynchronized
  subst hsz
  have hD := hD0
  have hS : va_S (fun _ => True) s.heap s.heap [] := va_S.rf
  have hl := lv_entry ([.ref h0, .int us]) (n := 5) (Nat.le_of_ble_eq_true rfl)
  rw [lg_entry_eq]
  generalize (lg_sl ([.ref h0, .int us]) ++ List.replicate (5 - (lg_sl ([.ref h0, .int us])).length) Slot.unset).toArray = ls at hl ⊢
  have hl : lv_has ls 5 [(0, .ref h0), (1, .int us)] := hl
  have hfX12 : ∀ w ∈ wsX120, w ∈ wsX12_hasTable := fun w h => List.mem_cons_of_mem _ (List.mem_append_right _ h)
  obtain ⟨y1, y2, y3, y4, y5, y6, y7, y8, y9, y10, y11, y12, y13, y14, y15, y16, y17, y18, y19, y20, y21, y22, y23, y24, y25⟩ := tpg_13 hG ht_h0
  obtain ⟨g27, hf_o26⟩ := tpo_32 hT y1
  have hI : mo_RI x b (mo_R g27) := by have q9 := hJ; rw [hf_o26, mo_i1] at q9; exact q9
  rw [hf_o26, mo_i1] at hn1
  obtain ⟨n1, en1⟩ : ∃ n : Int, n = mo_R g27 (1) := ⟨_, rfl⟩
  have kn1 := hI.k1
  obtain ⟨n11, en11⟩ : ∃ n : Int, n = mo_R g27 (11) := ⟨_, rfl⟩
  have kn11 := hI.k11
  refine lv_aload_n hx hb dX12_hasTable_0 rfl (lv_at hl 0 rfl) ?_
  obtain ⟨o28_x0, o28_x1, o28_x7, o28_x9, o28_x10, o28_x11, o28_x12, o28_x13, o28_x14, o28_x15, o28_x16, o28_x17, o28_x18, o28_x19, o28_x20, o28_x22, o28_x25, o28_x28, o28_x29, o28_x32, o28_x33, o28_x34, o28_x35, o28_x36, o28_x37, o28_x38, o28_x47, o28_x48, hf_o28, ro28_0, ro28_1, ro28_2, ro28_3, ro28_4, ro28_5, ro28_6, ro28_7, ro28_8, ro28_9, ro28_10, ro28_11, ro28_12, ro28_13⟩ := tpo_13 hT ht_h0
  obtain ⟨q29, eq29⟩ := tp_pos (tp_in hG ht_h0 (by decide)) hf_o28
  refine va_get (D := (dC, dI)) (ci := 12) (v := .ref (ρ h0 2)) (C := RX12) (T := TX12) (N := 53) hx hb hts hfX12 hown hK hP q29 eq29 rfl 2 (by decide) (hts (.fieldLink RX12 7 "ColdShipsModel" "row" "[I") (by decide +kernel)) (fun _ h9 => h9) rfl dX12_hasTable_1 ?_
  refine lv_iload_n hx hb dX12_hasTable_4 rfl (lv_at hl 1 rfl) ?_
  refine lv_bipush (v := 32) hx hb dX12_hasTable_5 (by decide) ?_
  refine lv_iadd hx hb dX12_hasTable_7 ?_
  refine lv_topi (fun z30 ez30 => ?_)
  have iz30 : z30.toInt = us.toInt + 32 := zi_add ez30 rfl rfl (by omega) (by omega)
  obtain ⟨q31, eq31⟩ := tp_pos (tp_in hG y1 (by decide)) hf_o26
  refine va_iald hx hb hK hP q31 0 eq31 rfl (vp_in_iff.mpr ⟨by omega, by omega⟩) dX12_hasTable_8 ?_
  refine lv_topi (fun z32 ez32 => ?_)
  refine lv_iconst (v := 1) hx hb dX12_hasTable_9 (by decide) ?_
  refine tp_join 18 (fun H locs ls stk => ∃ w33 : Int32, stk = [.int w33] ∧ (0 ≤ w33.toInt ∧ w33.toInt ≤ 1) ∧ H = s.heap ∧ locs = [] ∧ lv_has ls 5 [(0, .ref h0), (1, .int us)]) ?_ (fun hj34 => ?_)
  · intro H locs ls stk hI
    obtain ⟨w33, rfl, rw33, rfl, rfl, hl⟩ := hI
    refine lv_istore_n (lv' := [(2, .int w33), (0, .ref h0), (1, .int us)]) hx hb dX12_hasTable_18 rfl hl (by decide) rfl (fun ls hl => ?_)
    refine lv_iconst (v := 1) hx hb dX12_hasTable_19 (by decide) ?_
    refine lv_istore_n (lv' := [(3, .int 1), (2, .int w33), (0, .ref h0), (1, .int us)]) hx hb dX12_hasTable_20 rfl hl (by decide) rfl (fun ls hl => ?_)
    refine pz_loop (fun n0 H locs ls => ∃ w35 : Int32, ∃ w36 : Int32, n0 = (4 - (w35.toInt)).toNat ∧ (1 ≤ w35.toInt ∧ w35.toInt ≤ 4) ∧ (0 ≤ w36.toInt ∧ w36.toInt ≤ 1) ∧ H = s.heap ∧ locs = [] ∧ lv_has ls 5 [(3, .int w35), (2, .int w36), (0, .ref h0), (1, .int us)]) ?_ _ _ _ _ ⟨1, w33, rfl, (by have : (1 : Int32).toInt = 1 := rfl; omega), (by have : (1 : Int32).toInt = 1 := rfl; omega), rfl, rfl, lv_sub hl [0, 1, 2, 3] rfl⟩
    intro n0 H locs ls hI ih37
    obtain ⟨w35, w36, hn38, rw35, rw36, rfl, rfl, hl⟩ := hI
    refine lv_iload_n hx hb dX12_hasTable_21 rfl (lv_at hl 0 rfl) ?_
    refine lv_iconst (v := 4) hx hb dX12_hasTable_22 (by decide) ?_
    refine lv_icmp_ge (tgt := 105) hx hb dX12_hasTable_23 (by decide) (fun c39 => ?_) (fun c39 => ?_)
    · have ic39 : w35.toInt ≥ 4 := zi_ge rfl rfl c39
      refine lv_iload_n hx hb dX12_hasTable_105 rfl (lv_at hl 1 rfl) ?_
      exact W.zret (v := w36) hx hb hr (zi_narZ (by omega) (by omega)) (fun t ht hW => ⟨w36, rfl, ⟨(by first | decide | omega), trivial⟩, ht⟩) (fun _ h => by cases h) dX12_hasTable_106
    · have ic39 : w35.toInt < 4 := zi_gef rfl rfl c39
      refine lv_iload_n hx hb dX12_hasTable_26 rfl (lv_at hl 3 rfl) ?_
      refine lv_bipush (v := 32) hx hb dX12_hasTable_27 (by decide) ?_
      refine lv_iadd hx hb dX12_hasTable_29 ?_
      refine lv_topi (fun z40 ez40 => ?_)
      have iz40 : z40.toInt = us.toInt + 32 := zi_add ez40 rfl rfl (by omega) (by omega)
      refine lv_iconst (v := 3) hx hb dX12_hasTable_30 (by decide) ?_
      refine lv_iload_n hx hb dX12_hasTable_31 rfl (lv_at hl 0 rfl) ?_
      refine lv_imul hx hb dX12_hasTable_32 ?_
      refine lv_topi (fun z41 ez41 => ?_)
      have iz41 : z41.toInt = 3 * w35.toInt := zi_mul ez41 rfl rfl (by omega) (by omega)
      refine lv_iadd hx hb dX12_hasTable_33 ?_
      refine lv_topi (fun z42 ez42 => ?_)
      have iz42 : z42.toInt = z40.toInt + z41.toInt := zi_add ez42 rfl rfl (by omega) (by omega)
      refine lv_istore (lv' := [(4, .int z42), (3, .int w35), (2, .int w36), (0, .ref h0), (1, .int us)]) hx hb dX12_hasTable_34 hl (by decide) rfl (fun ls hl => ?_)
      refine lv_iload_n hx hb dX12_hasTable_36 rfl (lv_at hl 2 rfl) ?_
      refine lv_if_eq (tgt := 97) hx hb dX12_hasTable_37 (by decide) (fun c43 => ?_) (fun c43 => ?_)
      · have ic43 : w36.toInt = 0 := zi_eq rfl rfl c43
        refine lv_iconst (v := 0) hx hb dX12_hasTable_97 (by decide) ?_
        refine lv_istore_n (lv' := [(2, .int 0), (4, .int z42), (3, .int w35), (0, .ref h0), (1, .int us)]) hx hb dX12_hasTable_98 rfl hl (by decide) rfl (fun ls hl => ?_)
        obtain ⟨z44, ez44⟩ : ∃ y : Int32, y = w35 + 1 := ⟨_, rfl⟩
        refine lv_iinc (v := z44) (lv' := [(3, .int z44), (2, .int 0), (4, .int z42), (0, .ref h0), (1, .int us)]) hx hb dX12_hasTable_99 hl (k := 2) rfl (by rw [ez44]; rfl) (by decide) rfl (fun ls hl => ?_)
        have iz44 : z44.toInt = w35.toInt + 1 := zi_add ez44 rfl rfl (by omega) (by omega)
        refine lv_goto (tgt := 21) hx hb dX12_hasTable_102 (by decide) ?_
        exact ih37 _ _ _ _ (by rw [hn38]; omega) ⟨z44, 0, rfl, (by have : (0 : Int32).toInt = 0 := rfl; omega), (by have : (0 : Int32).toInt = 0 := rfl; omega), rfl, rfl, lv_sub hl [0, 1, 3, 4] rfl⟩
      · have ic43 : w36.toInt ≠ 0 := zi_eqf rfl rfl c43
        refine lv_aload_n hx hb dX12_hasTable_40 rfl (lv_at hl 3 rfl) ?_
        refine va_get (D := (dC, dI)) (ci := 12) (v := .ref (ρ h0 2)) (C := RX12) (T := TX12) (N := 53) hx hb hts hfX12 hown hK hP q29 eq29 rfl 2 (by decide) (hts (.fieldLink RX12 7 "ColdShipsModel" "row" "[I") (by decide +kernel)) (fun _ h9 => h9) rfl dX12_hasTable_41 ?_
        refine lv_iload hx hb dX12_hasTable_44 (lv_at hl 0 rfl) ?_
        refine va_iald hx hb hK hP q31 0 eq31 rfl (vp_in_iff.mpr ⟨by omega, by omega⟩) dX12_hasTable_46 ?_
        refine lv_topi (fun z45 ez45 => ?_)
        refine lv_iconst (v := 1) hx hb dX12_hasTable_47 (by decide) ?_
        refine lv_icmp_ne (tgt := 97) hx hb dX12_hasTable_48 (by decide) (fun c46 => ?_) (fun c46 => ?_)
        · have ic46 : z45.toInt ≠ 1 := zi_ne rfl rfl c46
          refine lv_iconst (v := 0) hx hb dX12_hasTable_97 (by decide) ?_
          refine lv_istore_n (lv' := [(2, .int 0), (4, .int z42), (3, .int w35), (0, .ref h0), (1, .int us)]) hx hb dX12_hasTable_98 rfl hl (by decide) rfl (fun ls hl => ?_)
          obtain ⟨z47, ez47⟩ : ∃ y : Int32, y = w35 + 1 := ⟨_, rfl⟩
          refine lv_iinc (v := z47) (lv' := [(3, .int z47), (2, .int 0), (4, .int z42), (0, .ref h0), (1, .int us)]) hx hb dX12_hasTable_99 hl (k := 2) rfl (by rw [ez47]; rfl) (by decide) rfl (fun ls hl => ?_)
          have iz47 : z47.toInt = w35.toInt + 1 := zi_add ez47 rfl rfl (by omega) (by omega)
          refine lv_goto (tgt := 21) hx hb dX12_hasTable_102 (by decide) ?_
          exact ih37 _ _ _ _ (by rw [hn38]; omega) ⟨z47, 0, rfl, (by have : (0 : Int32).toInt = 0 := rfl; omega), (by have : (0 : Int32).toInt = 0 := rfl; omega), rfl, rfl, lv_sub hl [0, 1, 3, 4] rfl⟩
        · have ic46 : z45.toInt = 1 := zi_nef rfl rfl c46
          refine lv_aload_n hx hb dX12_hasTable_51 rfl (lv_at hl 3 rfl) ?_
          refine va_get (D := (dC, dI)) (ci := 12) (v := .ref (ρ h0 2)) (C := RX12) (T := TX12) (N := 53) hx hb hts hfX12 hown hK hP q29 eq29 rfl 2 (by decide) (hts (.fieldLink RX12 7 "ColdShipsModel" "row" "[I") (by decide +kernel)) (fun _ h9 => h9) rfl dX12_hasTable_52 ?_
          refine lv_iload hx hb dX12_hasTable_55 (lv_at hl 0 rfl) ?_
          refine lv_iconst (v := 1) hx hb dX12_hasTable_57 (by decide) ?_
          refine lv_iadd hx hb dX12_hasTable_58 ?_
          refine lv_topi (fun z48 ez48 => ?_)
          have iz48 : z48.toInt = z42.toInt + 1 := zi_add ez48 rfl rfl (by omega) (by omega)
          refine va_iald hx hb hK hP q31 0 eq31 rfl (vp_in_iff.mpr ⟨by omega, by omega⟩) dX12_hasTable_59 ?_
          refine lv_topi (fun z49 ez49 => ?_)
          have jz49 : z49.toInt = mo_R g27 (547 + 84 * qs + 33 + 3 * w35.toInt) := mo_rd ez49 (by omega)
          have kz49 := hI.SB (s := qs) (k := w35.toInt) (by omega) (by omega) (by omega) (by omega)
          refine lv_aload_n hx hb dX12_hasTable_60 rfl (lv_at hl 3 rfl) ?_
          refine va_get (D := (dC, dI)) (ci := 12) (v := .ref (ρ h0 2)) (C := RX12) (T := TX12) (N := 53) hx hb hts hfX12 hown hK hP q29 eq29 rfl 2 (by decide) (hts (.fieldLink RX12 7 "ColdShipsModel" "row" "[I") (by decide +kernel)) (fun _ h9 => h9) rfl dX12_hasTable_61 ?_
          refine lv_iload hx hb dX12_hasTable_64 (lv_at hl 0 rfl) ?_
          refine lv_iconst (v := 2) hx hb dX12_hasTable_66 (by decide) ?_
          refine lv_isub hx hb dX12_hasTable_67 ?_
          refine lv_topi (fun z50 ez50 => ?_)
          have iz50 : z50.toInt = z42.toInt - 2 := zi_sub ez50 rfl rfl (by omega) (by omega)
          refine va_iald hx hb hK hP q31 0 eq31 rfl (vp_in_iff.mpr ⟨by omega, by omega⟩) dX12_hasTable_68 ?_
          refine lv_topi (fun z51 ez51 => ?_)
          refine lv_icmp_le (tgt := 97) hx hb dX12_hasTable_69 (by decide) (fun c52 => ?_) (fun c52 => ?_)
          · have ic52 : z49.toInt ≤ z51.toInt := zi_le rfl rfl c52
            refine lv_iconst (v := 0) hx hb dX12_hasTable_97 (by decide) ?_
            refine lv_istore_n (lv' := [(2, .int 0), (4, .int z42), (3, .int w35), (0, .ref h0), (1, .int us)]) hx hb dX12_hasTable_98 rfl hl (by decide) rfl (fun ls hl => ?_)
            obtain ⟨z53, ez53⟩ : ∃ y : Int32, y = w35 + 1 := ⟨_, rfl⟩
            refine lv_iinc (v := z53) (lv' := [(3, .int z53), (2, .int 0), (4, .int z42), (0, .ref h0), (1, .int us)]) hx hb dX12_hasTable_99 hl (k := 2) rfl (by rw [ez53]; rfl) (by decide) rfl (fun ls hl => ?_)
            have iz53 : z53.toInt = w35.toInt + 1 := zi_add ez53 rfl rfl (by omega) (by omega)
            refine lv_goto (tgt := 21) hx hb dX12_hasTable_102 (by decide) ?_
            exact ih37 _ _ _ _ (by rw [hn38]; omega) ⟨z53, 0, rfl, (by have : (0 : Int32).toInt = 0 := rfl; omega), (by have : (0 : Int32).toInt = 0 := rfl; omega), rfl, rfl, lv_sub hl [0, 1, 3, 4] rfl⟩
          · have ic52 : z49.toInt > z51.toInt := zi_lef rfl rfl c52
            refine lv_aload_n hx hb dX12_hasTable_72 rfl (lv_at hl 3 rfl) ?_
            refine va_get (D := (dC, dI)) (ci := 12) (v := .ref (ρ h0 2)) (C := RX12) (T := TX12) (N := 53) hx hb hts hfX12 hown hK hP q29 eq29 rfl 2 (by decide) (hts (.fieldLink RX12 7 "ColdShipsModel" "row" "[I") (by decide +kernel)) (fun _ h9 => h9) rfl dX12_hasTable_73 ?_
            refine lv_iload hx hb dX12_hasTable_76 (lv_at hl 0 rfl) ?_
            refine lv_iconst (v := 2) hx hb dX12_hasTable_78 (by decide) ?_
            refine lv_iadd hx hb dX12_hasTable_79 ?_
            refine lv_topi (fun z54 ez54 => ?_)
            have iz54 : z54.toInt = z42.toInt + 2 := zi_add ez54 rfl rfl (by omega) (by omega)
            refine va_iald hx hb hK hP q31 0 eq31 rfl (vp_in_iff.mpr ⟨by omega, by omega⟩) dX12_hasTable_80 ?_
            refine lv_topi (fun z55 ez55 => ?_)
            refine lv_aload_n hx hb dX12_hasTable_81 rfl (lv_at hl 3 rfl) ?_
            refine va_get (D := (dC, dI)) (ci := 12) (v := .ref (ρ h0 2)) (C := RX12) (T := TX12) (N := 53) hx hb hts hfX12 hown hK hP q29 eq29 rfl 2 (by decide) (hts (.fieldLink RX12 7 "ColdShipsModel" "row" "[I") (by decide +kernel)) (fun _ h9 => h9) rfl dX12_hasTable_82 ?_
            refine lv_iload hx hb dX12_hasTable_85 (lv_at hl 0 rfl) ?_
            refine lv_iconst (v := 1) hx hb dX12_hasTable_87 (by decide) ?_
            refine lv_isub hx hb dX12_hasTable_88 ?_
            refine lv_topi (fun z56 ez56 => ?_)
            have iz56 : z56.toInt = z42.toInt - 1 := zi_sub ez56 rfl rfl (by omega) (by omega)
            refine va_iald hx hb hK hP q31 0 eq31 rfl (vp_in_iff.mpr ⟨by omega, by omega⟩) dX12_hasTable_89 ?_
            refine lv_topi (fun z57 ez57 => ?_)
            refine lv_icmp_lt (tgt := 97) hx hb dX12_hasTable_90 (by decide) (fun c58 => ?_) (fun c58 => ?_)
            · have ic58 : z55.toInt < z57.toInt := zi_lt rfl rfl c58
              refine lv_iconst (v := 0) hx hb dX12_hasTable_97 (by decide) ?_
              refine lv_istore_n (lv' := [(2, .int 0), (4, .int z42), (3, .int w35), (0, .ref h0), (1, .int us)]) hx hb dX12_hasTable_98 rfl hl (by decide) rfl (fun ls hl => ?_)
              obtain ⟨z59, ez59⟩ : ∃ y : Int32, y = w35 + 1 := ⟨_, rfl⟩
              refine lv_iinc (v := z59) (lv' := [(3, .int z59), (2, .int 0), (4, .int z42), (0, .ref h0), (1, .int us)]) hx hb dX12_hasTable_99 hl (k := 2) rfl (by rw [ez59]; rfl) (by decide) rfl (fun ls hl => ?_)
              have iz59 : z59.toInt = w35.toInt + 1 := zi_add ez59 rfl rfl (by omega) (by omega)
              refine lv_goto (tgt := 21) hx hb dX12_hasTable_102 (by decide) ?_
              exact ih37 _ _ _ _ (by rw [hn38]; omega) ⟨z59, 0, rfl, (by have : (0 : Int32).toInt = 0 := rfl; omega), (by have : (0 : Int32).toInt = 0 := rfl; omega), rfl, rfl, lv_sub hl [0, 1, 3, 4] rfl⟩
            · have ic58 : z55.toInt ≥ z57.toInt := zi_ltf rfl rfl c58
              refine lv_iconst (v := 1) hx hb dX12_hasTable_93 (by decide) ?_
              refine lv_goto (tgt := 98) hx hb dX12_hasTable_94 (by decide) ?_
              refine lv_istore_n (lv' := [(2, .int 1), (4, .int z42), (3, .int w35), (0, .ref h0), (1, .int us)]) hx hb dX12_hasTable_98 rfl hl (by decide) rfl (fun ls hl => ?_)
              obtain ⟨z60, ez60⟩ : ∃ y : Int32, y = w35 + 1 := ⟨_, rfl⟩
              refine lv_iinc (v := z60) (lv' := [(3, .int z60), (2, .int 1), (4, .int z42), (0, .ref h0), (1, .int us)]) hx hb dX12_hasTable_99 hl (k := 2) rfl (by rw [ez60]; rfl) (by decide) rfl (fun ls hl => ?_)
              have iz60 : z60.toInt = w35.toInt + 1 := zi_add ez60 rfl rfl (by omega) (by omega)
              refine lv_goto (tgt := 21) hx hb dX12_hasTable_102 (by decide) ?_
              exact ih37 _ _ _ _ (by rw [hn38]; omega) ⟨z60, 1, rfl, (by have : (1 : Int32).toInt = 1 := rfl; omega), (by have : (1 : Int32).toInt = 1 := rfl; omega), rfl, rfl, lv_sub hl [0, 1, 3, 4] rfl⟩
  · refine lv_icmp_ne (tgt := 17) hx hb dX12_hasTable_10 (by decide) (fun c61 => ?_) (fun c61 => ?_)
    · have ic61 : z32.toInt ≠ 1 := zi_ne rfl rfl c61
      refine lv_iconst (v := 0) hx hb dX12_hasTable_17 (by decide) ?_
      exact hj34 _ _ _ _ ⟨0, rfl, (by have : (0 : Int32).toInt = 0 := rfl; omega), rfl, rfl, lv_sub hl [0, 1] rfl⟩
    · have ic61 : z32.toInt = 1 := zi_nef rfl rfl c61
      refine lv_iconst (v := 1) hx hb dX12_hasTable_13 (by decide) ?_
      refine lv_goto (tgt := 18) hx hb dX12_hasTable_14 (by decide) ?_
      exact hj34 _ _ _ _ ⟨1, rfl, (by have : (1 : Int32).toInt = 1 := rfl; omega), rfl, rfl, lv_sub hl [0, 1] rfl⟩
set_option maxHeartbeats 4000000 in
set_option maxRecDepth 100000 in
theorem t_X12_tonsBy (l : Launch) (dC : Nat → ClassId) (dI : Nat → Nat → Nat) (sz : Nat) (κ : Nat → ClassId) (τ ν : Nat → Nat) (ρ : Nat → Nat → Nat) (L : List Nat) (f : Nat → va_E) (hG : tp_G τ ν ρ L) (hT : tp_T (mo_O κ) κ τ ν ρ f) (h0 : Nat) (us : Int32) (v : Int32) (x : Int) (b : Int) (qs : Int) (ht_h0 : τ h0 = 13) (hL_us : us.toInt = 547 + 84 * qs) (hq_us : 0 ≤ qs ∧ qs ≤ 5) (hJ : mo_RI x b (mo_R (mo_i (f (ρ h0 2))))) (hn1 : qs < (mo_R (mo_i (f (ρ h0 2)))) (1)) : Met l yX12_tonsBy wsX12_tonsBy ({ frames := 2, cells := 0, slots := 0, locals := 400 }) (va_Pc [.ref h0, .int us, .int v] (pz_B dC dI (tp_K κ) (va_pl L f) sz)) (vp_Sl (fun r => True ∧ True)) 0 0 (fun _ => False) := by
  refine Met.ofW (cc := cX12_tonsBy) (maxL := 7) (ret := some .long) (by decide) rfl ?_
  intro p e s m args below meth c s₁ B hml hv
  obtain ⟨rfl, hsz, hP, hK, hD0, hN⟩ := hv
  have hx := B.exec
  have hb := B.bytes
  have hr := B.returns
  have hts := atoms_spec (ws := wsX12_tonsBy) B.pre
  have hown : s.vm.findClass RX12 = some m.cls := findClass_of_methodNamed B.named
  have hlocks := B.notSynchronized
  subst hsz
  have hD := hD0
  have hS : va_S (fun _ => True) s.heap s.heap [] := va_S.rf
  have hl := lv_entry ([.ref h0, .int us, .int v]) (n := 7) (Nat.le_of_ble_eq_true rfl)
  rw [lg_entry_eq]
  generalize (lg_sl ([.ref h0, .int us, .int v]) ++ List.replicate (7 - (lg_sl ([.ref h0, .int us, .int v])).length) Slot.unset).toArray = ls at hl ⊢
  have hl : lv_has ls 7 [(0, .ref h0), (1, .int us), (2, .int v)] := hl
  have hfX12 : ∀ w ∈ wsX120, w ∈ wsX12_tonsBy := fun w h => List.mem_cons_of_mem _ (List.mem_append_right _ h)
  obtain ⟨y1, y2, y3, y4, y5, y6, y7, y8, y9, y10, y11, y12, y13, y14, y15, y16, y17, y18, y19, y20, y21, y22, y23, y24, y25⟩ := tpg_13 hG ht_h0
  obtain ⟨g27, hf_o26⟩ := tpo_32 hT y1
  have hI : mo_RI x b (mo_R g27) := by have q9 := hJ; rw [hf_o26, mo_i1] at q9; exact q9
  rw [hf_o26, mo_i1] at hn1
  obtain ⟨n1, en1⟩ : ∃ n : Int, n = mo_R g27 (1) := ⟨_, rfl⟩
  have kn1 := hI.k1
  obtain ⟨n11, en11⟩ : ∃ n : Int, n = mo_R g27 (11) := ⟨_, rfl⟩
  have kn11 := hI.k11
  refine lv_iload_n hx hb dX12_tonsBy_0 rfl (lv_at hl 1 rfl) ?_
  refine lv_bipush (v := 32) hx hb dX12_tonsBy_1 (by decide) ?_
  refine lv_iadd hx hb dX12_tonsBy_3 ?_
  refine lv_topi (fun z28 ez28 => ?_)
  have iz28 : z28.toInt = us.toInt + 32 := zi_add ez28 rfl rfl (by omega) (by omega)
  refine lv_istore_n (lv' := [(3, .int z28), (0, .ref h0), (1, .int us), (2, .int v)]) hx hb dX12_tonsBy_4 rfl hl (by decide) rfl (fun ls hl => ?_)
  refine lv_iload_n hx hb dX12_tonsBy_5 rfl (lv_at hl 3 rfl) ?_
  refine lv_aload_n hx hb dX12_tonsBy_6 rfl (lv_at hl 1 rfl) ?_
  obtain ⟨o29_x0, o29_x1, o29_x7, o29_x9, o29_x10, o29_x11, o29_x12, o29_x13, o29_x14, o29_x15, o29_x16, o29_x17, o29_x18, o29_x19, o29_x20, o29_x22, o29_x25, o29_x28, o29_x29, o29_x32, o29_x33, o29_x34, o29_x35, o29_x36, o29_x37, o29_x38, o29_x47, o29_x48, hf_o29, ro29_0, ro29_1, ro29_2, ro29_3, ro29_4, ro29_5, ro29_6, ro29_7, ro29_8, ro29_9, ro29_10, ro29_11, ro29_12, ro29_13⟩ := tpo_13 hT ht_h0
  obtain ⟨q30, eq30⟩ := tp_pos (tp_in hG ht_h0 (by decide)) hf_o29
  refine va_get (D := (dC, dI)) (ci := 12) (v := .ref (ρ h0 2)) (C := RX12) (T := TX12) (N := 53) hx hb hts hfX12 hown hK hP q30 eq30 rfl 2 (by decide) (hts (.fieldLink RX12 7 "ColdShipsModel" "row" "[I") (by decide +kernel)) (fun _ h9 => h9) rfl dX12_tonsBy_7 ?_
  refine lv_iload_n hx hb dX12_tonsBy_10 rfl (lv_at hl 0 rfl) ?_
  refine lv_iconst (v := 1) hx hb dX12_tonsBy_11 (by decide) ?_
  refine lv_iadd hx hb dX12_tonsBy_12 ?_
  refine lv_topi (fun z31 ez31 => ?_)
  have iz31 : z31.toInt = z28.toInt + 1 := zi_add ez31 rfl rfl (by omega) (by omega)
  obtain ⟨q32, eq32⟩ := tp_pos (tp_in hG y1 (by decide)) hf_o26
  refine va_iald hx hb hK hP q32 0 eq32 rfl (vp_in_iff.mpr ⟨by omega, by omega⟩) dX12_tonsBy_13 ?_
  refine lv_topi (fun z33 ez33 => ?_)
  have jz33 : z33.toInt = mo_R g27 (547 + 84 * qs + 33 + 3 * 0) := mo_rd ez33 (by omega)
  have kz33 := hI.SB (s := qs) (k := 0) (by omega) (by omega) (by omega) (by omega)
  refine lv_icmp_gt (tgt := 27) hx hb dX12_tonsBy_14 (by decide) (fun c34 => ?_) (fun c34 => ?_)
  · have ic34 : v.toInt > z33.toInt := zi_gt rfl rfl c34
    refine lv_iconst (v := 0) hx hb dX12_tonsBy_27 (by decide) ?_
    refine lv_istore (lv' := [(4, .int 0), (3, .int z28), (0, .ref h0), (1, .int us), (2, .int v)]) hx hb dX12_tonsBy_28 hl (by decide) rfl (fun ls hl => ?_)
    refine pz_loop (fun n0 H locs ls => ∃ w35 : Int32, n0 = (3 - (w35.toInt)).toNat ∧ (0 ≤ w35.toInt ∧ w35.toInt ≤ 3) ∧ (mo_R g27 (547 + 84 * qs + 33 + 3 * (w35.toInt)) < v.toInt) ∧ H = s.heap ∧ locs = [] ∧ lv_has ls 7 [(4, .int w35), (3, .int z28), (0, .ref h0), (1, .int us), (2, .int v)]) ?_ _ _ _ _ ⟨0, rfl, (by have : (0 : Int32).toInt = 0 := rfl; omega), (by have q9 : mo_R g27 (547 + 84 * qs + 33 + 3 * (0 : Int32).toInt) = mo_R g27 (547 + 84 * qs + 33 + 3 * 0) := congrArg (mo_R g27) (by have : (0 : Int32).toInt = 0 := rfl; omega); omega), rfl, rfl, lv_sub hl [0, 1, 2, 3, 4] rfl⟩
    intro n0 H locs ls hI ih37
    obtain ⟨w35, hn38, rw35, k36, rfl, rfl, hl⟩ := hI
    refine lv_iload hx hb dX12_tonsBy_30 (lv_at hl 0 rfl) ?_
    refine lv_iconst (v := 3) hx hb dX12_tonsBy_32 (by decide) ?_
    refine lv_icmp_ge (tgt := 135) hx hb dX12_tonsBy_33 (by decide) (fun c39 => ?_) (fun c39 => ?_)
    · have ic39 : w35.toInt ≥ 3 := zi_ge rfl rfl c39
      refine lv_aload_n hx hb dX12_tonsBy_135 rfl (lv_at hl 2 rfl) ?_
      refine va_get (D := (dC, dI)) (ci := 12) (v := .ref (ρ h0 2)) (C := RX12) (T := TX12) (N := 53) hx hb hts hfX12 hown hK hP q30 eq30 rfl 2 (by decide) (hts (.fieldLink RX12 7 "ColdShipsModel" "row" "[I") (by decide +kernel)) (fun _ h9 => h9) rfl dX12_tonsBy_136 ?_
      refine lv_iload_n hx hb dX12_tonsBy_139 rfl (lv_at hl 1 rfl) ?_
      refine lv_bipush (v := 11) hx hb dX12_tonsBy_140 (by decide) ?_
      refine lv_iadd hx hb dX12_tonsBy_142 ?_
      refine lv_topi (fun z40 ez40 => ?_)
      have iz40 : z40.toInt = z28.toInt + 11 := zi_add ez40 rfl rfl (by omega) (by omega)
      refine va_iald hx hb hK hP q32 0 eq32 rfl (vp_in_iff.mpr ⟨by omega, by omega⟩) dX12_tonsBy_143 ?_
      refine lv_topi (fun z41 ez41 => ?_)
      refine lv_i2l hx hb dX12_tonsBy_144 rfl ?_
      exact W.lret (v := z41.toInt64) hx hb hr (fun t ht hW => ⟨z41.toInt64, rfl, ⟨trivial, trivial⟩, ht⟩) (fun _ h => by cases h) dX12_tonsBy_145
    · have ic39 : w35.toInt < 3 := zi_gef rfl rfl c39
      refine lv_iload_n hx hb dX12_tonsBy_36 rfl (lv_at hl 1 rfl) ?_
      refine lv_iconst (v := 3) hx hb dX12_tonsBy_37 (by decide) ?_
      refine lv_iload hx hb dX12_tonsBy_38 (lv_at hl 0 rfl) ?_
      refine lv_imul hx hb dX12_tonsBy_40 ?_
      refine lv_topi (fun z42 ez42 => ?_)
      have iz42 : z42.toInt = 3 * w35.toInt := zi_mul ez42 rfl rfl (by omega) (by omega)
      refine lv_iadd hx hb dX12_tonsBy_41 ?_
      refine lv_topi (fun z43 ez43 => ?_)
      have iz43 : z43.toInt = z28.toInt + z42.toInt := zi_add ez43 rfl rfl (by omega) (by omega)
      refine lv_istore (lv' := [(5, .int z43), (4, .int w35), (3, .int z28), (0, .ref h0), (1, .int us), (2, .int v)]) hx hb dX12_tonsBy_42 hl (by decide) rfl (fun ls hl => ?_)
      refine lv_iload hx hb dX12_tonsBy_44 (lv_at hl 0 rfl) ?_
      refine lv_iconst (v := 3) hx hb dX12_tonsBy_46 (by decide) ?_
      refine lv_iadd hx hb dX12_tonsBy_47 ?_
      refine lv_topi (fun z44 ez44 => ?_)
      have iz44 : z44.toInt = z43.toInt + 3 := zi_add ez44 rfl rfl (by omega) (by omega)
      refine lv_istore (lv' := [(6, .int z44), (5, .int z43), (4, .int w35), (3, .int z28), (0, .ref h0), (1, .int us), (2, .int v)]) hx hb dX12_tonsBy_48 hl (by decide) rfl (fun ls hl => ?_)
      refine lv_iload_n hx hb dX12_tonsBy_50 rfl (lv_at hl 6 rfl) ?_
      refine lv_aload_n hx hb dX12_tonsBy_51 rfl (lv_at hl 4 rfl) ?_
      refine va_get (D := (dC, dI)) (ci := 12) (v := .ref (ρ h0 2)) (C := RX12) (T := TX12) (N := 53) hx hb hts hfX12 hown hK hP q30 eq30 rfl 2 (by decide) (hts (.fieldLink RX12 7 "ColdShipsModel" "row" "[I") (by decide +kernel)) (fun _ h9 => h9) rfl dX12_tonsBy_52 ?_
      refine lv_iload hx hb dX12_tonsBy_55 (lv_at hl 0 rfl) ?_
      refine lv_iconst (v := 1) hx hb dX12_tonsBy_57 (by decide) ?_
      refine lv_iadd hx hb dX12_tonsBy_58 ?_
      refine lv_topi (fun z45 ez45 => ?_)
      have iz45 : z45.toInt = z44.toInt + 1 := zi_add ez45 rfl rfl (by omega) (by omega)
      refine va_iald hx hb hK hP q32 0 eq32 rfl (vp_in_iff.mpr ⟨by omega, by omega⟩) dX12_tonsBy_59 ?_
      refine lv_topi (fun z46 ez46 => ?_)
      have jz46 : z46.toInt = mo_R g27 (547 + 84 * qs + 33 + 3 * (w35.toInt + 1)) := mo_rd ez46 (by omega)
      have kz46 := hI.SB (s := qs) (k := (w35.toInt + 1)) (by omega) (by omega) (by omega) (by omega)
      refine lv_icmp_gt (tgt := 129) hx hb dX12_tonsBy_60 (by decide) (fun c47 => ?_) (fun c47 => ?_)
      · have ic47 : v.toInt > z46.toInt := zi_gt rfl rfl c47
        obtain ⟨z48, ez48⟩ : ∃ y : Int32, y = w35 + 1 := ⟨_, rfl⟩
        refine lv_iinc (v := z48) (lv' := [(4, .int z48), (6, .int z44), (5, .int z43), (3, .int z28), (0, .ref h0), (1, .int us), (2, .int v)]) hx hb dX12_tonsBy_129 hl (k := 2) rfl (by rw [ez48]; rfl) (by decide) rfl (fun ls hl => ?_)
        have iz48 : z48.toInt = w35.toInt + 1 := zi_add ez48 rfl rfl (by omega) (by omega)
        refine lv_goto (tgt := 30) hx hb dX12_tonsBy_132 (by decide) ?_
        exact ih37 _ _ _ _ (by rw [hn38]; omega) ⟨z48, rfl, (by omega), (by have q9 : mo_R g27 (547 + 84 * qs + 33 + 3 * z48.toInt) = mo_R g27 (547 + 84 * qs + 33 + 3 * (w35.toInt + 1)) := congrArg (mo_R g27) (by omega); omega), rfl, rfl, lv_sub hl [0, 3, 4, 5, 6] rfl⟩
      · have ic47 : v.toInt ≤ z46.toInt := zi_gtf rfl rfl c47
        refine lv_aload_n hx hb dX12_tonsBy_63 rfl (lv_at hl 4 rfl) ?_
        refine va_get (D := (dC, dI)) (ci := 12) (v := .ref (ρ h0 2)) (C := RX12) (T := TX12) (N := 53) hx hb hts hfX12 hown hK hP q30 eq30 rfl 2 (by decide) (hts (.fieldLink RX12 7 "ColdShipsModel" "row" "[I") (by decide +kernel)) (fun _ h9 => h9) rfl dX12_tonsBy_64 ?_
        refine lv_iload hx hb dX12_tonsBy_67 (lv_at hl 1 rfl) ?_
        refine lv_iconst (v := 2) hx hb dX12_tonsBy_69 (by decide) ?_
        refine lv_iadd hx hb dX12_tonsBy_70 ?_
        refine lv_topi (fun z49 ez49 => ?_)
        have iz49 : z49.toInt = z43.toInt + 2 := zi_add ez49 rfl rfl (by omega) (by omega)
        refine va_iald hx hb hK hP q32 0 eq32 rfl (vp_in_iff.mpr ⟨by omega, by omega⟩) dX12_tonsBy_71 ?_
        refine lv_topi (fun z50 ez50 => ?_)
        refine lv_i2l hx hb dX12_tonsBy_72 rfl ?_
        refine lv_aload_n hx hb dX12_tonsBy_73 rfl (lv_at hl 4 rfl) ?_
        refine va_get (D := (dC, dI)) (ci := 12) (v := .ref (ρ h0 2)) (C := RX12) (T := TX12) (N := 53) hx hb hts hfX12 hown hK hP q30 eq30 rfl 2 (by decide) (hts (.fieldLink RX12 7 "ColdShipsModel" "row" "[I") (by decide +kernel)) (fun _ h9 => h9) rfl dX12_tonsBy_74 ?_
        refine lv_iload hx hb dX12_tonsBy_77 (lv_at hl 0 rfl) ?_
        refine lv_iconst (v := 2) hx hb dX12_tonsBy_79 (by decide) ?_
        refine lv_iadd hx hb dX12_tonsBy_80 ?_
        refine lv_topi (fun z51 ez51 => ?_)
        have iz51 : z51.toInt = z44.toInt + 2 := zi_add ez51 rfl rfl (by omega) (by omega)
        refine va_iald hx hb hK hP q32 0 eq32 rfl (vp_in_iff.mpr ⟨by omega, by omega⟩) dX12_tonsBy_81 ?_
        refine lv_topi (fun z52 ez52 => ?_)
        refine lv_aload_n hx hb dX12_tonsBy_82 rfl (lv_at hl 4 rfl) ?_
        refine va_get (D := (dC, dI)) (ci := 12) (v := .ref (ρ h0 2)) (C := RX12) (T := TX12) (N := 53) hx hb hts hfX12 hown hK hP q30 eq30 rfl 2 (by decide) (hts (.fieldLink RX12 7 "ColdShipsModel" "row" "[I") (by decide +kernel)) (fun _ h9 => h9) rfl dX12_tonsBy_83 ?_
        refine lv_iload hx hb dX12_tonsBy_86 (lv_at hl 1 rfl) ?_
        refine lv_iconst (v := 2) hx hb dX12_tonsBy_88 (by decide) ?_
        refine lv_iadd hx hb dX12_tonsBy_89 ?_
        refine lv_topi (fun z53 ez53 => ?_)
        have iz53 : z53.toInt = z43.toInt + 2 := zi_add ez53 rfl rfl (by omega) (by omega)
        refine va_iald hx hb hK hP q32 0 eq32 rfl (vp_in_iff.mpr ⟨by omega, by omega⟩) dX12_tonsBy_90 ?_
        refine lv_topi (fun z54 ez54 => ?_)
        refine lv_isub hx hb dX12_tonsBy_91 ?_
        refine lv_topi (fun z55 ez55 => ?_)
        refine lv_i2l hx hb dX12_tonsBy_92 rfl ?_
        refine lv_iload_n hx hb dX12_tonsBy_93 rfl (lv_at hl 6 rfl) ?_
        refine lv_aload_n hx hb dX12_tonsBy_94 rfl (lv_at hl 4 rfl) ?_
        refine va_get (D := (dC, dI)) (ci := 12) (v := .ref (ρ h0 2)) (C := RX12) (T := TX12) (N := 53) hx hb hts hfX12 hown hK hP q30 eq30 rfl 2 (by decide) (hts (.fieldLink RX12 7 "ColdShipsModel" "row" "[I") (by decide +kernel)) (fun _ h9 => h9) rfl dX12_tonsBy_95 ?_
        refine lv_iload hx hb dX12_tonsBy_98 (lv_at hl 1 rfl) ?_
        refine lv_iconst (v := 1) hx hb dX12_tonsBy_100 (by decide) ?_
        refine lv_iadd hx hb dX12_tonsBy_101 ?_
        refine lv_topi (fun z56 ez56 => ?_)
        have iz56 : z56.toInt = z43.toInt + 1 := zi_add ez56 rfl rfl (by omega) (by omega)
        refine va_iald hx hb hK hP q32 0 eq32 rfl (vp_in_iff.mpr ⟨by omega, by omega⟩) dX12_tonsBy_102 ?_
        refine lv_topi (fun z57 ez57 => ?_)
        have jz57 : z57.toInt = mo_R g27 (547 + 84 * qs + 33 + 3 * w35.toInt) := mo_rd ez57 (by omega)
        have kz57 := hI.SB (s := qs) (k := w35.toInt) (by omega) (by omega) (by omega) (by omega)
        refine lv_isub hx hb dX12_tonsBy_103 ?_
        refine lv_topi (fun z58 ez58 => ?_)
        have iz58 : z58.toInt = v.toInt - z57.toInt := zi_sub ez58 rfl rfl (by omega) (by omega)
        refine lv_i2l hx hb dX12_tonsBy_104 rfl ?_
        refine lv_lmul hx hb dX12_tonsBy_105 ?_
        refine lv_topl (fun z59 ez59 => ?_)
        refine lv_aload_n hx hb dX12_tonsBy_106 rfl (lv_at hl 4 rfl) ?_
        refine va_get (D := (dC, dI)) (ci := 12) (v := .ref (ρ h0 2)) (C := RX12) (T := TX12) (N := 53) hx hb hts hfX12 hown hK hP q30 eq30 rfl 2 (by decide) (hts (.fieldLink RX12 7 "ColdShipsModel" "row" "[I") (by decide +kernel)) (fun _ h9 => h9) rfl dX12_tonsBy_107 ?_
        refine lv_iload hx hb dX12_tonsBy_110 (lv_at hl 0 rfl) ?_
        refine lv_iconst (v := 1) hx hb dX12_tonsBy_112 (by decide) ?_
        refine lv_iadd hx hb dX12_tonsBy_113 ?_
        refine lv_topi (fun z60 ez60 => ?_)
        have iz60 : z60.toInt = z44.toInt + 1 := zi_add ez60 rfl rfl (by omega) (by omega)
        refine va_iald hx hb hK hP q32 0 eq32 rfl (vp_in_iff.mpr ⟨by omega, by omega⟩) dX12_tonsBy_114 ?_
        refine lv_topi (fun z61 ez61 => ?_)
        have jz61 : z61.toInt = mo_R g27 (547 + 84 * qs + 33 + 3 * (w35.toInt + 1)) := mo_rd ez61 (by omega)
        have kz61 := hI.SB (s := qs) (k := (w35.toInt + 1)) (by omega) (by omega) (by omega) (by omega)
        refine lv_aload_n hx hb dX12_tonsBy_115 rfl (lv_at hl 4 rfl) ?_
        refine va_get (D := (dC, dI)) (ci := 12) (v := .ref (ρ h0 2)) (C := RX12) (T := TX12) (N := 53) hx hb hts hfX12 hown hK hP q30 eq30 rfl 2 (by decide) (hts (.fieldLink RX12 7 "ColdShipsModel" "row" "[I") (by decide +kernel)) (fun _ h9 => h9) rfl dX12_tonsBy_116 ?_
        refine lv_iload hx hb dX12_tonsBy_119 (lv_at hl 1 rfl) ?_
        refine lv_iconst (v := 1) hx hb dX12_tonsBy_121 (by decide) ?_
        refine lv_iadd hx hb dX12_tonsBy_122 ?_
        refine lv_topi (fun z62 ez62 => ?_)
        have iz62 : z62.toInt = z43.toInt + 1 := zi_add ez62 rfl rfl (by omega) (by omega)
        refine va_iald hx hb hK hP q32 0 eq32 rfl (vp_in_iff.mpr ⟨by omega, by omega⟩) dX12_tonsBy_123 ?_
        refine lv_topi (fun z63 ez63 => ?_)
        have jz63 : z63.toInt = mo_R g27 (547 + 84 * qs + 33 + 3 * w35.toInt) := mo_rd ez63 (by omega)
        have kz63 := hI.SB (s := qs) (k := w35.toInt) (by omega) (by omega) (by omega) (by omega)
        refine lv_isub hx hb dX12_tonsBy_124 ?_
        refine lv_topi (fun z64 ez64 => ?_)
        have iz64 : z64.toInt = z61.toInt - z63.toInt := zi_sub ez64 rfl rfl (by omega) (by omega)
        refine lv_i2l hx hb dX12_tonsBy_125 rfl ?_
        refine lv_ldiv hx hb dX12_tonsBy_126 (zl_nz (by omega) (Int32.toInt_toInt64 z64)) ?_
        refine lv_topl (fun z65 ez65 => ?_)
        refine lv_ladd hx hb dX12_tonsBy_127 ?_
        refine lv_topl (fun z66 ez66 => ?_)
        exact W.lret (v := z66) hx hb hr (fun t ht hW => ⟨z66, rfl, ⟨trivial, trivial⟩, ht⟩) (fun _ h => by cases h) dX12_tonsBy_128
  · have ic34 : v.toInt ≤ z33.toInt := zi_gtf rfl rfl c34
    refine lv_aload_n hx hb dX12_tonsBy_17 rfl (lv_at hl 1 rfl) ?_
    refine va_get (D := (dC, dI)) (ci := 12) (v := .ref (ρ h0 2)) (C := RX12) (T := TX12) (N := 53) hx hb hts hfX12 hown hK hP q30 eq30 rfl 2 (by decide) (hts (.fieldLink RX12 7 "ColdShipsModel" "row" "[I") (by decide +kernel)) (fun _ h9 => h9) rfl dX12_tonsBy_18 ?_
    refine lv_iload_n hx hb dX12_tonsBy_21 rfl (lv_at hl 0 rfl) ?_
    refine lv_iconst (v := 2) hx hb dX12_tonsBy_22 (by decide) ?_
    refine lv_iadd hx hb dX12_tonsBy_23 ?_
    refine lv_topi (fun z67 ez67 => ?_)
    have iz67 : z67.toInt = z28.toInt + 2 := zi_add ez67 rfl rfl (by omega) (by omega)
    refine va_iald hx hb hK hP q32 0 eq32 rfl (vp_in_iff.mpr ⟨by omega, by omega⟩) dX12_tonsBy_24 ?_
    refine lv_topi (fun z68 ez68 => ?_)
    refine lv_i2l hx hb dX12_tonsBy_25 rfl ?_
    exact W.lret (v := z68.toInt64) hx hb hr (fun t ht hW => ⟨z68.toInt64, rfl, ⟨trivial, trivial⟩, ht⟩) (fun _ h => by cases h) dX12_tonsBy_26
set_option maxHeartbeats 4000000 in
set_option maxRecDepth 100000 in
theorem t_X12_gaugedBy (l : Launch) (dC : Nat → ClassId) (dI : Nat → Nat → Nat) (sz : Nat) (κ : Nat → ClassId) (τ ν : Nat → Nat) (ρ : Nat → Nat → Nat) (L : List Nat) (f : Nat → va_E) (hG : tp_G τ ν ρ L) (hT : tp_T (mo_O κ) κ τ ν ρ f) (h0 : Nat) (v : Int32) (u : Int32) (a : Int32) (x : Int) (b : Int) (ht_h0 : τ h0 = 13) (hJ : mo_RI x b (mo_R (mo_i (f (ρ h0 2))))) (hv5 : 0 ≤ v.toInt ∧ v.toInt < (mo_R (mo_i (f (ρ h0 2)))) (5)) : Met l yX12_gaugedBy wsX12_gaugedBy ({ frames := 3, cells := 0, slots := 0, locals := 800 }) (va_Pc [.ref h0, .int v, .int u, .int a] (pz_B dC dI (tp_K κ) (va_pl L f) sz)) (vp_Sl (fun r => True ∧ True)) 0 0 (fun _ => False) := by
  refine Met.ofW (cc := cX12_gaugedBy) (maxL := 9) (ret := some .long) (by decide) rfl ?_
  intro p e s m args below meth c s₁ B hml hv
  obtain ⟨rfl, hsz, hP, hK, hD0, hN⟩ := hv
  have hx := B.exec
  have hb := B.bytes
  have hr := B.returns
  have hts := atoms_spec (ws := wsX12_gaugedBy) B.pre
  have hown : s.vm.findClass RX12 = some m.cls := findClass_of_methodNamed B.named
  have hlocks := B.notSynchronized
  subst hsz
  have hD := hD0
  have hS : va_S (fun _ => True) s.heap s.heap [] := va_S.rf
  have hl := lv_entry ([.ref h0, .int v, .int u, .int a]) (n := 9) (Nat.le_of_ble_eq_true rfl)
  rw [lg_entry_eq]
  generalize (lg_sl ([.ref h0, .int v, .int u, .int a]) ++ List.replicate (9 - (lg_sl ([.ref h0, .int v, .int u, .int a])).length) Slot.unset).toArray = ls at hl ⊢
  have hl : lv_has ls 9 [(0, .ref h0), (1, .int v), (2, .int u), (3, .int a)] := hl
  have hfX12 : ∀ w ∈ wsX120, w ∈ wsX12_gaugedBy := fun w h => List.mem_cons_of_mem _ (List.mem_append_right _ h)
  obtain ⟨y1, y2, y3, y4, y5, y6, y7, y8, y9, y10, y11, y12, y13, y14, y15, y16, y17, y18, y19, y20, y21, y22, y23, y24, y25⟩ := tpg_13 hG ht_h0
  obtain ⟨g27, hf_o26⟩ := tpo_32 hT y1
  have hI : mo_RI x b (mo_R g27) := by have q9 := hJ; rw [hf_o26, mo_i1] at q9; exact q9
  rw [hf_o26, mo_i1] at hv5
  have := hI.k5; have := hI.k1
  refine lv_aload_n hx hb dX12_gaugedBy_0 rfl (lv_at hl 0 rfl) ?_
  obtain ⟨o28_x0, o28_x1, o28_x7, o28_x9, o28_x10, o28_x11, o28_x12, o28_x13, o28_x14, o28_x15, o28_x16, o28_x17, o28_x18, o28_x19, o28_x20, o28_x22, o28_x25, o28_x28, o28_x29, o28_x32, o28_x33, o28_x34, o28_x35, o28_x36, o28_x37, o28_x38, o28_x47, o28_x48, hf_o28, ro28_0, ro28_1, ro28_2, ro28_3, ro28_4, ro28_5, ro28_6, ro28_7, ro28_8, ro28_9, ro28_10, ro28_11, ro28_12, ro28_13⟩ := tpo_13 hT ht_h0
  obtain ⟨q29, eq29⟩ := tp_pos (tp_in hG ht_h0 (by decide)) hf_o28
  refine va_get (D := (dC, dI)) (ci := 12) (v := .ref (ρ h0 2)) (C := RX12) (T := TX12) (N := 53) hx hb hts hfX12 hown hK hP q29 eq29 rfl 2 (by decide) (hts (.fieldLink RX12 7 "ColdShipsModel" "row" "[I") (by decide +kernel)) (fun _ h9 => h9) rfl dX12_gaugedBy_1 ?_
  refine lv_iload_n hx hb dX12_gaugedBy_4 rfl (lv_at hl 1 rfl) ?_
  refine pz_calli (va_runS (As := [.int v]) (rest := [.ref (ρ h0 2)]) ⟨hx, hb, hml, hown, hts⟩ (t_X12_landingAt l dC dI _ v (v.toInt) (by omega) rfl) (va_cwS 1 hts gX12_gaugedBy_X12_landingAt rfl rfl rfl (by decide +kernel) ⟨Nat.le_of_ble_eq_true rfl, Nat.le_of_ble_eq_true rfl⟩) ⟨pz_blind, pz_pre pz_P0 (hK.sub (tys' := []) [] rfl) (pz_D0 (A := fun _ => True)) hN⟩ rfl rfl hl.1 rfl (lv_room (Nat.le_of_ble_eq_true rfl)) dX12_gaugedBy_5 ⟨Nat.le_of_ble_eq_true rfl, Nat.le_of_ble_eq_true rfl⟩) (fun r30 hw31 => ?_)
  obtain ⟨hw31r, hw31p⟩ := hw31
  obtain ⟨q32, eq32⟩ := tp_pos (tp_in hG y1 (by decide)) hf_o26
  refine va_iald hx hb hK hP q32 0 eq32 rfl (vp_in_iff.mpr ⟨by omega, by omega⟩) dX12_gaugedBy_8 ?_
  refine lv_topi (fun z33 ez33 => ?_)
  have := hI.k1
  have jz33 : z33.toInt = mo_R g27 (1051 + 16 * v.toInt + 0) := mo_rd ez33 (by omega)
  have kz33 := hI.LS (l := v.toInt) (by omega) (by omega)
  refine pz_calli (va_runS (As := [.int z33]) (rest := []) ⟨hx, hb, hml, hown, hts⟩ (t_X12_shipAt l dC dI _ z33 (z33.toInt) (by omega) rfl) (va_cwS 1 hts gX12_gaugedBy_X12_shipAt rfl rfl rfl (by decide +kernel) ⟨Nat.le_of_ble_eq_true rfl, Nat.le_of_ble_eq_true rfl⟩) ⟨pz_blind, pz_pre pz_P0 (hK.sub (tys' := []) [] rfl) (pz_D0 (A := fun _ => True)) hN⟩ rfl rfl hl.1 rfl (lv_room (Nat.le_of_ble_eq_true rfl)) dX12_gaugedBy_9 ⟨Nat.le_of_ble_eq_true rfl, Nat.le_of_ble_eq_true rfl⟩) (fun r34 hw35 => ?_)
  obtain ⟨hw35r, hw35p⟩ := hw35
  refine lv_istore (lv' := [(4, .int r34), (0, .ref h0), (1, .int v), (2, .int u), (3, .int a)]) hx hb dX12_gaugedBy_12 hl (by decide) rfl (fun ls hl => ?_)
  refine lv_ldc2 (own := RX12) (v := (-2000000000000000)) hx hb hown (hts (.constantLong RX12 466 (-2000000000000000)) (by decide +kernel)) dX12_gaugedBy_14 ?_
  refine lv_lstore (lv' := [(5, .long (-2000000000000000)), (4, .int r34), (0, .ref h0), (1, .int v), (2, .int u), (3, .int a)]) hx hb dX12_gaugedBy_17 hl (by decide) rfl (fun ls hl => ?_)
  refine lv_iconst (v := 0) hx hb dX12_gaugedBy_19 (by decide) ?_
  refine lv_istore (lv' := [(7, .int 0), (5, .long (-2000000000000000)), (4, .int r34), (0, .ref h0), (1, .int v), (2, .int u), (3, .int a)]) hx hb dX12_gaugedBy_20 hl (by decide) rfl (fun ls hl => ?_)
  refine pz_loop (fun n0 H locs ls => ∃ w36 : Int32, ∃ w37 : Int64, n0 = (60 - (w36.toInt)).toNat ∧ (0 ≤ w36.toInt ∧ w36.toInt ≤ 60) ∧ H = s.heap ∧ locs = [] ∧ lv_has ls 9 [(7, .int w36), (5, .long w37), (4, .int r34), (0, .ref h0), (1, .int v), (2, .int u), (3, .int a)]) ?_ _ _ _ _ ⟨0, (-2000000000000000), rfl, (by have : (0 : Int32).toInt = 0 := rfl; have : ((-2000000000000000) : Int64).toInt = (-2000000000000000) := rfl; omega), rfl, rfl, lv_sub hl [0, 1, 2, 3, 4, 5, 6] rfl⟩
  intro n0 H locs ls hI ih38
  obtain ⟨w36, w37, hn39, rw36, rfl, rfl, hl⟩ := hI
  refine lv_iload hx hb dX12_gaugedBy_22 (lv_at hl 0 rfl) ?_
  refine lv_aload_n hx hb dX12_gaugedBy_24 rfl (lv_at hl 3 rfl) ?_
  refine va_get (D := (dC, dI)) (ci := 12) (v := .ref (ρ h0 2)) (C := RX12) (T := TX12) (N := 53) hx hb hts hfX12 hown hK hP q29 eq29 rfl 2 (by decide) (hts (.fieldLink RX12 7 "ColdShipsModel" "row" "[I") (by decide +kernel)) (fun _ h9 => h9) rfl dX12_gaugedBy_25 ?_
  refine lv_bipush (v := 9) hx hb dX12_gaugedBy_28 (by decide) ?_
  refine va_iald hx hb hK hP q32 0 eq32 rfl (vp_in_iff.mpr ⟨by decide, by decide⟩) dX12_gaugedBy_30 ?_
  refine lv_topi (fun z40 ez40 => ?_)
  have jz40 : z40.toInt = mo_R g27 (9) := mo_rd ez40 (show (9 : Int32).toInt = (9) from by decide)
  have kz40 := hI.k9
  refine lv_icmp_ge (tgt := 125) hx hb dX12_gaugedBy_31 (by decide) (fun c41 => ?_) (fun c41 => ?_)
  · have ic41 : w36.toInt ≥ z40.toInt := zi_ge rfl rfl c41
    refine lv_aload_n hx hb dX12_gaugedBy_125 rfl (lv_at hl 3 rfl) ?_
    refine lv_iload hx hb dX12_gaugedBy_126 (lv_at hl 2 rfl) ?_
    refine pz_calli (va_runV (As := [.int r34]) (rest := []) ⟨hx, hb, hml, hown, hts⟩ (t_X12_hasTable l dC dI _ κ τ ν ρ L f hG hT h0 r34 x b z33.toInt ht_h0 (by omega) (by omega) (by rw [hf_o26, mo_i1]; exact hI) (by simp only [hf_o26, mo_i1]; try omega)) (cwV 1 hts gX12_gaugedBy_X12_hasTable rfl rfl rfl (by decide +kernel) ⟨Nat.le_of_ble_eq_true rfl, Nat.le_of_ble_eq_true rfl⟩) ⟨pz_blind, va_recv hK hP (ci := 12) (q0 := q29) rfl eq29, pz_pre hP hK hD hN⟩ rfl rfl hl.1 rfl (lv_room (Nat.le_of_ble_eq_true rfl)) dX12_gaugedBy_128 ⟨Nat.le_of_ble_eq_true rfl, Nat.le_of_ble_eq_true rfl⟩) (fun r42 hw43 => ?_)
    obtain ⟨hw43r, hw43p⟩ := hw43
    refine lv_if_eq (tgt := 139) hx hb dX12_gaugedBy_131 (by decide) (fun c44 => ?_) (fun c44 => ?_)
    · have ic44 : r42.toInt = 0 := zi_eq rfl rfl c44
      refine lv_ldc2 (own := RX12) (v := (-2000000000000000)) hx hb hown (hts (.constantLong RX12 466 (-2000000000000000)) (by decide +kernel)) dX12_gaugedBy_139 ?_
      exact W.lret (v := (-2000000000000000)) hx hb hr (fun t ht hW => ⟨(-2000000000000000), rfl, ⟨trivial, trivial⟩, ht⟩) (fun _ h => by cases h) dX12_gaugedBy_142
    · have ic44 : r42.toInt ≠ 0 := zi_eqf rfl rfl c44
      refine lv_lload hx hb dX12_gaugedBy_134 (lv_at hl 1 rfl) ?_
      refine lv_goto (tgt := 142) hx hb dX12_gaugedBy_136 (by decide) ?_
      exact W.lret (v := w37) hx hb hr (fun t ht hW => ⟨w37, rfl, ⟨trivial, trivial⟩, ht⟩) (fun _ h => by cases h) dX12_gaugedBy_142
  · have ic41 : w36.toInt < z40.toInt := zi_gef rfl rfl c41
    refine lv_sipush (v := 12619) hx hb dX12_gaugedBy_34 (by decide) ?_
    refine lv_iconst (v := 5) hx hb dX12_gaugedBy_37 (by decide) ?_
    refine lv_iload hx hb dX12_gaugedBy_38 (lv_at hl 0 rfl) ?_
    refine lv_imul hx hb dX12_gaugedBy_40 ?_
    refine lv_topi (fun z45 ez45 => ?_)
    have iz45 : z45.toInt = 5 * w36.toInt := zi_mul ez45 rfl rfl (by omega) (by omega)
    refine lv_iadd hx hb dX12_gaugedBy_41 ?_
    refine lv_topi (fun z46 ez46 => ?_)
    have iz46 : z46.toInt = 12619 + z45.toInt := zi_add ez46 rfl rfl (by omega) (by omega)
    refine lv_istore (lv' := [(8, .int z46), (7, .int w36), (5, .long w37), (4, .int r34), (0, .ref h0), (1, .int v), (2, .int u), (3, .int a)]) hx hb dX12_gaugedBy_42 hl (by decide) rfl (fun ls hl => ?_)
    refine lv_aload_n hx hb dX12_gaugedBy_44 rfl (lv_at hl 4 rfl) ?_
    refine va_get (D := (dC, dI)) (ci := 12) (v := .ref (ρ h0 2)) (C := RX12) (T := TX12) (N := 53) hx hb hts hfX12 hown hK hP q29 eq29 rfl 2 (by decide) (hts (.fieldLink RX12 7 "ColdShipsModel" "row" "[I") (by decide +kernel)) (fun _ h9 => h9) rfl dX12_gaugedBy_45 ?_
    refine lv_iload hx hb dX12_gaugedBy_48 (lv_at hl 0 rfl) ?_
    refine va_iald hx hb hK hP q32 0 eq32 rfl (vp_in_iff.mpr ⟨by omega, by omega⟩) dX12_gaugedBy_50 ?_
    refine lv_topi (fun z47 ez47 => ?_)
    refine lv_iload_n hx hb dX12_gaugedBy_51 rfl (lv_at hl 5 rfl) ?_
    refine lv_icmp_ne (tgt := 119) hx hb dX12_gaugedBy_52 (by decide) (fun c48 => ?_) (fun c48 => ?_)
    · have ic48 : z47.toInt ≠ v.toInt := zi_ne rfl rfl c48
      obtain ⟨z49, ez49⟩ : ∃ y : Int32, y = w36 + 1 := ⟨_, rfl⟩
      refine lv_iinc (v := z49) (lv' := [(7, .int z49), (8, .int z46), (5, .long w37), (4, .int r34), (0, .ref h0), (1, .int v), (2, .int u), (3, .int a)]) hx hb dX12_gaugedBy_119 hl (k := 1) rfl (by rw [ez49]; rfl) (by decide) rfl (fun ls hl => ?_)
      have iz49 : z49.toInt = w36.toInt + 1 := zi_add ez49 rfl rfl (by omega) (by omega)
      refine lv_goto (tgt := 22) hx hb dX12_gaugedBy_122 (by decide) ?_
      exact ih38 _ _ _ _ (by rw [hn39]; omega) ⟨z49, w37, rfl, (by omega), rfl, rfl, lv_sub hl [0, 2, 3, 4, 5, 6, 7] rfl⟩
    · have ic48 : z47.toInt = v.toInt := zi_nef rfl rfl c48
      refine lv_aload_n hx hb dX12_gaugedBy_55 rfl (lv_at hl 4 rfl) ?_
      refine va_get (D := (dC, dI)) (ci := 12) (v := .ref (ρ h0 2)) (C := RX12) (T := TX12) (N := 53) hx hb hts hfX12 hown hK hP q29 eq29 rfl 2 (by decide) (hts (.fieldLink RX12 7 "ColdShipsModel" "row" "[I") (by decide +kernel)) (fun _ h9 => h9) rfl dX12_gaugedBy_56 ?_
      refine lv_iload hx hb dX12_gaugedBy_59 (lv_at hl 0 rfl) ?_
      refine lv_iconst (v := 1) hx hb dX12_gaugedBy_61 (by decide) ?_
      refine lv_iadd hx hb dX12_gaugedBy_62 ?_
      refine lv_topi (fun z50 ez50 => ?_)
      have iz50 : z50.toInt = z46.toInt + 1 := zi_add ez50 rfl rfl (by omega) (by omega)
      refine va_iald hx hb hK hP q32 0 eq32 rfl (vp_in_iff.mpr ⟨by omega, by omega⟩) dX12_gaugedBy_63 ?_
      refine lv_topi (fun z51 ez51 => ?_)
      refine lv_iload_n hx hb dX12_gaugedBy_64 rfl (lv_at hl 6 rfl) ?_
      refine lv_icmp_ne (tgt := 119) hx hb dX12_gaugedBy_65 (by decide) (fun c52 => ?_) (fun c52 => ?_)
      · have ic52 : z51.toInt ≠ u.toInt := zi_ne rfl rfl c52
        obtain ⟨z53, ez53⟩ : ∃ y : Int32, y = w36 + 1 := ⟨_, rfl⟩
        refine lv_iinc (v := z53) (lv' := [(7, .int z53), (8, .int z46), (5, .long w37), (4, .int r34), (0, .ref h0), (1, .int v), (2, .int u), (3, .int a)]) hx hb dX12_gaugedBy_119 hl (k := 1) rfl (by rw [ez53]; rfl) (by decide) rfl (fun ls hl => ?_)
        have iz53 : z53.toInt = w36.toInt + 1 := zi_add ez53 rfl rfl (by omega) (by omega)
        refine lv_goto (tgt := 22) hx hb dX12_gaugedBy_122 (by decide) ?_
        exact ih38 _ _ _ _ (by rw [hn39]; omega) ⟨z53, w37, rfl, (by omega), rfl, rfl, lv_sub hl [0, 2, 3, 4, 5, 6, 7] rfl⟩
      · have ic52 : z51.toInt = u.toInt := zi_nef rfl rfl c52
        refine lv_aload_n hx hb dX12_gaugedBy_68 rfl (lv_at hl 4 rfl) ?_
        refine va_get (D := (dC, dI)) (ci := 12) (v := .ref (ρ h0 2)) (C := RX12) (T := TX12) (N := 53) hx hb hts hfX12 hown hK hP q29 eq29 rfl 2 (by decide) (hts (.fieldLink RX12 7 "ColdShipsModel" "row" "[I") (by decide +kernel)) (fun _ h9 => h9) rfl dX12_gaugedBy_69 ?_
        refine lv_iload hx hb dX12_gaugedBy_72 (lv_at hl 0 rfl) ?_
        refine lv_iconst (v := 4) hx hb dX12_gaugedBy_74 (by decide) ?_
        refine lv_iadd hx hb dX12_gaugedBy_75 ?_
        refine lv_topi (fun z54 ez54 => ?_)
        have iz54 : z54.toInt = z46.toInt + 4 := zi_add ez54 rfl rfl (by omega) (by omega)
        refine va_iald hx hb hK hP q32 0 eq32 rfl (vp_in_iff.mpr ⟨by omega, by omega⟩) dX12_gaugedBy_76 ?_
        refine lv_topi (fun z55 ez55 => ?_)
        refine lv_iload_n hx hb dX12_gaugedBy_77 rfl (lv_at hl 7 rfl) ?_
        refine lv_icmp_gt (tgt := 119) hx hb dX12_gaugedBy_78 (by decide) (fun c56 => ?_) (fun c56 => ?_)
        · have ic56 : z55.toInt > a.toInt := zi_gt rfl rfl c56
          obtain ⟨z57, ez57⟩ : ∃ y : Int32, y = w36 + 1 := ⟨_, rfl⟩
          refine lv_iinc (v := z57) (lv' := [(7, .int z57), (8, .int z46), (5, .long w37), (4, .int r34), (0, .ref h0), (1, .int v), (2, .int u), (3, .int a)]) hx hb dX12_gaugedBy_119 hl (k := 1) rfl (by rw [ez57]; rfl) (by decide) rfl (fun ls hl => ?_)
          have iz57 : z57.toInt = w36.toInt + 1 := zi_add ez57 rfl rfl (by omega) (by omega)
          refine lv_goto (tgt := 22) hx hb dX12_gaugedBy_122 (by decide) ?_
          exact ih38 _ _ _ _ (by rw [hn39]; omega) ⟨z57, w37, rfl, (by omega), rfl, rfl, lv_sub hl [0, 2, 3, 4, 5, 6, 7] rfl⟩
        · have ic56 : z55.toInt ≤ a.toInt := zi_gtf rfl rfl c56
          refine lv_aload_n hx hb dX12_gaugedBy_81 rfl (lv_at hl 4 rfl) ?_
          refine lv_iload hx hb dX12_gaugedBy_82 (lv_at hl 3 rfl) ?_
          refine lv_aload_n hx hb dX12_gaugedBy_84 rfl (lv_at hl 4 rfl) ?_
          refine va_get (D := (dC, dI)) (ci := 12) (v := .ref (ρ h0 2)) (C := RX12) (T := TX12) (N := 53) hx hb hts hfX12 hown hK hP q29 eq29 rfl 2 (by decide) (hts (.fieldLink RX12 7 "ColdShipsModel" "row" "[I") (by decide +kernel)) (fun _ h9 => h9) rfl dX12_gaugedBy_85 ?_
          refine lv_iload hx hb dX12_gaugedBy_88 (lv_at hl 0 rfl) ?_
          refine lv_iconst (v := 2) hx hb dX12_gaugedBy_90 (by decide) ?_
          refine lv_iadd hx hb dX12_gaugedBy_91 ?_
          refine lv_topi (fun z58 ez58 => ?_)
          have iz58 : z58.toInt = z46.toInt + 2 := zi_add ez58 rfl rfl (by omega) (by omega)
          refine va_iald hx hb hK hP q32 0 eq32 rfl (vp_in_iff.mpr ⟨by omega, by omega⟩) dX12_gaugedBy_92 ?_
          refine lv_topi (fun z59 ez59 => ?_)
          refine lv_aload_n hx hb dX12_gaugedBy_93 rfl (lv_at hl 4 rfl) ?_
          refine va_get (D := (dC, dI)) (ci := 12) (v := .ref (ρ h0 2)) (C := RX12) (T := TX12) (N := 53) hx hb hts hfX12 hown hK hP q29 eq29 rfl 2 (by decide) (hts (.fieldLink RX12 7 "ColdShipsModel" "row" "[I") (by decide +kernel)) (fun _ h9 => h9) rfl dX12_gaugedBy_94 ?_
          refine lv_iload hx hb dX12_gaugedBy_97 (lv_at hl 0 rfl) ?_
          refine lv_iconst (v := 3) hx hb dX12_gaugedBy_99 (by decide) ?_
          refine lv_iadd hx hb dX12_gaugedBy_100 ?_
          refine lv_topi (fun z60 ez60 => ?_)
          have iz60 : z60.toInt = z46.toInt + 3 := zi_add ez60 rfl rfl (by omega) (by omega)
          refine va_iald hx hb hK hP q32 0 eq32 rfl (vp_in_iff.mpr ⟨by omega, by omega⟩) dX12_gaugedBy_101 ?_
          refine lv_topi (fun z61 ez61 => ?_)
          refine lv_aload_n hx hb dX12_gaugedBy_102 rfl (lv_at hl 4 rfl) ?_
          refine va_get (D := (dC, dI)) (ci := 12) (v := .ref (ρ h0 2)) (C := RX12) (T := TX12) (N := 53) hx hb hts hfX12 hown hK hP q29 eq29 rfl 2 (by decide) (hts (.fieldLink RX12 7 "ColdShipsModel" "row" "[I") (by decide +kernel)) (fun _ h9 => h9) rfl dX12_gaugedBy_103 ?_
          refine lv_iload hx hb dX12_gaugedBy_106 (lv_at hl 3 rfl) ?_
          refine lv_bipush (v := 31) hx hb dX12_gaugedBy_108 (by decide) ?_
          refine lv_iadd hx hb dX12_gaugedBy_110 ?_
          refine lv_topi (fun z62 ez62 => ?_)
          have iz62 : z62.toInt = r34.toInt + 31 := zi_add ez62 rfl rfl (by omega) (by omega)
          refine va_iald hx hb hK hP q32 0 eq32 rfl (vp_in_iff.mpr ⟨by omega, by omega⟩) dX12_gaugedBy_111 ?_
          refine lv_topi (fun z63 ez63 => ?_)
          refine lv_imul hx hb dX12_gaugedBy_112 ?_
          refine lv_topi (fun z64 ez64 => ?_)
          refine lv_isub hx hb dX12_gaugedBy_113 ?_
          refine lv_topi (fun z65 ez65 => ?_)
          refine pz_calll (va_runV (As := [.int r34, .int z65]) (rest := []) ⟨hx, hb, hml, hown, hts⟩ (t_X12_tonsBy l dC dI _ κ τ ν ρ L f hG hT h0 r34 z65 x b z33.toInt ht_h0 (by omega) (by omega) (by rw [hf_o26, mo_i1]; exact hI) (by simp only [hf_o26, mo_i1]; try omega)) (cwV 2 hts gX12_gaugedBy_X12_tonsBy rfl rfl rfl (by decide +kernel) ⟨Nat.le_of_ble_eq_true rfl, Nat.le_of_ble_eq_true rfl⟩) ⟨pz_blind, va_recv hK hP (ci := 12) (q0 := q29) rfl eq29, pz_pre hP hK hD hN⟩ rfl rfl hl.1 rfl (lv_room (Nat.le_of_ble_eq_true rfl)) dX12_gaugedBy_114 ⟨Nat.le_of_ble_eq_true rfl, Nat.le_of_ble_eq_true rfl⟩) (fun r66 hw67 => ?_)
          obtain ⟨hw67r, hw67p⟩ := hw67
          refine lv_lstore (lv' := [(5, .long r66), (8, .int z46), (7, .int w36), (4, .int r34), (0, .ref h0), (1, .int v), (2, .int u), (3, .int a)]) hx hb dX12_gaugedBy_117 hl (by decide) rfl (fun ls hl => ?_)
          obtain ⟨z68, ez68⟩ : ∃ y : Int32, y = w36 + 1 := ⟨_, rfl⟩
          refine lv_iinc (v := z68) (lv' := [(7, .int z68), (5, .long r66), (8, .int z46), (4, .int r34), (0, .ref h0), (1, .int v), (2, .int u), (3, .int a)]) hx hb dX12_gaugedBy_119 hl (k := 2) rfl (by rw [ez68]; rfl) (by decide) rfl (fun ls hl => ?_)
          have iz68 : z68.toInt = w36.toInt + 1 := zi_add ez68 rfl rfl (by omega) (by omega)
          refine lv_goto (tgt := 22) hx hb dX12_gaugedBy_122 (by decide) ?_
          exact ih38 _ _ _ _ (by rw [hn39]; omega) ⟨z68, r66, rfl, (by omega), rfl, rfl, lv_sub hl [0, 1, 3, 4, 5, 6, 7] rfl⟩
set_option maxHeartbeats 4000000 in
set_option maxRecDepth 100000 in
theorem t_X12_gauged (l : Launch) (dC : Nat → ClassId) (dI : Nat → Nat → Nat) (sz : Nat) (κ : Nat → ClassId) (τ ν : Nat → Nat) (ρ : Nat → Nat → Nat) (L : List Nat) (f : Nat → va_E) (hG : tp_G τ ν ρ L) (hT : tp_T (mo_O κ) κ τ ν ρ f) (h0 : Nat) (v : Int32) (u : Int32) (a : Int32) (ht_h0 : τ h0 = 13) (hJ : mo_RI (-1) 0 (mo_R (mo_i (f (ρ h0 2))))) : Met l yX12_gauged wsX12_gauged ({ frames := 4, cells := 0, slots := 0, locals := 1200 }) (va_Pc [.ref h0, .int v, .int u, .int a] (pz_B dC dI (tp_K κ) (va_pl L f) sz)) (va_Ql (fun (r : Int64) (f1 : Nat → va_E) => tp_T (mo_O κ) κ τ ν ρ f1 ∧ tp_F τ [13] f f1 ∧ True ∧ True) (fun (f1 : Nat → va_E) (t : State) => pz_E dC dI (tp_K κ) (va_A (va_pl L f) sz) (va_pl L f1) t) (va_A (va_pl L f) sz)) 0 0 (va_A (va_pl L f) sz) := by
  refine Met.ofW (cc := cX12_gauged) (maxL := 11) (ret := some .long) (by decide) rfl ?_
  intro p e s m args below meth c s₁ B hml hv
  obtain ⟨rfl, hsz, hP, hK, hD0, hN⟩ := hv
  have hx := B.exec
  have hb := B.bytes
  have hr := B.returns
  have hts := atoms_spec (ws := wsX12_gauged) B.pre
  have hown : s.vm.findClass RX12 = some m.cls := findClass_of_methodNamed B.named
  have hlocks := B.notSynchronized
  subst hsz
  have hD := hD0.self (sz := s.heap.size)
  generalize hAe : va_A (va_pl L f) s.heap.size = A at hD ⊢
  have hA : ∀ q : Nat, s.heap.size ≤ q → A q := fun q h => by rw [← hAe]; exact Or.inr h
  have hS : va_S A s.heap s.heap [] := va_S.rf
  have hR : tp_F τ [13] f f := tp_F.rf
  have hl := lv_entry ([.ref h0, .int v, .int u, .int a]) (n := 11) (Nat.le_of_ble_eq_true rfl)
  rw [lg_entry_eq]
  generalize (lg_sl ([.ref h0, .int v, .int u, .int a]) ++ List.replicate (11 - (lg_sl ([.ref h0, .int v, .int u, .int a])).length) Slot.unset).toArray = ls at hl ⊢
  have hl : lv_has ls 11 [(0, .ref h0), (1, .int v), (2, .int u), (3, .int a)] := hl
  have hfX12 : ∀ w ∈ wsX120, w ∈ wsX12_gauged := fun w h => List.mem_cons_of_mem _ (List.mem_append_right _ h)
  obtain ⟨y1, y2, y3, y4, y5, y6, y7, y8, y9, y10, y11, y12, y13, y14, y15, y16, y17, y18, y19, y20, y21, y22, y23, y24, y25⟩ := tpg_13 hG ht_h0
  obtain ⟨g27, hf_o26⟩ := tpo_32 hT y1
  have hI : mo_RI (-1) 0 (mo_R g27) := by have q9 := hJ; rw [hf_o26, mo_i1] at q9; exact q9
  refine lv_aload_n hx hb dX12_gauged_0 rfl (lv_at hl 0 rfl) ?_
  refine lv_iconst (v := 0) hx hb dX12_gauged_1 (by decide) ?_
  obtain ⟨o28_x0, o28_x1, o28_x7, o28_x9, o28_x10, o28_x11, o28_x12, o28_x13, o28_x14, o28_x15, o28_x16, o28_x17, o28_x18, o28_x19, o28_x20, o28_x22, o28_x25, o28_x28, o28_x29, o28_x32, o28_x33, o28_x34, o28_x35, o28_x36, o28_x37, o28_x38, o28_x47, o28_x48, hf_o28, ro28_0, ro28_1, ro28_2, ro28_3, ro28_4, ro28_5, ro28_6, ro28_7, ro28_8, ro28_9, ro28_10, ro28_11, ro28_12, ro28_13⟩ := tpo_13 hT ht_h0
  obtain ⟨q29, eq29⟩ := tp_pos (tp_in hG ht_h0 (by decide)) hf_o28
  refine va_put (D := (dC, dI)) (ci := 12) (v := .int 0) (ty := .int) (C := RX12) (T := TX12) (N := 53) hx hb hts hfX12 tyX12 tyX12_ok nmX12 hown hK hP hD hS q29 eq29 rfl 0 (by decide) (hts (.fieldLink RX12 91 "ColdShipsModel" "thrown" "I") (by decide +kernel)) (fun _ h9 => h9) rfl (by decide +kernel) rfl rfl (Nat.le_of_ble_eq_true rfl) dX12_gauged_2 (tp_k (.inr (12, [.int 0, .int o28_x1, .ref (ρ h0 2), .ref (ρ h0 3), .ref (ρ h0 4), .ref (ρ h0 5), .ref (ρ h0 6), .int o28_x7, .ref (ρ h0 8), .int o28_x9, .int o28_x10, .int o28_x11, .int o28_x12, .long o28_x13, .int o28_x14, .int o28_x15, .int o28_x16, .int o28_x17, .int o28_x18, .int o28_x19, .int o28_x20, .ref (ρ h0 21), .int o28_x22, .ref (ρ h0 23), .ref (ρ h0 24), .int o28_x25, .ref (ρ h0 26), .ref (ρ h0 27), .int o28_x28, .int o28_x29, .ref (ρ h0 30), .ref (ρ h0 31), .int o28_x32, .long o28_x33, .long o28_x34, .long o28_x35, .int o28_x36, .int o28_x37, .int o28_x38, .ref (ρ h0 39), .ref (ρ h0 40), .ref (ρ h0 41), .ref (ρ h0 42), .ref (ρ h0 43), .ref (ρ h0 44), .ref (ρ h0 45), .ref (ρ h0 46), .int o28_x47, .int o28_x48, .ref (ρ h0 49), .ref (ρ h0 50), .ref (ρ h0 51), .ref (ρ h0 52)])) hD (tp_in hG ht_h0 (by decide)) eq29 (fun f30 H locs hP hD hS g32 k31 => ?_))
  have hT := hT.up ht_h0 g32 k31 ⟨_, _, _, _, _, _, _, _, _, _, _, _, _, _, _, _, _, _, _, _, _, _, _, _, _, _, _, _, rfl, ro28_0, ro28_1, ro28_2, ro28_3, ro28_4, ro28_5, ro28_6, ro28_7, ro28_8, ro28_9, ro28_10, ro28_11, ro28_12, ro28_13⟩
  have hR := hR.up ht_h0 (by decide) k31
  refine lv_aload_n hx hb dX12_gauged_5 rfl (lv_at hl 0 rfl) ?_
  refine lv_iload_n hx hb dX12_gauged_6 rfl (lv_at hl 1 rfl) ?_
  have hf_33 : f30 (ρ h0 2) = .inl (κ 0, 12967, .inl g27) := (k31 _ (tp_ne y1 ht_h0 (by decide))).trans hf_o26
  obtain ⟨q34, eq34⟩ := tp_pos (tp_in hG ht_h0 (by decide)) g32
  refine pz_calli (va_runV (As := [.int v]) (rest := []) ⟨hx, hb, hml, hown, hts⟩ (t_X12_isLanding l dC dI _ κ τ ν ρ L f30 hG hT h0 v (-1) 0 ht_h0 (by rw [hf_33, mo_i1]; exact hI)) (cwV 1 hts gX12_gauged_X12_isLanding rfl rfl rfl (by decide +kernel) ⟨Nat.le_of_ble_eq_true rfl, Nat.le_of_ble_eq_true rfl⟩) ⟨pz_blind, va_recv hK hP (ci := 12) (q0 := q34) rfl eq34, pz_pre hP hK hD hN⟩ rfl rfl hl.1 rfl (lv_room (Nat.le_of_ble_eq_true rfl)) dX12_gauged_7 ⟨Nat.le_of_ble_eq_true rfl, Nat.le_of_ble_eq_true rfl⟩) (fun r35 hw36 => ?_)
  obtain ⟨hw36r, hw36p⟩ := hw36
  have := hI.k5
  rw [hf_33, mo_i1] at hw36p
  refine lv_if_eq (tgt := 32) hx hb dX12_gauged_10 (by decide) (fun c37 => ?_) (fun c37 => ?_)
  · have ic37 : r35.toInt = 0 := zi_eq rfl rfl c37
    refine lv_ldc2 (own := RX12) (v := (-2000000000000000)) hx hb hown (hts (.constantLong RX12 466 (-2000000000000000)) (by decide +kernel)) dX12_gauged_32 ?_
    exact W.lret (v := (-2000000000000000)) hx hb hr (fun t ht hW => ⟨⟨(-2000000000000000), f30, rfl, ⟨hT, hR, trivial, trivial⟩, by rw [ht]; exact hP, va_K.moved hW.alike hK, hD⟩, hS.F ht⟩) hS.2.2 dX12_gauged_35
  · have ic37 : r35.toInt ≠ 0 := zi_eqf rfl rfl c37
    have p38 : 0 ≤ v.toInt ∧ v.toInt < mo_R g27 5 := (tp_cond.yes hw36p) (by omega)
    refine lv_iload_n hx hb dX12_gauged_13 rfl (lv_at hl 2 rfl) ?_
    refine pz_calli (va_runS (As := [.int u]) (rest := []) ⟨hx, hb, hml, hown, hts⟩ (t_X12_isHour l dC dI _ u (u.toInt) rfl) (va_cwS 1 hts gX12_gauged_X12_isHour rfl rfl rfl (by decide +kernel) ⟨Nat.le_of_ble_eq_true rfl, Nat.le_of_ble_eq_true rfl⟩) ⟨pz_blind, pz_pre pz_P0 (hK.sub (tys' := []) [] rfl) (pz_D0 (A := fun _ => True)) hN⟩ rfl rfl hl.1 rfl (lv_room (Nat.le_of_ble_eq_true rfl)) dX12_gauged_14 ⟨Nat.le_of_ble_eq_true rfl, Nat.le_of_ble_eq_true rfl⟩) (fun r39 hw40 => ?_)
    obtain ⟨hw40r, hw40p⟩ := hw40
    refine lv_if_eq (tgt := 32) hx hb dX12_gauged_17 (by decide) (fun c41 => ?_) (fun c41 => ?_)
    · have ic41 : r39.toInt = 0 := zi_eq rfl rfl c41
      refine lv_ldc2 (own := RX12) (v := (-2000000000000000)) hx hb hown (hts (.constantLong RX12 466 (-2000000000000000)) (by decide +kernel)) dX12_gauged_32 ?_
      exact W.lret (v := (-2000000000000000)) hx hb hr (fun t ht hW => ⟨⟨(-2000000000000000), f30, rfl, ⟨hT, hR, trivial, trivial⟩, by rw [ht]; exact hP, va_K.moved hW.alike hK, hD⟩, hS.F ht⟩) hS.2.2 dX12_gauged_35
    · have ic41 : r39.toInt ≠ 0 := zi_eqf rfl rfl c41
      have p42 : 0 ≤ (u.toInt) ∧ (u.toInt) ≤ 2399 := (tp_cond.yes hw40p) (by omega)
      refine lv_iload_n hx hb dX12_gauged_20 rfl (lv_at hl 3 rfl) ?_
      refine lv_i2l hx hb dX12_gauged_21 rfl ?_
      refine lv_lconst (v := 0) hx hb dX12_gauged_22 (by decide) ?_
      refine lv_ldc2 (own := RX12) (v := 3) hx hb hown (hts (.constantLong RX12 152 (3)) (by decide +kernel)) dX12_gauged_23 ?_
      refine pz_calli (va_runS (As := [.long a.toInt64, .long 0, .long 3]) (rest := []) ⟨hx, hb, hml, hown, hts⟩ (t_X12_in l dC dI _ a.toInt64 (0) (3) (a.toInt) (0) (3) (Int32.toInt_toInt64 a) rfl rfl) (va_cwS 3 hts gX12_gauged_X12_in rfl rfl rfl (by decide +kernel) ⟨Nat.le_of_ble_eq_true rfl, Nat.le_of_ble_eq_true rfl⟩) ⟨pz_blind, pz_pre pz_P0 (hK.sub (tys' := []) [] rfl) (pz_D0 (A := fun _ => True)) hN⟩ rfl rfl hl.1 rfl (lv_room (Nat.le_of_ble_eq_true rfl)) dX12_gauged_26 ⟨Nat.le_of_ble_eq_true rfl, Nat.le_of_ble_eq_true rfl⟩) (fun r43 hw44 => ?_)
      obtain ⟨hw44r, hw44p⟩ := hw44
      refine lv_if_ne (tgt := 36) hx hb dX12_gauged_29 (by decide) (fun c45 => ?_) (fun c45 => ?_)
      · have ic45 : r43.toInt ≠ 0 := zi_ne rfl rfl c45
        have p46 : (0) ≤ (a.toInt) ∧ (a.toInt) ≤ (3) := (tp_cond.yes hw44p) (by omega)
        refine lv_aload_n hx hb dX12_gauged_36 rfl (lv_at hl 0 rfl) ?_
        refine lv_iload_n hx hb dX12_gauged_37 rfl (lv_at hl 1 rfl) ?_
        refine lv_iconst (v := 0) hx hb dX12_gauged_38 (by decide) ?_
        refine lv_iload_n hx hb dX12_gauged_39 rfl (lv_at hl 2 rfl) ?_
        refine pz_calll (va_runV (As := [.int v, .int 0, .int u]) (rest := []) ⟨hx, hb, hml, hown, hts⟩ (t_X12_gaugedBy l dC dI _ κ τ ν ρ L f30 hG hT h0 v (0) u (-1) 0 ht_h0 (by rw [hf_33, mo_i1]; exact hI) (by simp only [hf_33, hf_o26, mo_i1]; try omega)) (cwV 3 hts gX12_gauged_X12_gaugedBy rfl rfl rfl (by decide +kernel) ⟨Nat.le_of_ble_eq_true rfl, Nat.le_of_ble_eq_true rfl⟩) ⟨pz_blind, va_recv hK hP (ci := 12) (q0 := q34) rfl eq34, pz_pre hP hK hD hN⟩ rfl rfl hl.1 rfl (lv_room (Nat.le_of_ble_eq_true rfl)) dX12_gauged_40 ⟨Nat.le_of_ble_eq_true rfl, Nat.le_of_ble_eq_true rfl⟩) (fun r47 hw48 => ?_)
        obtain ⟨hw48r, hw48p⟩ := hw48
        refine lv_lstore (lv' := [(4, .long r47), (0, .ref h0), (1, .int v), (2, .int u), (3, .int a)]) hx hb dX12_gauged_43 hl (by decide) rfl (fun ls hl => ?_)
        refine lv_aload_n hx hb dX12_gauged_45 rfl (lv_at hl 1 rfl) ?_
        refine lv_iload_n hx hb dX12_gauged_46 rfl (lv_at hl 2 rfl) ?_
        refine lv_iconst (v := 1) hx hb dX12_gauged_47 (by decide) ?_
        refine lv_iload_n hx hb dX12_gauged_48 rfl (lv_at hl 3 rfl) ?_
        refine pz_calll (va_runV (As := [.int v, .int 1, .int u]) (rest := []) ⟨hx, hb, hml, hown, hts⟩ (t_X12_gaugedBy l dC dI _ κ τ ν ρ L f30 hG hT h0 v (1) u (-1) 0 ht_h0 (by rw [hf_33, mo_i1]; exact hI) (by simp only [hf_33, hf_o26, mo_i1]; try omega)) (cwV 3 hts gX12_gauged_X12_gaugedBy rfl rfl rfl (by decide +kernel) ⟨Nat.le_of_ble_eq_true rfl, Nat.le_of_ble_eq_true rfl⟩) ⟨pz_blind, va_recv hK hP (ci := 12) (q0 := q34) rfl eq34, pz_pre hP hK hD hN⟩ rfl rfl hl.1 rfl (lv_room (Nat.le_of_ble_eq_true rfl)) dX12_gauged_49 ⟨Nat.le_of_ble_eq_true rfl, Nat.le_of_ble_eq_true rfl⟩) (fun r49 hw50 => ?_)
        obtain ⟨hw50r, hw50p⟩ := hw50
        refine lv_lstore (lv' := [(6, .long r49), (4, .long r47), (0, .ref h0), (1, .int v), (2, .int u), (3, .int a)]) hx hb dX12_gauged_52 hl (by decide) rfl (fun ls hl => ?_)
        refine lv_iload_n hx hb dX12_gauged_54 rfl (lv_at hl 5 rfl) ?_
        refine lv_iconst (v := 2) hx hb dX12_gauged_55 (by decide) ?_
        refine lv_icmp_ge (tgt := 71) hx hb dX12_gauged_56 (by decide) (fun c51 => ?_) (fun c51 => ?_)
        · have ic51 : a.toInt ≥ 2 := zi_ge rfl rfl c51
          refine lv_lload hx hb dX12_gauged_71 (lv_at hl 1 rfl) ?_
          refine lv_ldc2 (own := RX12) (v := (-2000000000000000)) hx hb hown (hts (.constantLong RX12 466 (-2000000000000000)) (by decide +kernel)) dX12_gauged_73 ?_
          refine W.lcmp hx hb dX12_gauged_76 ?_
          refine lv_if_eq (tgt := 89) hx hb dX12_gauged_77 (by decide) (fun c52 => ?_) (fun c52 => ?_)
          · have ic52 : r47.toInt = (-2000000000000000) := zl_eq rfl rfl c52
            refine lv_ldc2 (own := RX12) (v := (-2000000000000000)) hx hb hown (hts (.constantLong RX12 466 (-2000000000000000)) (by decide +kernel)) dX12_gauged_89 ?_
            exact W.lret (v := (-2000000000000000)) hx hb hr (fun t ht hW => ⟨⟨(-2000000000000000), f30, rfl, ⟨hT, hR, trivial, trivial⟩, by rw [ht]; exact hP, va_K.moved hW.alike hK, hD⟩, hS.F ht⟩) hS.2.2 dX12_gauged_92
          · have ic52 : r47.toInt ≠ (-2000000000000000) := zl_eqf rfl rfl c52
            refine lv_lload hx hb dX12_gauged_80 (lv_at hl 0 rfl) ?_
            refine lv_ldc2 (own := RX12) (v := (-2000000000000000)) hx hb hown (hts (.constantLong RX12 466 (-2000000000000000)) (by decide +kernel)) dX12_gauged_82 ?_
            refine W.lcmp hx hb dX12_gauged_85 ?_
            refine lv_if_ne (tgt := 93) hx hb dX12_gauged_86 (by decide) (fun c53 => ?_) (fun c53 => ?_)
            · have ic53 : r49.toInt ≠ (-2000000000000000) := zl_ne rfl rfl c53
              refine lv_iload_n hx hb dX12_gauged_93 rfl (lv_at hl 3 rfl) ?_
              refine pz_calli (va_runS (As := [.int v]) (rest := []) ⟨hx, hb, hml, hown, hts⟩ (t_X12_landingAt l dC dI _ v (v.toInt) (by omega) rfl) (va_cwS 1 hts gX12_gauged_X12_landingAt rfl rfl rfl (by decide +kernel) ⟨Nat.le_of_ble_eq_true rfl, Nat.le_of_ble_eq_true rfl⟩) ⟨pz_blind, pz_pre pz_P0 (hK.sub (tys' := []) [] rfl) (pz_D0 (A := fun _ => True)) hN⟩ rfl rfl hl.1 rfl (lv_room (Nat.le_of_ble_eq_true rfl)) dX12_gauged_94 ⟨Nat.le_of_ble_eq_true rfl, Nat.le_of_ble_eq_true rfl⟩) (fun r54 hw55 => ?_)
              obtain ⟨hw55r, hw55p⟩ := hw55
              refine lv_istore (lv' := [(8, .int r54), (6, .long r49), (4, .long r47), (0, .ref h0), (1, .int v), (2, .int u), (3, .int a)]) hx hb dX12_gauged_97 hl (by decide) rfl (fun ls hl => ?_)
              refine lv_lload hx hb dX12_gauged_99 (lv_at hl 2 rfl) ?_
              refine lv_lload hx hb dX12_gauged_101 (lv_at hl 1 rfl) ?_
              refine lv_lsub hx hb dX12_gauged_103 ?_
              refine lv_topl (fun z56 ez56 => ?_)
              refine lv_lstore (lv' := [(9, .long z56), (8, .int r54), (6, .long r49), (4, .long r47), (0, .ref h0), (1, .int v), (2, .int u), (3, .int a)]) hx hb dX12_gauged_104 hl (by decide) rfl (fun ls hl => ?_)
              refine lv_iload_n hx hb dX12_gauged_106 rfl (lv_at hl 7 rfl) ?_
              refine lv_iconst (v := 2) hx hb dX12_gauged_107 (by decide) ?_
              refine lv_icmp_ne (tgt := 116) hx hb dX12_gauged_108 (by decide) (fun c57 => ?_) (fun c57 => ?_)
              · have ic57 : a.toInt ≠ 2 := zi_ne rfl rfl c57
                refine lv_aload_n hx hb dX12_gauged_116 rfl (lv_at hl 4 rfl) ?_
                refine lv_iload hx hb dX12_gauged_117 (lv_at hl 1 rfl) ?_
                refine pz_calli (va_runV (As := [.int r54]) (rest := []) ⟨hx, hb, hml, hown, hts⟩ (t_X12_billed l dC dI _ κ τ ν ρ L f30 hG hT h0 r54 (-1) 0 v.toInt ht_h0 (by omega) (by omega) (by rw [hf_33, mo_i1]; exact hI)) (cwV 1 hts gX12_gauged_X12_billed rfl rfl rfl (by decide +kernel) ⟨Nat.le_of_ble_eq_true rfl, Nat.le_of_ble_eq_true rfl⟩) ⟨pz_blind, va_recv hK hP (ci := 12) (q0 := q34) rfl eq34, pz_pre hP hK hD hN⟩ rfl rfl hl.1 rfl (lv_room (Nat.le_of_ble_eq_true rfl)) dX12_gauged_119 ⟨Nat.le_of_ble_eq_true rfl, Nat.le_of_ble_eq_true rfl⟩) (fun r58 hw59 => ?_)
                obtain ⟨hw59r, hw59p⟩ := hw59
                refine lv_i2l hx hb dX12_gauged_122 rfl ?_
                refine lv_lload hx hb dX12_gauged_123 (lv_at hl 0 rfl) ?_
                refine lv_lsub hx hb dX12_gauged_125 ?_
                refine lv_topl (fun z60 ez60 => ?_)
                refine lv_aload_n hx hb dX12_gauged_126 rfl (lv_at hl 4 rfl) ?_
                refine lv_aload_n hx hb dX12_gauged_127 rfl (lv_at hl 4 rfl) ?_
                refine va_get (D := (dC, dI)) (ci := 12) (v := .ref (ρ h0 2)) (C := RX12) (T := TX12) (N := 53) hx hb hts hfX12 hown hK hP q34 eq34 rfl 2 (by decide) (hts (.fieldLink RX12 7 "ColdShipsModel" "row" "[I") (by decide +kernel)) (fun _ h9 => h9) rfl dX12_gauged_128 ?_
                refine lv_iload hx hb dX12_gauged_131 (lv_at hl 1 rfl) ?_
                refine lv_iconst (v := 3) hx hb dX12_gauged_133 (by decide) ?_
                refine lv_iadd hx hb dX12_gauged_134 ?_
                refine lv_topi (fun z61 ez61 => ?_)
                have iz61 : z61.toInt = r54.toInt + 3 := zi_add ez61 rfl rfl (by omega) (by omega)
                obtain ⟨q62, eq62⟩ := tp_pos (tp_in hG y1 (by decide)) hf_33
                refine va_iald hx hb hK hP q62 0 eq62 rfl (vp_in_iff.mpr ⟨by omega, by omega⟩) dX12_gauged_135 ?_
                refine lv_topi (fun z63 ez63 => ?_)
                refine lv_bipush (v := 24) hx hb dX12_gauged_136 (by decide) ?_
                refine lv_idiv hx hb dX12_gauged_138 (by decide) ?_
                refine lv_topi (fun z64 ez64 => ?_)
                refine lv_iload_n hx hb dX12_gauged_139 rfl (lv_at hl 6 rfl) ?_
                refine pz_calli (va_runV (As := [.int z64, .int u]) (rest := [.long z60]) ⟨hx, hb, hml, hown, hts⟩ (t_X12_priceOf l dC dI _ κ τ ν ρ L f30 hG hT h0 z64 u (-1) 0 ht_h0 (by rw [hf_33, mo_i1]; exact hI)) (cwV 2 hts gX12_gauged_X12_priceOf rfl rfl rfl (by decide +kernel) ⟨Nat.le_of_ble_eq_true rfl, Nat.le_of_ble_eq_true rfl⟩) ⟨pz_blind, va_recv hK hP (ci := 12) (q0 := q34) rfl eq34, pz_pre hP hK hD hN⟩ rfl rfl hl.1 rfl (lv_room (Nat.le_of_ble_eq_true rfl)) dX12_gauged_140 ⟨Nat.le_of_ble_eq_true rfl, Nat.le_of_ble_eq_true rfl⟩) (fun r65 hw66 => ?_)
                obtain ⟨hw66r, hw66p⟩ := hw66
                refine lv_i2l hx hb dX12_gauged_143 rfl ?_
                refine lv_lmul hx hb dX12_gauged_144 ?_
                refine lv_topl (fun z67 ez67 => ?_)
                exact W.lret (v := z67) hx hb hr (fun t ht hW => ⟨⟨z67, f30, rfl, ⟨hT, hR, trivial, trivial⟩, by rw [ht]; exact hP, va_K.moved hW.alike hK, hD⟩, hS.F ht⟩) hS.2.2 dX12_gauged_145
              · have ic57 : a.toInt = 2 := zi_nef rfl rfl c57
                refine lv_lload hx hb dX12_gauged_111 (lv_at hl 0 rfl) ?_
                refine lv_goto (tgt := 145) hx hb dX12_gauged_113 (by decide) ?_
                exact W.lret (v := z56) hx hb hr (fun t ht hW => ⟨⟨z56, f30, rfl, ⟨hT, hR, trivial, trivial⟩, by rw [ht]; exact hP, va_K.moved hW.alike hK, hD⟩, hS.F ht⟩) hS.2.2 dX12_gauged_145
            · have ic53 : r49.toInt = (-2000000000000000) := zl_nef rfl rfl c53
              refine lv_ldc2 (own := RX12) (v := (-2000000000000000)) hx hb hown (hts (.constantLong RX12 466 (-2000000000000000)) (by decide +kernel)) dX12_gauged_89 ?_
              exact W.lret (v := (-2000000000000000)) hx hb hr (fun t ht hW => ⟨⟨(-2000000000000000), f30, rfl, ⟨hT, hR, trivial, trivial⟩, by rw [ht]; exact hP, va_K.moved hW.alike hK, hD⟩, hS.F ht⟩) hS.2.2 dX12_gauged_92
        · have ic51 : a.toInt < 2 := zi_gef rfl rfl c51
          refine lv_iload_n hx hb dX12_gauged_59 rfl (lv_at hl 5 rfl) ?_
          refine lv_if_ne (tgt := 68) hx hb dX12_gauged_60 (by decide) (fun c68 => ?_) (fun c68 => ?_)
          · have ic68 : a.toInt ≠ 0 := zi_ne rfl rfl c68
            refine lv_lload hx hb dX12_gauged_68 (lv_at hl 0 rfl) ?_
            exact W.lret (v := r49) hx hb hr (fun t ht hW => ⟨⟨r49, f30, rfl, ⟨hT, hR, trivial, trivial⟩, by rw [ht]; exact hP, va_K.moved hW.alike hK, hD⟩, hS.F ht⟩) hS.2.2 dX12_gauged_70
          · have ic68 : a.toInt = 0 := zi_nef rfl rfl c68
            refine lv_lload hx hb dX12_gauged_63 (lv_at hl 1 rfl) ?_
            refine lv_goto (tgt := 70) hx hb dX12_gauged_65 (by decide) ?_
            exact W.lret (v := r47) hx hb hr (fun t ht hW => ⟨⟨r47, f30, rfl, ⟨hT, hR, trivial, trivial⟩, by rw [ht]; exact hP, va_K.moved hW.alike hK, hD⟩, hS.F ht⟩) hS.2.2 dX12_gauged_70
      · have ic45 : r43.toInt = 0 := zi_nef rfl rfl c45
        refine lv_ldc2 (own := RX12) (v := (-2000000000000000)) hx hb hown (hts (.constantLong RX12 466 (-2000000000000000)) (by decide +kernel)) dX12_gauged_32 ?_
        exact W.lret (v := (-2000000000000000)) hx hb hr (fun t ht hW => ⟨⟨(-2000000000000000), f30, rfl, ⟨hT, hR, trivial, trivial⟩, by rw [ht]; exact hP, va_K.moved hW.alike hK, hD⟩, hS.F ht⟩) hS.2.2 dX12_gauged_35
set_option maxHeartbeats 4000000 in
set_option maxRecDepth 100000 in
theorem t_X12_image (l : Launch) (dC : Nat → ClassId) (dI : Nat → Nat → Nat) (sz : Nat) (κ : Nat → ClassId) (τ ν : Nat → Nat) (ρ : Nat → Nat → Nat) (L : List Nat) (f : Nat → va_E) (hG : tp_G τ ν ρ L) (hT : tp_T (mo_O κ) κ τ ν ρ f) (h0 : Nat) (v : Int32) (ht_h0 : τ h0 = 13) (hJ : mo_RI (-1) 0 (mo_R (mo_i (f (ρ h0 2))))) (hIM : mo_IM (mo_R (mo_i (f (ρ h0 3))))) : Met l yX12_image wsX12_image ({ frames := 3, cells := 0, slots := 0, locals := 800 }) (va_Pc [.ref h0, .int v] (pz_B dC dI (tp_K κ) (va_pl L f) sz)) (va_Qi (fun (r : Int32) (f1 : Nat → va_E) => tp_T (mo_O κ) κ τ ν ρ f1 ∧ tp_F τ [13, 33, 34] f f1 ∧ True ∧ mo_IM (mo_R (mo_i (f1 (ρ h0 3))))) (fun (f1 : Nat → va_E) (t : State) => pz_E dC dI (tp_K κ) (va_A (va_pl L f) sz) (va_pl L f1) t) (va_A (va_pl L f) sz)) 0 0 (va_A (va_pl L f) sz) := by
  refine Met.ofW (cc := cX12_image) (maxL := 3) (ret := some .int) (by decide) rfl ?_
  intro p e s m args below meth c s₁ B hml hv
  obtain ⟨rfl, hsz, hP, hK, hD0, hN⟩ := hv
  have hx := B.exec
  have hb := B.bytes
  have hr := B.returns
  have hts := atoms_spec (ws := wsX12_image) B.pre
  have hown : s.vm.findClass RX12 = some m.cls := findClass_of_methodNamed B.named
  have hlocks := B.notSynchronized
  subst hsz
  have hD := hD0.self (sz := s.heap.size)
  generalize hAe : va_A (va_pl L f) s.heap.size = A at hD ⊢
  have hA : ∀ q : Nat, s.heap.size ≤ q → A q := fun q h => by rw [← hAe]; exact Or.inr h
  have hS : va_S A s.heap s.heap [] := va_S.rf
  have hR : tp_F τ [13, 33, 34] f f := tp_F.rf
  have hl := lv_entry ([.ref h0, .int v]) (n := 3) (Nat.le_of_ble_eq_true rfl)
  rw [lg_entry_eq]
  generalize (lg_sl ([.ref h0, .int v]) ++ List.replicate (3 - (lg_sl ([.ref h0, .int v])).length) Slot.unset).toArray = ls at hl ⊢
  have hl : lv_has ls 3 [(0, .ref h0), (1, .int v)] := hl
  have hfX12 : ∀ w ∈ wsX120, w ∈ wsX12_image := fun w h => List.mem_cons_of_mem _ (List.mem_append_right _ h)
  obtain ⟨y1, y2, y3, y4, y5, y6, y7, y8, y9, y10, y11, y12, y13, y14, y15, y16, y17, y18, y19, y20, y21, y22, y23, y24, y25⟩ := tpg_13 hG ht_h0
  obtain ⟨g27, hf_o26⟩ := tpo_32 hT y1
  have hI : mo_RI (-1) 0 (mo_R g27) := by have q9 := hJ; rw [hf_o26, mo_i1] at q9; exact q9
  obtain ⟨g29, hf_o28⟩ := tpo_33 hT y2
  have hIM : mo_IM (mo_R g29) := by have q9 := hIM; simp only [hf_o28, mo_i1, mo_l1] at q9; exact q9
  refine lv_aload_n hx hb dX12_image_0 rfl (lv_at hl 0 rfl) ?_
  refine lv_iconst (v := 0) hx hb dX12_image_1 (by decide) ?_
  obtain ⟨o30_x0, o30_x1, o30_x7, o30_x9, o30_x10, o30_x11, o30_x12, o30_x13, o30_x14, o30_x15, o30_x16, o30_x17, o30_x18, o30_x19, o30_x20, o30_x22, o30_x25, o30_x28, o30_x29, o30_x32, o30_x33, o30_x34, o30_x35, o30_x36, o30_x37, o30_x38, o30_x47, o30_x48, hf_o30, ro30_0, ro30_1, ro30_2, ro30_3, ro30_4, ro30_5, ro30_6, ro30_7, ro30_8, ro30_9, ro30_10, ro30_11, ro30_12, ro30_13⟩ := tpo_13 hT ht_h0
  obtain ⟨q31, eq31⟩ := tp_pos (tp_in hG ht_h0 (by decide)) hf_o30
  refine va_put (D := (dC, dI)) (ci := 12) (v := .int 0) (ty := .int) (C := RX12) (T := TX12) (N := 53) hx hb hts hfX12 tyX12 tyX12_ok nmX12 hown hK hP hD hS q31 eq31 rfl 0 (by decide) (hts (.fieldLink RX12 91 "ColdShipsModel" "thrown" "I") (by decide +kernel)) (fun _ h9 => h9) rfl (by decide +kernel) rfl rfl (Nat.le_of_ble_eq_true rfl) dX12_image_2 (tp_k (.inr (12, [.int 0, .int o30_x1, .ref (ρ h0 2), .ref (ρ h0 3), .ref (ρ h0 4), .ref (ρ h0 5), .ref (ρ h0 6), .int o30_x7, .ref (ρ h0 8), .int o30_x9, .int o30_x10, .int o30_x11, .int o30_x12, .long o30_x13, .int o30_x14, .int o30_x15, .int o30_x16, .int o30_x17, .int o30_x18, .int o30_x19, .int o30_x20, .ref (ρ h0 21), .int o30_x22, .ref (ρ h0 23), .ref (ρ h0 24), .int o30_x25, .ref (ρ h0 26), .ref (ρ h0 27), .int o30_x28, .int o30_x29, .ref (ρ h0 30), .ref (ρ h0 31), .int o30_x32, .long o30_x33, .long o30_x34, .long o30_x35, .int o30_x36, .int o30_x37, .int o30_x38, .ref (ρ h0 39), .ref (ρ h0 40), .ref (ρ h0 41), .ref (ρ h0 42), .ref (ρ h0 43), .ref (ρ h0 44), .ref (ρ h0 45), .ref (ρ h0 46), .int o30_x47, .int o30_x48, .ref (ρ h0 49), .ref (ρ h0 50), .ref (ρ h0 51), .ref (ρ h0 52)])) hD (tp_in hG ht_h0 (by decide)) eq31 (fun f32 H locs hP hD hS g34 k33 => ?_))
  have hT := hT.up ht_h0 g34 k33 ⟨_, _, _, _, _, _, _, _, _, _, _, _, _, _, _, _, _, _, _, _, _, _, _, _, _, _, _, _, rfl, ro30_0, ro30_1, ro30_2, ro30_3, ro30_4, ro30_5, ro30_6, ro30_7, ro30_8, ro30_9, ro30_10, ro30_11, ro30_12, ro30_13⟩
  have hR := hR.up ht_h0 (by decide) k33
  refine lv_iload_n hx hb dX12_image_5 rfl (lv_at hl 1 rfl) ?_
  refine lv_i2l hx hb dX12_image_6 rfl ?_
  refine lv_lconst (v := 0) hx hb dX12_image_7 (by decide) ?_
  refine lv_lconst (v := 1) hx hb dX12_image_8 (by decide) ?_
  have hf_35 : f32 (ρ h0 2) = .inl (κ 0, 12967, .inl g27) := (k33 _ (tp_ne y1 ht_h0 (by decide))).trans hf_o26
  refine pz_calli (va_runS (As := [.long v.toInt64, .long 0, .long 1]) (rest := []) ⟨hx, hb, hml, hown, hts⟩ (t_X12_in l dC dI _ v.toInt64 (0) (1) (v.toInt) (0) (1) (Int32.toInt_toInt64 v) rfl rfl) (va_cwS 3 hts gX12_image_X12_in rfl rfl rfl (by decide +kernel) ⟨Nat.le_of_ble_eq_true rfl, Nat.le_of_ble_eq_true rfl⟩) ⟨pz_blind, pz_pre pz_P0 (hK.sub (tys' := []) [] rfl) (pz_D0 (A := fun _ => True)) hN⟩ rfl rfl hl.1 rfl (lv_room (Nat.le_of_ble_eq_true rfl)) dX12_image_9 ⟨Nat.le_of_ble_eq_true rfl, Nat.le_of_ble_eq_true rfl⟩) (fun r36 hw37 => ?_)
  obtain ⟨hw37r, hw37p⟩ := hw37
  refine lv_if_ne (tgt := 21) hx hb dX12_image_12 (by decide) (fun c38 => ?_) (fun c38 => ?_)
  · have ic38 : r36.toInt ≠ 0 := zi_ne rfl rfl c38
    have p39 : (0) ≤ (v.toInt) ∧ (v.toInt) ≤ (1) := (tp_cond.yes hw37p) (by omega)
    refine lv_iconst (v := 0) hx hb dX12_image_21 (by decide) ?_
    refine lv_istore_n (lv' := [(2, .int 0), (0, .ref h0), (1, .int v)]) hx hb dX12_image_22 rfl hl (by decide) rfl (fun ls hl => ?_)
    have hf_42 : f32 (ρ h0 3) = .inl (κ 0, 25934, .inl g29) := (k33 _ (tp_ne y2 ht_h0 (by decide))).trans hf_o28
    refine pz_loop (fun n0 H locs ls => ∃ f43 : Nat → va_E, ∃ w40 : Int32, n0 = (12967 - (w40.toInt)).toNat ∧ tp_T (mo_O κ) κ τ ν ρ f43 ∧ tp_F τ [13, 33, 34] f f43 ∧ f43 (ρ h0 2) = .inl (κ 0, 12967, .inl g27) ∧ ((mo_CP (mo_R g29) (mo_R g27) (mo_R (mo_i (f43 (ρ h0 3)))) (12967 * v.toInt) (w40.toInt))) ∧ (0 ≤ w40.toInt ∧ w40.toInt ≤ 12967) ∧ va_P (dC, dI) vwCl (va_pl L f43) H ∧ va_D A (va_pl L f43) ∧ va_S A s.heap H locs ∧ lv_has ls 3 [(2, .int w40), (0, .ref h0), (1, .int v)]) ?_ _ _ _ _ ⟨f32, 0, rfl, hT, hR, hf_35, (by simp only [hf_42, mo_i1, mo_l1]; exact (show mo_CP (mo_R g29) (mo_R g27) (mo_R g29) (12967 * v.toInt) (0 : Int32).toInt from mo_CP.rf (by decide))), (by have : (0 : Int32).toInt = 0 := rfl; omega), hP, hD, hS, lv_sub hl [0, 1, 2] rfl⟩
    intro n0 H locs ls hI ih45
    obtain ⟨f43, w40, hn46, hT, hR, hk41k, jf47, rw40, hP, hD, hS, hl⟩ := hI
    obtain ⟨g49, hf_o48⟩ := tpo_33 hT y2
    have jf47 : mo_CP (mo_R g29) (mo_R g27) (mo_R g49) (12967 * v.toInt) (w40.toInt) := by have q9 := jf47; simp only [hf_o48, mo_i1, mo_l1] at q9; exact q9
    refine lv_iload_n hx hb dX12_image_23 rfl (lv_at hl 0 rfl) ?_
    refine lv_sipush (v := 12967) hx hb dX12_image_24 (by decide) ?_
    refine lv_icmp_ge (tgt := 54) hx hb dX12_image_27 (by decide) (fun c50 => ?_) (fun c50 => ?_)
    · have ic50 : w40.toInt ≥ 12967 := zi_ge rfl rfl c50
      refine lv_aload_n hx hb dX12_image_54 rfl (lv_at hl 1 rfl) ?_
      obtain ⟨o51_x0, o51_x1, o51_x7, o51_x9, o51_x10, o51_x11, o51_x12, o51_x13, o51_x14, o51_x15, o51_x16, o51_x17, o51_x18, o51_x19, o51_x20, o51_x22, o51_x25, o51_x28, o51_x29, o51_x32, o51_x33, o51_x34, o51_x35, o51_x36, o51_x37, o51_x38, o51_x47, o51_x48, hf_o51, ro51_0, ro51_1, ro51_2, ro51_3, ro51_4, ro51_5, ro51_6, ro51_7, ro51_8, ro51_9, ro51_10, ro51_11, ro51_12, ro51_13⟩ := tpo_13 hT ht_h0
      obtain ⟨q52, eq52⟩ := tp_pos (tp_in hG ht_h0 (by decide)) hf_o51
      refine va_get (D := (dC, dI)) (ci := 12) (v := .ref (ρ h0 4)) (C := RX12) (T := TX12) (N := 53) hx hb hts hfX12 hown hK hP q52 eq52 rfl 4 (by decide) (hts (.fieldLink RX12 16 "ColdShipsModel" "isKept" "[Z") (by decide +kernel)) (fun _ h9 => h9) rfl dX12_image_55 ?_
      refine lv_iload_n hx hb dX12_image_58 rfl (lv_at hl 2 rfl) ?_
      refine lv_iconst (v := 1) hx hb dX12_image_59 (by decide) ?_
      obtain ⟨g54, hf_o53⟩ := tpo_34 hT y3
      obtain ⟨q55, eq55⟩ := tp_pos (tp_in hG y3 (by decide)) hf_o53
      refine va_zast hx hb hK hP hD hS q55 3 eq55 rfl (vp_in_iff.mpr ⟨by omega, by omega⟩) dX12_image_60 (tp_k (.inl (κ 3, 2, .inl (upd g54 v.toNatClampNeg (vp_nar .boolean (1 : Int32))))) hD (tp_in hG y3 (by decide)) eq55 (fun f56 H locs hP hD hS g58 k57 => ?_))
      have hT := hT.up y3 g58 k57 tp_o34
      have hR := hR.up y3 (by decide) k57
      generalize (upd g54 v.toNatClampNeg (vp_nar .boolean (1 : Int32))) = g59 at g58
      refine lv_aload_n hx hb dX12_image_61 rfl (lv_at hl 1 rfl) ?_
      refine lv_iconst (v := 0) hx hb dX12_image_62 (by decide) ?_
      have hf_60 : f56 (ρ h0 2) = .inl (κ 0, 12967, .inl g27) := (k57 _ (tp_ne y1 y3 (by decide))).trans hk41k
      have hf_61 : f56 h0 = .inr (12, [.int o51_x0, .int o51_x1, .ref (ρ h0 2), .ref (ρ h0 3), .ref (ρ h0 4), .ref (ρ h0 5), .ref (ρ h0 6), .int o51_x7, .ref (ρ h0 8), .int o51_x9, .int o51_x10, .int o51_x11, .int o51_x12, .long o51_x13, .int o51_x14, .int o51_x15, .int o51_x16, .int o51_x17, .int o51_x18, .int o51_x19, .int o51_x20, .ref (ρ h0 21), .int o51_x22, .ref (ρ h0 23), .ref (ρ h0 24), .int o51_x25, .ref (ρ h0 26), .ref (ρ h0 27), .int o51_x28, .int o51_x29, .ref (ρ h0 30), .ref (ρ h0 31), .int o51_x32, .long o51_x33, .long o51_x34, .long o51_x35, .int o51_x36, .int o51_x37, .int o51_x38, .ref (ρ h0 39), .ref (ρ h0 40), .ref (ρ h0 41), .ref (ρ h0 42), .ref (ρ h0 43), .ref (ρ h0 44), .ref (ρ h0 45), .ref (ρ h0 46), .int o51_x47, .int o51_x48, .ref (ρ h0 49), .ref (ρ h0 50), .ref (ρ h0 51), .ref (ρ h0 52)]) := (k57 _ (tp_ne ht_h0 y3 (by decide))).trans hf_o51
      obtain ⟨q62, eq62⟩ := tp_pos (tp_in hG ht_h0 (by decide)) hf_61
      have hFc := tp_fr hD hS hA
      refine va_calli (va_runV (As := [.int 0]) (rest := []) ⟨hx, hb, hml, hown, hts⟩ (t_X12_told l dC dI _ κ τ ν ρ L f56 hG hT h0 (0) ht_h0) (cwV 1 hts gX12_image_X12_told rfl rfl rfl (by decide +kernel) ⟨Nat.le_of_ble_eq_true rfl, Nat.le_of_ble_eq_true rfl⟩) ⟨pz_blind, va_recv hK hP (ci := 12) (q0 := q62) rfl eq62, pz_pre hP hK hD hN⟩ rfl rfl hl.1 rfl (lv_room (Nat.le_of_ble_eq_true rfl)) dX12_image_63 ⟨Nat.le_of_ble_eq_true rfl, Nat.le_of_ble_eq_true rfl⟩) hS (fun q _ h => hFc q h) hFc (fun r63 f65 t H1 locs ht hvm hw64 hB hz1 hk1 hS => ?_)
      obtain ⟨hT, hF66, hw64r, hw64p⟩ := hw64
      have hR := hR.then hF66 (by decide)
      have hP := hB.1; rw [ht] at hP; have hD := tp_ad f65 hD; clear hB hFc hz1 hk1; subst ht; generalize t.heap = H at hP hS ⊢
      have hw64pq : r63.toInt = 0 := by rw [hw64p]; rfl
      have hf_67 : f56 (ρ h0 3) = .inl (κ 0, 25934, .inl g49) := (k57 _ (tp_ne y2 y3 (by decide))).trans hf_o48
      have hf_68 : f65 (ρ h0 3) = .inl (κ 0, 25934, .inl g49) := (hF66 _ (by rw [y2]; decide)).trans hf_67
      exact W.iret (v := r63) hx hb hr (fun t ht hW => ⟨⟨r63, f65, rfl, ⟨hT, hR, trivial, (by simp only [hf_68, mo_i1, mo_l1]; exact (show mo_IM (mo_R g49) from hIM.put hI jf47 (by omega)))⟩, by rw [ht]; exact hP, va_K.moved hW.alike hK, hD⟩, hS.F ht⟩) hS.2.2 dX12_image_66
    · have ic50 : w40.toInt < 12967 := zi_gef rfl rfl c50
      refine lv_aload_n hx hb dX12_image_30 rfl (lv_at hl 1 rfl) ?_
      obtain ⟨o69_x0, o69_x1, o69_x7, o69_x9, o69_x10, o69_x11, o69_x12, o69_x13, o69_x14, o69_x15, o69_x16, o69_x17, o69_x18, o69_x19, o69_x20, o69_x22, o69_x25, o69_x28, o69_x29, o69_x32, o69_x33, o69_x34, o69_x35, o69_x36, o69_x37, o69_x38, o69_x47, o69_x48, hf_o69, ro69_0, ro69_1, ro69_2, ro69_3, ro69_4, ro69_5, ro69_6, ro69_7, ro69_8, ro69_9, ro69_10, ro69_11, ro69_12, ro69_13⟩ := tpo_13 hT ht_h0
      obtain ⟨q70, eq70⟩ := tp_pos (tp_in hG ht_h0 (by decide)) hf_o69
      refine va_get (D := (dC, dI)) (ci := 12) (v := .ref (ρ h0 3)) (C := RX12) (T := TX12) (N := 53) hx hb hts hfX12 hown hK hP q70 eq70 rfl 3 (by decide) (hts (.fieldLink RX12 13 "ColdShipsModel" "images" "[I") (by decide +kernel)) (fun _ h9 => h9) rfl dX12_image_31 ?_
      refine lv_sipush (v := 12967) hx hb dX12_image_34 (by decide) ?_
      refine lv_iload_n hx hb dX12_image_37 rfl (lv_at hl 2 rfl) ?_
      refine lv_imul hx hb dX12_image_38 ?_
      refine lv_topi (fun z71 ez71 => ?_)
      have iz71 : z71.toInt = 12967 * v.toInt := zi_mul ez71 rfl rfl (by omega) (by omega)
      refine lv_iload_n hx hb dX12_image_39 rfl (lv_at hl 0 rfl) ?_
      refine lv_iadd hx hb dX12_image_40 ?_
      refine lv_topi (fun z72 ez72 => ?_)
      have iz72 : z72.toInt = z71.toInt + w40.toInt := zi_add ez72 rfl rfl (by omega) (by omega)
      refine lv_aload_n hx hb dX12_image_41 rfl (lv_at hl 1 rfl) ?_
      refine va_get (D := (dC, dI)) (ci := 12) (v := .ref (ρ h0 2)) (C := RX12) (T := TX12) (N := 53) hx hb hts hfX12 hown hK hP q70 eq70 rfl 2 (by decide) (hts (.fieldLink RX12 7 "ColdShipsModel" "row" "[I") (by decide +kernel)) (fun _ h9 => h9) rfl dX12_image_42 ?_
      refine lv_iload_n hx hb dX12_image_45 rfl (lv_at hl 0 rfl) ?_
      obtain ⟨q73, eq73⟩ := tp_pos (tp_in hG y1 (by decide)) hk41k
      refine va_iald hx hb hK hP q73 0 eq73 rfl (vp_in_iff.mpr ⟨by omega, by omega⟩) dX12_image_46 ?_
      refine lv_topi (fun z74 ez74 => ?_)
      have jz74 : z74.toInt = mo_R g27 (0 + w40.toInt) := mo_rd ez74 (by omega)
      obtain ⟨q75, eq75⟩ := tp_pos (tp_in hG y2 (by decide)) hf_o48
      refine va_iast hx hb hK hP hD hS q75 0 eq75 rfl (vp_in_iff.mpr ⟨by omega, by omega⟩) dX12_image_47 (tp_k (.inl (κ 0, 25934, .inl (upd g49 z72.toNatClampNeg z74))) hD (tp_in hG y2 (by decide)) eq75 (fun f76 H locs hP hD hS g78 k77 => ?_))
      have hT := hT.up y2 g78 k77 tp_o33
      have hR := hR.up y2 (by decide) k77
      have hU80 : mo_U (mo_R g49) (mo_R (upd g49 z72.toNatClampNeg z74)) (12967 * v.toInt + w40.toInt) (z74.toInt) := mo_up (by omega) (rfl : z74.toInt = _) (by omega)
      generalize (upd g49 z72.toNatClampNeg z74) = g79 at g78 hU80
      obtain ⟨z81, ez81⟩ : ∃ y : Int32, y = w40 + 1 := ⟨_, rfl⟩
      refine lv_iinc (v := z81) (lv' := [(2, .int z81), (0, .ref h0), (1, .int v)]) hx hb dX12_image_48 hl (k := 0) rfl (by rw [ez81]; rfl) (by decide) rfl (fun ls hl => ?_)
      have iz81 : z81.toInt = w40.toInt + 1 := zi_add ez81 rfl rfl (by omega) (by omega)
      refine lv_goto (tgt := 23) hx hb dX12_image_51 (by decide) ?_
      have hf_82 : f76 (ρ h0 2) = .inl (κ 0, 12967, .inl g27) := (k77 _ (tp_ne y1 y2 (by decide))).trans hk41k
      exact ih45 _ _ _ _ (by rw [hn46]; omega) ⟨f76, z81, rfl, hT, hR, hf_82, (by simp only [g78, mo_i1, mo_l1]; exact (show mo_CP (mo_R g29) (mo_R g27) (mo_R g79) (12967 * v.toInt) (z81.toInt) from mo_CP.up jf47 hU80 (by omega) (by rw [show (w40.toInt : Int) = 0 + w40.toInt by omega]; omega) (by omega) _ (by omega))), (by omega), hP, hD, hS, lv_sub hl [0, 1, 2] rfl⟩
  · have ic38 : r36.toInt = 0 := zi_nef rfl rfl c38
    refine lv_aload_n hx hb dX12_image_15 rfl (lv_at hl 0 rfl) ?_
    refine lv_iconst (v := (-1)) hx hb dX12_image_16 (by decide) ?_
    obtain ⟨q83, eq83⟩ := tp_pos (tp_in hG ht_h0 (by decide)) g34
    have hFc := tp_fr hD hS hA
    refine va_calli (va_runV (As := [.int (-1)]) (rest := []) ⟨hx, hb, hml, hown, hts⟩ (t_X12_told l dC dI _ κ τ ν ρ L f32 hG hT h0 ((-1)) ht_h0) (cwV 1 hts gX12_image_X12_told rfl rfl rfl (by decide +kernel) ⟨Nat.le_of_ble_eq_true rfl, Nat.le_of_ble_eq_true rfl⟩) ⟨pz_blind, va_recv hK hP (ci := 12) (q0 := q83) rfl eq83, pz_pre hP hK hD hN⟩ rfl rfl hl.1 rfl (lv_room (Nat.le_of_ble_eq_true rfl)) dX12_image_17 ⟨Nat.le_of_ble_eq_true rfl, Nat.le_of_ble_eq_true rfl⟩) hS (fun q _ h => hFc q h) hFc (fun r84 f86 t H1 locs ht hvm hw85 hB hz1 hk1 hS => ?_)
    obtain ⟨hT, hF87, hw85r, hw85p⟩ := hw85
    have hR := hR.then hF87 (by decide)
    have hP := hB.1; rw [ht] at hP; have hD := tp_ad f86 hD; clear hB hFc hz1 hk1; subst ht; generalize t.heap = H at hP hS ⊢
    have hw85pq : r84.toInt = (-1) := by rw [hw85p]; rfl
    have hf_88 : f32 (ρ h0 3) = .inl (κ 0, 25934, .inl g29) := (k33 _ (tp_ne y2 ht_h0 (by decide))).trans hf_o28
    have hf_89 : f86 (ρ h0 3) = .inl (κ 0, 25934, .inl g29) := (hF87 _ (by rw [y2]; decide)).trans hf_88
    exact W.iret (v := r84) hx hb hr (fun t ht hW => ⟨⟨r84, f86, rfl, ⟨hT, hR, trivial, (by simp only [hf_89, mo_i1, mo_l1]; exact (show mo_IM (mo_R g29) from hIM))⟩, by rw [ht]; exact hP, va_K.moved hW.alike hK, hD⟩, hS.F ht⟩) hS.2.2 dX12_image_20
set_option maxHeartbeats 4000000 in
set_option maxRecDepth 100000 in
theorem t_X12_back (l : Launch) (dC : Nat → ClassId) (dI : Nat → Nat → Nat) (sz : Nat) (κ : Nat → ClassId) (τ ν : Nat → Nat) (ρ : Nat → Nat → Nat) (L : List Nat) (f : Nat → va_E) (hG : tp_G τ ν ρ L) (hT : tp_T (mo_O κ) κ τ ν ρ f) (h0 : Nat) (v : Int32) (ht_h0 : τ h0 = 13) (hJ : mo_RI (-1) 0 (mo_R (mo_i (f (ρ h0 2))))) (hIM : mo_IM (mo_R (mo_i (f (ρ h0 3))))) : Met l yX12_back wsX12_back ({ frames := 3, cells := 0, slots := 0, locals := 800 }) (va_Pc [.ref h0, .int v] (pz_B dC dI (tp_K κ) (va_pl L f) sz)) (va_Qi (fun (r : Int32) (f1 : Nat → va_E) => tp_T (mo_O κ) κ τ ν ρ f1 ∧ tp_F τ [13, 32] f f1 ∧ True ∧ mo_RI (-1) 0 (mo_R (mo_i (f1 (ρ h0 2))))) (fun (f1 : Nat → va_E) (t : State) => pz_E dC dI (tp_K κ) (va_A (va_pl L f) sz) (va_pl L f1) t) (va_A (va_pl L f) sz)) 0 0 (va_A (va_pl L f) sz) := by
  refine Met.ofW (cc := cX12_back) (maxL := 3) (ret := some .int) (by decide) rfl ?_
  intro p e s m args below meth c s₁ B hml hv
  obtain ⟨rfl, hsz, hP, hK, hD0, hN⟩ := hv
  have hx := B.exec
  have hb := B.bytes
  have hr := B.returns
  have hts := atoms_spec (ws := wsX12_back) B.pre
  have hown : s.vm.findClass RX12 = some m.cls := findClass_of_methodNamed B.named
  have hlocks := B.notSynchronized
  subst hsz
  have hD := hD0.self (sz := s.heap.size)
  generalize hAe : va_A (va_pl L f) s.heap.size = A at hD ⊢
  have hA : ∀ q : Nat, s.heap.size ≤ q → A q := fun q h => by rw [← hAe]; exact Or.inr h
  have hS : va_S A s.heap s.heap [] := va_S.rf
  have hR : tp_F τ [13, 32] f f := tp_F.rf
  have hl := lv_entry ([.ref h0, .int v]) (n := 3) (Nat.le_of_ble_eq_true rfl)
  rw [lg_entry_eq]
  generalize (lg_sl ([.ref h0, .int v]) ++ List.replicate (3 - (lg_sl ([.ref h0, .int v])).length) Slot.unset).toArray = ls at hl ⊢
  have hl : lv_has ls 3 [(0, .ref h0), (1, .int v)] := hl
  have hfX12 : ∀ w ∈ wsX120, w ∈ wsX12_back := fun w h => List.mem_cons_of_mem _ (List.mem_append_right _ h)
  obtain ⟨y1, y2, y3, y4, y5, y6, y7, y8, y9, y10, y11, y12, y13, y14, y15, y16, y17, y18, y19, y20, y21, y22, y23, y24, y25⟩ := tpg_13 hG ht_h0
  obtain ⟨g27, hf_o26⟩ := tpo_32 hT y1
  have hI : mo_RI (-1) 0 (mo_R g27) := by have q9 := hJ; rw [hf_o26, mo_i1] at q9; exact q9
  obtain ⟨g29, hf_o28⟩ := tpo_33 hT y2
  have hIM : mo_IM (mo_R g29) := by have q9 := hIM; simp only [hf_o28, mo_i1, mo_l1] at q9; exact q9
  refine lv_aload_n hx hb dX12_back_0 rfl (lv_at hl 0 rfl) ?_
  refine lv_iconst (v := 0) hx hb dX12_back_1 (by decide) ?_
  obtain ⟨o30_x0, o30_x1, o30_x7, o30_x9, o30_x10, o30_x11, o30_x12, o30_x13, o30_x14, o30_x15, o30_x16, o30_x17, o30_x18, o30_x19, o30_x20, o30_x22, o30_x25, o30_x28, o30_x29, o30_x32, o30_x33, o30_x34, o30_x35, o30_x36, o30_x37, o30_x38, o30_x47, o30_x48, hf_o30, ro30_0, ro30_1, ro30_2, ro30_3, ro30_4, ro30_5, ro30_6, ro30_7, ro30_8, ro30_9, ro30_10, ro30_11, ro30_12, ro30_13⟩ := tpo_13 hT ht_h0
  obtain ⟨q31, eq31⟩ := tp_pos (tp_in hG ht_h0 (by decide)) hf_o30
  refine va_put (D := (dC, dI)) (ci := 12) (v := .int 0) (ty := .int) (C := RX12) (T := TX12) (N := 53) hx hb hts hfX12 tyX12 tyX12_ok nmX12 hown hK hP hD hS q31 eq31 rfl 0 (by decide) (hts (.fieldLink RX12 91 "ColdShipsModel" "thrown" "I") (by decide +kernel)) (fun _ h9 => h9) rfl (by decide +kernel) rfl rfl (Nat.le_of_ble_eq_true rfl) dX12_back_2 (tp_k (.inr (12, [.int 0, .int o30_x1, .ref (ρ h0 2), .ref (ρ h0 3), .ref (ρ h0 4), .ref (ρ h0 5), .ref (ρ h0 6), .int o30_x7, .ref (ρ h0 8), .int o30_x9, .int o30_x10, .int o30_x11, .int o30_x12, .long o30_x13, .int o30_x14, .int o30_x15, .int o30_x16, .int o30_x17, .int o30_x18, .int o30_x19, .int o30_x20, .ref (ρ h0 21), .int o30_x22, .ref (ρ h0 23), .ref (ρ h0 24), .int o30_x25, .ref (ρ h0 26), .ref (ρ h0 27), .int o30_x28, .int o30_x29, .ref (ρ h0 30), .ref (ρ h0 31), .int o30_x32, .long o30_x33, .long o30_x34, .long o30_x35, .int o30_x36, .int o30_x37, .int o30_x38, .ref (ρ h0 39), .ref (ρ h0 40), .ref (ρ h0 41), .ref (ρ h0 42), .ref (ρ h0 43), .ref (ρ h0 44), .ref (ρ h0 45), .ref (ρ h0 46), .int o30_x47, .int o30_x48, .ref (ρ h0 49), .ref (ρ h0 50), .ref (ρ h0 51), .ref (ρ h0 52)])) hD (tp_in hG ht_h0 (by decide)) eq31 (fun f32 H locs hP hD hS g34 k33 => ?_))
  have hT := hT.up ht_h0 g34 k33 ⟨_, _, _, _, _, _, _, _, _, _, _, _, _, _, _, _, _, _, _, _, _, _, _, _, _, _, _, _, rfl, ro30_0, ro30_1, ro30_2, ro30_3, ro30_4, ro30_5, ro30_6, ro30_7, ro30_8, ro30_9, ro30_10, ro30_11, ro30_12, ro30_13⟩
  have hR := hR.up ht_h0 (by decide) k33
  refine lv_iload_n hx hb dX12_back_5 rfl (lv_at hl 1 rfl) ?_
  refine lv_i2l hx hb dX12_back_6 rfl ?_
  refine lv_lconst (v := 0) hx hb dX12_back_7 (by decide) ?_
  refine lv_lconst (v := 1) hx hb dX12_back_8 (by decide) ?_
  have hf_35 : f32 (ρ h0 2) = .inl (κ 0, 12967, .inl g27) := (k33 _ (tp_ne y1 ht_h0 (by decide))).trans hf_o26
  refine pz_calli (va_runS (As := [.long v.toInt64, .long 0, .long 1]) (rest := []) ⟨hx, hb, hml, hown, hts⟩ (t_X12_in l dC dI _ v.toInt64 (0) (1) (v.toInt) (0) (1) (Int32.toInt_toInt64 v) rfl rfl) (va_cwS 3 hts gX12_back_X12_in rfl rfl rfl (by decide +kernel) ⟨Nat.le_of_ble_eq_true rfl, Nat.le_of_ble_eq_true rfl⟩) ⟨pz_blind, pz_pre pz_P0 (hK.sub (tys' := []) [] rfl) (pz_D0 (A := fun _ => True)) hN⟩ rfl rfl hl.1 rfl (lv_room (Nat.le_of_ble_eq_true rfl)) dX12_back_9 ⟨Nat.le_of_ble_eq_true rfl, Nat.le_of_ble_eq_true rfl⟩) (fun r36 hw37 => ?_)
  obtain ⟨hw37r, hw37p⟩ := hw37
  refine lv_if_ne (tgt := 21) hx hb dX12_back_12 (by decide) (fun c38 => ?_) (fun c38 => ?_)
  · have ic38 : r36.toInt ≠ 0 := zi_ne rfl rfl c38
    have p39 : (0) ≤ (v.toInt) ∧ (v.toInt) ≤ (1) := (tp_cond.yes hw37p) (by omega)
    refine lv_aload_n hx hb dX12_back_21 rfl (lv_at hl 0 rfl) ?_
    obtain ⟨q40, eq40⟩ := tp_pos (tp_in hG ht_h0 (by decide)) g34
    refine va_get (D := (dC, dI)) (ci := 12) (v := .ref (ρ h0 4)) (C := RX12) (T := TX12) (N := 53) hx hb hts hfX12 hown hK hP q40 eq40 rfl 4 (by decide) (hts (.fieldLink RX12 16 "ColdShipsModel" "isKept" "[Z") (by decide +kernel)) (fun _ h9 => h9) rfl dX12_back_22 ?_
    refine lv_iload_n hx hb dX12_back_25 rfl (lv_at hl 1 rfl) ?_
    obtain ⟨g42, hf_o41⟩ := tpo_34 hT y3
    obtain ⟨q43, eq43⟩ := tp_pos (tp_in hG y3 (by decide)) hf_o41
    refine va_zald hx hb hK hP q43 3 eq43 rfl (vp_in_iff.mpr ⟨by omega, by omega⟩) dX12_back_26 ?_
    refine lv_topi (fun z44 ez44 => ?_)
    refine lv_if_ne (tgt := 37) hx hb dX12_back_27 (by decide) (fun c45 => ?_) (fun c45 => ?_)
    · have ic45 : z44.toInt ≠ 0 := zi_ne rfl rfl c45
      refine lv_iconst (v := 0) hx hb dX12_back_37 (by decide) ?_
      refine lv_istore_n (lv' := [(2, .int 0), (0, .ref h0), (1, .int v)]) hx hb dX12_back_38 rfl hl (by decide) rfl (fun ls hl => ?_)
      have hf_46 : f32 (ρ h0 3) = .inl (κ 0, 25934, .inl g29) := (k33 _ (tp_ne y2 ht_h0 (by decide))).trans hf_o28
      refine pz_loop (fun n0 H locs ls => ∃ f49 : Nat → va_E, ∃ w47 : Int32, n0 = (12967 - (w47.toInt)).toNat ∧ tp_T (mo_O κ) κ τ ν ρ f49 ∧ tp_F τ [13, 32] f f49 ∧ f49 (ρ h0 3) = .inl (κ 0, 25934, .inl g29) ∧ ((mo_CP (mo_R g27) (fun j => (mo_R g29) (12967 * v.toInt + j)) (mo_R (mo_i (f49 (ρ h0 2)))) 0 (w47.toInt))) ∧ (0 ≤ w47.toInt ∧ w47.toInt ≤ 12967) ∧ va_P (dC, dI) vwCl (va_pl L f49) H ∧ va_D A (va_pl L f49) ∧ va_S A s.heap H locs ∧ lv_has ls 3 [(2, .int w47), (0, .ref h0), (1, .int v)]) ?_ _ _ _ _ ⟨f32, 0, rfl, hT, hR, hf_46, (by rw [hf_35, mo_i1]; exact mo_CP.rf (by decide)), (by have : (0 : Int32).toInt = 0 := rfl; omega), hP, hD, hS, lv_sub hl [0, 1, 2] rfl⟩
      intro n0 H locs ls hI ih51
      obtain ⟨f49, w47, hn52, hT, hR, hk48k, hJ, rw47, hP, hD, hS, hl⟩ := hI
      obtain ⟨g54, hf_o53⟩ := tpo_32 hT y1
      have hI : mo_CP (mo_R g27) (fun j => (mo_R g29) (12967 * v.toInt + j)) (mo_R g54) 0 (w47.toInt) := by have q9 := hJ; rw [hf_o53, mo_i1] at q9; exact q9
      refine lv_iload_n hx hb dX12_back_39 rfl (lv_at hl 0 rfl) ?_
      refine lv_sipush (v := 12967) hx hb dX12_back_40 (by decide) ?_
      refine lv_icmp_ge (tgt := 70) hx hb dX12_back_43 (by decide) (fun c55 => ?_) (fun c55 => ?_)
      · have ic55 : w47.toInt ≥ 12967 := zi_ge rfl rfl c55
        have hI := hIM.get (by omega) (by omega) hI (by omega)
        refine lv_aload_n hx hb dX12_back_70 rfl (lv_at hl 1 rfl) ?_
        refine lv_iconst (v := 0) hx hb dX12_back_71 (by decide) ?_
        obtain ⟨o56_x0, o56_x1, o56_x7, o56_x9, o56_x10, o56_x11, o56_x12, o56_x13, o56_x14, o56_x15, o56_x16, o56_x17, o56_x18, o56_x19, o56_x20, o56_x22, o56_x25, o56_x28, o56_x29, o56_x32, o56_x33, o56_x34, o56_x35, o56_x36, o56_x37, o56_x38, o56_x47, o56_x48, hf_o56, ro56_0, ro56_1, ro56_2, ro56_3, ro56_4, ro56_5, ro56_6, ro56_7, ro56_8, ro56_9, ro56_10, ro56_11, ro56_12, ro56_13⟩ := tpo_13 hT ht_h0
        obtain ⟨q57, eq57⟩ := tp_pos (tp_in hG ht_h0 (by decide)) hf_o56
        have hFc := tp_fr hD hS hA
        refine va_calli (va_runV (As := [.int 0]) (rest := []) ⟨hx, hb, hml, hown, hts⟩ (t_X12_told l dC dI _ κ τ ν ρ L f49 hG hT h0 (0) ht_h0) (cwV 1 hts gX12_back_X12_told rfl rfl rfl (by decide +kernel) ⟨Nat.le_of_ble_eq_true rfl, Nat.le_of_ble_eq_true rfl⟩) ⟨pz_blind, va_recv hK hP (ci := 12) (q0 := q57) rfl eq57, pz_pre hP hK hD hN⟩ rfl rfl hl.1 rfl (lv_room (Nat.le_of_ble_eq_true rfl)) dX12_back_72 ⟨Nat.le_of_ble_eq_true rfl, Nat.le_of_ble_eq_true rfl⟩) hS (fun q _ h => hFc q h) hFc (fun r58 f60 t H1 locs ht hvm hw59 hB hz1 hk1 hS => ?_)
        obtain ⟨hT, hF61, hw59r, hw59p⟩ := hw59
        have hR := hR.then hF61 (by decide)
        have hP := hB.1; rw [ht] at hP; have hD := tp_ad f60 hD; clear hB hFc hz1 hk1; subst ht; generalize t.heap = H at hP hS ⊢
        have hw59pq : r58.toInt = 0 := by rw [hw59p]; rfl
        have hf_62 : f60 (ρ h0 2) = .inl (κ 0, 12967, .inl g54) := (hF61 _ (by rw [y1]; decide)).trans hf_o53
        exact W.iret (v := r58) hx hb hr (fun t ht hW => ⟨⟨r58, f60, rfl, ⟨hT, hR, trivial, (by rw [hf_62, mo_i1]; exact hI)⟩, by rw [ht]; exact hP, va_K.moved hW.alike hK, hD⟩, hS.F ht⟩) hS.2.2 dX12_back_75
      · have ic55 : w47.toInt < 12967 := zi_gef rfl rfl c55
        refine lv_aload_n hx hb dX12_back_46 rfl (lv_at hl 1 rfl) ?_
        obtain ⟨o63_x0, o63_x1, o63_x7, o63_x9, o63_x10, o63_x11, o63_x12, o63_x13, o63_x14, o63_x15, o63_x16, o63_x17, o63_x18, o63_x19, o63_x20, o63_x22, o63_x25, o63_x28, o63_x29, o63_x32, o63_x33, o63_x34, o63_x35, o63_x36, o63_x37, o63_x38, o63_x47, o63_x48, hf_o63, ro63_0, ro63_1, ro63_2, ro63_3, ro63_4, ro63_5, ro63_6, ro63_7, ro63_8, ro63_9, ro63_10, ro63_11, ro63_12, ro63_13⟩ := tpo_13 hT ht_h0
        obtain ⟨q64, eq64⟩ := tp_pos (tp_in hG ht_h0 (by decide)) hf_o63
        refine va_get (D := (dC, dI)) (ci := 12) (v := .ref (ρ h0 2)) (C := RX12) (T := TX12) (N := 53) hx hb hts hfX12 hown hK hP q64 eq64 rfl 2 (by decide) (hts (.fieldLink RX12 7 "ColdShipsModel" "row" "[I") (by decide +kernel)) (fun _ h9 => h9) rfl dX12_back_47 ?_
        refine lv_iload_n hx hb dX12_back_50 rfl (lv_at hl 0 rfl) ?_
        refine lv_aload_n hx hb dX12_back_51 rfl (lv_at hl 1 rfl) ?_
        refine va_get (D := (dC, dI)) (ci := 12) (v := .ref (ρ h0 3)) (C := RX12) (T := TX12) (N := 53) hx hb hts hfX12 hown hK hP q64 eq64 rfl 3 (by decide) (hts (.fieldLink RX12 13 "ColdShipsModel" "images" "[I") (by decide +kernel)) (fun _ h9 => h9) rfl dX12_back_52 ?_
        refine lv_sipush (v := 12967) hx hb dX12_back_55 (by decide) ?_
        refine lv_iload_n hx hb dX12_back_58 rfl (lv_at hl 2 rfl) ?_
        refine lv_imul hx hb dX12_back_59 ?_
        refine lv_topi (fun z65 ez65 => ?_)
        have iz65 : z65.toInt = 12967 * v.toInt := zi_mul ez65 rfl rfl (by omega) (by omega)
        refine lv_iload_n hx hb dX12_back_60 rfl (lv_at hl 0 rfl) ?_
        refine lv_iadd hx hb dX12_back_61 ?_
        refine lv_topi (fun z66 ez66 => ?_)
        have iz66 : z66.toInt = z65.toInt + w47.toInt := zi_add ez66 rfl rfl (by omega) (by omega)
        obtain ⟨q67, eq67⟩ := tp_pos (tp_in hG y2 (by decide)) hk48k
        refine va_iald hx hb hK hP q67 0 eq67 rfl (vp_in_iff.mpr ⟨by omega, by omega⟩) dX12_back_62 ?_
        refine lv_topi (fun z68 ez68 => ?_)
        have jz68 : z68.toInt = mo_R g29 (12967 * v.toInt + w47.toInt) := mo_rd ez68 (by omega)
        obtain ⟨q69, eq69⟩ := tp_pos (tp_in hG y1 (by decide)) hf_o53
        refine va_iast hx hb hK hP hD hS q69 0 eq69 rfl (vp_in_iff.mpr ⟨by omega, by omega⟩) dX12_back_63 (tp_k (.inl (κ 0, 12967, .inl (upd g54 w47.toNatClampNeg z68))) hD (tp_in hG y1 (by decide)) eq69 (fun f70 H locs hP hD hS g72 k71 => ?_))
        have hT := hT.up y1 g72 k71 tp_o32
        have hR := hR.up y1 (by decide) k71
        have hU : mo_U (mo_R g54) (mo_R (upd g54 w47.toNatClampNeg z68)) (0 + w47.toInt) (z68.toInt) := mo_up (by omega) (rfl : z68.toInt = _) (by omega)
        generalize (upd g54 w47.toNatClampNeg z68) = g73 at g72 hU
        have hI := mo_CP.up hI hU (by omega) (by show z68.toInt = (mo_R g29) (12967 * v.toInt + w47.toInt); omega) (by omega) (w47.toInt + 1) (by omega)
        have pn74 : mo_R g73 (0 + w47.toInt) = z68.toInt := hU.eq (by omega)
        obtain ⟨z75, ez75⟩ : ∃ y : Int32, y = w47 + 1 := ⟨_, rfl⟩
        refine lv_iinc (v := z75) (lv' := [(2, .int z75), (0, .ref h0), (1, .int v)]) hx hb dX12_back_64 hl (k := 0) rfl (by rw [ez75]; rfl) (by decide) rfl (fun ls hl => ?_)
        have iz75 : z75.toInt = w47.toInt + 1 := zi_add ez75 rfl rfl (by omega) (by omega)
        refine lv_goto (tgt := 39) hx hb dX12_back_67 (by decide) ?_
        have hf_76 : f70 (ρ h0 3) = .inl (κ 0, 25934, .inl g29) := (k71 _ (tp_ne y2 y1 (by decide))).trans hk48k
        exact ih51 _ _ _ _ (by rw [hn52]; omega) ⟨f70, z75, rfl, hT, hR, hf_76, (by rw [g72, mo_i1]; exact hI), (by omega), hP, hD, hS, lv_sub hl [0, 1, 2] rfl⟩
    · have ic45 : z44.toInt = 0 := zi_nef rfl rfl c45
      refine lv_aload_n hx hb dX12_back_30 rfl (lv_at hl 0 rfl) ?_
      refine lv_bipush (v := (-2)) hx hb dX12_back_31 (by decide) ?_
      have hFc := tp_fr hD hS hA
      refine va_calli (va_runV (As := [.int (-2)]) (rest := []) ⟨hx, hb, hml, hown, hts⟩ (t_X12_told l dC dI _ κ τ ν ρ L f32 hG hT h0 ((-2)) ht_h0) (cwV 1 hts gX12_back_X12_told rfl rfl rfl (by decide +kernel) ⟨Nat.le_of_ble_eq_true rfl, Nat.le_of_ble_eq_true rfl⟩) ⟨pz_blind, va_recv hK hP (ci := 12) (q0 := q40) rfl eq40, pz_pre hP hK hD hN⟩ rfl rfl hl.1 rfl (lv_room (Nat.le_of_ble_eq_true rfl)) dX12_back_33 ⟨Nat.le_of_ble_eq_true rfl, Nat.le_of_ble_eq_true rfl⟩) hS (fun q _ h => hFc q h) hFc (fun r77 f79 t H1 locs ht hvm hw78 hB hz1 hk1 hS => ?_)
      obtain ⟨hT, hF80, hw78r, hw78p⟩ := hw78
      have hR := hR.then hF80 (by decide)
      have hP := hB.1; rw [ht] at hP; have hD := tp_ad f79 hD; clear hB hFc hz1 hk1; subst ht; generalize t.heap = H at hP hS ⊢
      have hw78pq : r77.toInt = (-2) := by rw [hw78p]; rfl
      have hf_81 : f79 (ρ h0 2) = .inl (κ 0, 12967, .inl g27) := (hF80 _ (by rw [y1]; decide)).trans hf_35
      exact W.iret (v := r77) hx hb hr (fun t ht hW => ⟨⟨r77, f79, rfl, ⟨hT, hR, trivial, (by rw [hf_81, mo_i1]; exact hI)⟩, by rw [ht]; exact hP, va_K.moved hW.alike hK, hD⟩, hS.F ht⟩) hS.2.2 dX12_back_36
  · have ic38 : r36.toInt = 0 := zi_nef rfl rfl c38
    refine lv_aload_n hx hb dX12_back_15 rfl (lv_at hl 0 rfl) ?_
    refine lv_iconst (v := (-1)) hx hb dX12_back_16 (by decide) ?_
    obtain ⟨q82, eq82⟩ := tp_pos (tp_in hG ht_h0 (by decide)) g34
    have hFc := tp_fr hD hS hA
    refine va_calli (va_runV (As := [.int (-1)]) (rest := []) ⟨hx, hb, hml, hown, hts⟩ (t_X12_told l dC dI _ κ τ ν ρ L f32 hG hT h0 ((-1)) ht_h0) (cwV 1 hts gX12_back_X12_told rfl rfl rfl (by decide +kernel) ⟨Nat.le_of_ble_eq_true rfl, Nat.le_of_ble_eq_true rfl⟩) ⟨pz_blind, va_recv hK hP (ci := 12) (q0 := q82) rfl eq82, pz_pre hP hK hD hN⟩ rfl rfl hl.1 rfl (lv_room (Nat.le_of_ble_eq_true rfl)) dX12_back_17 ⟨Nat.le_of_ble_eq_true rfl, Nat.le_of_ble_eq_true rfl⟩) hS (fun q _ h => hFc q h) hFc (fun r83 f85 t H1 locs ht hvm hw84 hB hz1 hk1 hS => ?_)
    obtain ⟨hT, hF86, hw84r, hw84p⟩ := hw84
    have hR := hR.then hF86 (by decide)
    have hP := hB.1; rw [ht] at hP; have hD := tp_ad f85 hD; clear hB hFc hz1 hk1; subst ht; generalize t.heap = H at hP hS ⊢
    have hw84pq : r83.toInt = (-1) := by rw [hw84p]; rfl
    have hf_87 : f85 (ρ h0 2) = .inl (κ 0, 12967, .inl g27) := (hF86 _ (by rw [y1]; decide)).trans hf_35
    exact W.iret (v := r83) hx hb hr (fun t ht hW => ⟨⟨r83, f85, rfl, ⟨hT, hR, trivial, (by rw [hf_87, mo_i1]; exact hI)⟩, by rw [ht]; exact hP, va_K.moved hW.alike hK, hD⟩, hS.F ht⟩) hS.2.2 dX12_back_20
